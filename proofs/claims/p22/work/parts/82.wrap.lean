/-! THE LAW'S WRAPPERS: a call's answer, or a number for its exception -/
def vI (r : kR) : Int32 := if r.1 = 0 then r.2.1 else -2000000001
def vIA (r : kR) : Int32 := if r.1 = 0 then r.2.1 else if r.1 = 1 then -2000000001 else -2000000002
def vIS (r : kR) : Int32 := if r.1 = 0 then r.2.1 else if r.1 = 1 then -2000000001 else -2000000003
def vIAS (r : kR) : Int32 := if r.1 = 0 then r.2.1 else if r.1 = 1 then -2000000001 else if r.1 = 2 then -2000000002 else -2000000003
theorem kV_mid {G : kG} {a b c : va_W} {H : Heap} (h : kV G (a ++ (b ++ c)) H) : kV G (b ++ (a ++ c)) H := kV_wc h (fun e => by simp only [wc_app]; omega)
set_option maxHeartbeats 4000000 in
set_option maxRecDepth 100000 in
theorem c_L_begins (l : Launch) (G : kG) (S : kS) (y : kY) (yh : Nat) (wr : va_W) (x0 : Int32) (x1 : Int32) (x2 : Int32) (rr : kR) (hr : opBegin S x0 x1 x2 = rr) (hlt : l.stackTraces = false) (hh : yH y 0 = yh) (hI : kInv S) (hY : yI G S y) : Met l yL_begins wsL_begins ({ frames := 9, cells := 16, slots := 1760, locals := 238 } : Room) (kPc G [.ref (yh), .int (x0), .int (x1), .int (x2)] (siteW G S y ++ wr)) (kQi G (S := kY) (fun z u => z = vIAS rr ∧ yI G rr.2.2 u ∧ yH u 0 = yh) (fun u => siteW G rr.2.2 u ++ wr)) 16 1760 (kA G) := by
  refine va_MetW (cc := cL_begins) (maxL := 5) (ret := (some .int)) (by decide) rfl ?_
  intro pp ee s m args below meth cc0 s₁ Bd0 hml hv
  obtain ⟨rfl, hE, hV⟩ := hv
  have hK := hE.1
  have hx := Bd0.exec
  have hb := Bd0.bytes
  have hrt := Bd0.returns
  have hts := atoms_spec (ws := wsL_begins) Bd0.pre
  have hown : s.vm.findClass RL = some m.cls := findClass_of_methodNamed Bd0.named
  have hlocks := Bd0.notSynchronized
  have htab := vx_table (x := yL_begins) Bd0 (hts (Cond.codeWith yL_begins cL_begins 5 (some .int) [(0, 7, 8, 13), (0, 7, 13, 16), (0, 7, 18, 19)]) (List.mem_of_getElem? (i := 0) rfl))
  have hF : CallFix pp m cc0 cL_begins 5 s _ wsL_begins RL := ⟨hx, hb, hml, hown, hts⟩
  have hS : va_S (kA G) s.heap s.heap [] := va_S.rf
  have hB0 := hE.2.1
  have hl := lv_entry ([.ref (yh), .int (x0), .int (x1), .int (x2)]) (n := 5) (Nat.le_of_ble_eq_true rfl)
  rw [lg_entry_eq]
  generalize (lg_sl ([.ref (yh), .int (x0), .int (x1), .int (x2)]) ++ List.replicate (5 - (lg_sl ([.ref (yh), .int (x0), .int (x1), .int (x2)])).length) Slot.unset).toArray = ls at hl ⊢
  have hl : lv_has ls 5 [(0, .ref (yh)), (1, .int (x0)), (2, .int (x1)), (3, .int (x2))] := hl
  subst hr
  subst hh
  refine lv_aload_n hx hb dL_begins_0 rfl (lv_at hl 0 rfl) ?_
  refine lv_iload_n hx hb dL_begins_1 rfl (lv_at hl 1 rfl) ?_
  refine lv_iload_n hx hb dL_begins_2 rfl (lv_at hl 2 rfl) ?_
  refine lv_iload_n hx hb dL_begins_3 rfl (lv_at hl 3 rfl) ?_
  refine kx_i (vx_runV (As := [.int (x0), .int (x1), .int (x2)]) (rest := []) hF (c_X5_begin l hlt G S y wr x0 x1 x2 hI hY) (cwV 3 hts gL_begins_X5_begin rfl rfl rfl (by decide +kernel) ⟨Nat.le_of_ble_eq_true rfl, Nat.le_of_ble_eq_true rfl⟩) (kPreV hE hS hV 0 rfl rfl) rfl rfl hl.1 rfl (lv_room (Nat.le_of_ble_eq_true rfl)) dL_begins_4 ⟨Nat.le_of_ble_eq_true rfl, Nat.le_of_ble_eq_true rfl⟩) hS (fun E ce q9 H locs hxc hV hS hq1 hq2 hq3 => ?_) (fun r_3 u_2 H locs hp_1 hV hS => ?_)
  · rcases hxc with ⟨rfl, he9⟩ | ⟨rfl, he9⟩ | ⟨rfl, he9⟩
    · have hop9 : (opBegin S x0 x1 x2).2.2 = S := by
        have he8 : (opBegin S x0 x1 x2).1 ≠ 0 := by omega
        revert he8
        unfold opBegin kif
        (repeat' split) <;> first | exact fun _ => rfl | exact fun z => absurd rfl z
      refine vx_catch (name := "java/lang/IndexOutOfBoundsException") hown [] ⟨0, 7, 8, 13⟩ [⟨0, 7, 13, 16⟩, ⟨0, 7, 18, 19⟩] htab (fun z h => (List.not_mem_nil h).elim) (by decide) (by decide) (hts (Cond.classLink RL 13 "java/lang/IndexOutOfBoundsException") (List.mem_of_getElem? (i := 1) rfl)) ((hE.2.2.1 (.castable kIOB kIOB) (by decide +kernel)).use rfl) hq1 hq2 hq3 ?_
      refine lv_astore (lv' := [(4, .ref (q9)), (0, .ref (yH y 0)), (1, .int (x0)), (2, .int (x1)), (3, .int (x2))]) hx hb dL_begins_8 hl (by decide) rfl (fun ls hl => ?_)
      refine lv_ldc (v := -2000000001) hx hb hown (hts (Cond.constant RL 15 (-2000000001)) (List.mem_of_getElem? (i := 4) rfl)) dL_begins_10 ?_
      exact W.iret (v := (-2000000001)) hx hb hrt (fun t ht hW => ⟨⟨_, y, rfl, ⟨by unfold vIAS; rw [if_neg (show ¬ (opBegin S x0 x1 x2).1 = 0 by omega), if_pos (show (opBegin S x0 x1 x2).1 = 1 from he9)], by rw [hop9]; exact hY, rfl⟩, kV_eq ht (show kV G (siteW G (opBegin S x0 x1 x2).2.2 y ++ wr) _ by rw [hop9]; exact hV)⟩, hS.F ht⟩) hS.2.2 dL_begins_12
    · have hop9 : (opBegin S x0 x1 x2).2.2 = S := by
        have he8 : (opBegin S x0 x1 x2).1 ≠ 0 := by omega
        revert he8
        unfold opBegin kif
        (repeat' split) <;> first | exact fun _ => rfl | exact fun z => absurd rfl z
      refine vx_catch (name := "java/lang/IllegalArgumentException") hown [⟨0, 7, 8, 13⟩] ⟨0, 7, 13, 16⟩ [⟨0, 7, 18, 19⟩] htab (fun z h => by
          rcases List.mem_cons.mp h with h | h
          · subst h; exact Or.inr ⟨by decide, _, (hts (Cond.classLink RL 13 "java/lang/IndexOutOfBoundsException") (List.mem_of_getElem? (i := 1) rfl)), hE.2.2.2.1 (kIAE, kIOB) (by decide +kernel)⟩
          · exact (List.not_mem_nil h).elim) (by decide) (by decide) (hts (Cond.classLink RL 16 "java/lang/IllegalArgumentException") (List.mem_of_getElem? (i := 2) rfl)) ((hE.2.2.1 (.castable kIAE kIAE) (by decide +kernel)).use rfl) hq1 hq2 hq3 ?_
      refine lv_astore (lv' := [(4, .ref (q9)), (0, .ref (yH y 0)), (1, .int (x0)), (2, .int (x1)), (3, .int (x2))]) hx hb dL_begins_13 hl (by decide) rfl (fun ls hl => ?_)
      refine lv_ldc (v := -2000000002) hx hb hown (hts (Cond.constant RL 18 (-2000000002)) (List.mem_of_getElem? (i := 5) rfl)) dL_begins_15 ?_
      exact W.iret (v := (-2000000002)) hx hb hrt (fun t ht hW => ⟨⟨_, y, rfl, ⟨by unfold vIAS; rw [if_neg (show ¬ (opBegin S x0 x1 x2).1 = 0 by omega), if_neg (show ¬ (opBegin S x0 x1 x2).1 = 1 by omega), if_pos (show (opBegin S x0 x1 x2).1 = 2 from he9)], by rw [hop9]; exact hY, rfl⟩, kV_eq ht (show kV G (siteW G (opBegin S x0 x1 x2).2.2 y ++ wr) _ by rw [hop9]; exact hV)⟩, hS.F ht⟩) hS.2.2 dL_begins_17
    · have hop9 : (opBegin S x0 x1 x2).2.2 = S := by
        have he8 : (opBegin S x0 x1 x2).1 ≠ 0 := by omega
        revert he8
        unfold opBegin kif
        (repeat' split) <;> first | exact fun _ => rfl | exact fun z => absurd rfl z
      refine vx_catch (name := "java/lang/IllegalStateException") hown [⟨0, 7, 8, 13⟩, ⟨0, 7, 13, 16⟩] ⟨0, 7, 18, 19⟩ [] htab (fun z h => by
          rcases List.mem_cons.mp h with h | h
          · subst h; exact Or.inr ⟨by decide, _, (hts (Cond.classLink RL 13 "java/lang/IndexOutOfBoundsException") (List.mem_of_getElem? (i := 1) rfl)), hE.2.2.2.1 (kISE, kIOB) (by decide +kernel)⟩
          · rcases List.mem_cons.mp h with h | h
            · subst h; exact Or.inr ⟨by decide, _, (hts (Cond.classLink RL 16 "java/lang/IllegalArgumentException") (List.mem_of_getElem? (i := 2) rfl)), hE.2.2.2.1 (kISE, kIAE) (by decide +kernel)⟩
            · exact (List.not_mem_nil h).elim) (by decide) (by decide) (hts (Cond.classLink RL 19 "java/lang/IllegalStateException") (List.mem_of_getElem? (i := 3) rfl)) ((hE.2.2.1 (.castable kISE kISE) (by decide +kernel)).use rfl) hq1 hq2 hq3 ?_
      refine lv_astore (lv' := [(4, .ref (q9)), (0, .ref (yH y 0)), (1, .int (x0)), (2, .int (x1)), (3, .int (x2))]) hx hb dL_begins_18 hl (by decide) rfl (fun ls hl => ?_)
      refine lv_ldc (v := -2000000003) hx hb hown (hts (Cond.constant RL 21 (-2000000003)) (List.mem_of_getElem? (i := 6) rfl)) dL_begins_20 ?_
      exact W.iret (v := (-2000000003)) hx hb hrt (fun t ht hW => ⟨⟨_, y, rfl, ⟨by unfold vIAS; rw [if_neg (show ¬ (opBegin S x0 x1 x2).1 = 0 by omega), if_neg (show ¬ (opBegin S x0 x1 x2).1 = 1 by omega), if_neg (show ¬ (opBegin S x0 x1 x2).1 = 2 by omega)], by rw [hop9]; exact hY, rfl⟩, kV_eq ht (show kV G (siteW G (opBegin S x0 x1 x2).2.2 y ++ wr) _ by rw [hop9]; exact hV)⟩, hS.F ht⟩) hS.2.2 dL_begins_22
  · obtain ⟨hp_10, hp_11, hp_12, hp_13⟩ := hp_1
    subst hp_11
    have hV : kV G (siteW G ((opBegin S x0 x1 x2).2.2) u_2 ++ wr) _ := hV
    exact W.iret (v := ((opBegin S x0 x1 x2).2.1)) hx hb hrt (fun t ht hW => ⟨⟨_, u_2, rfl, ⟨by unfold vIAS; rw [if_pos hp_10], hp_12, hp_13⟩, kV_eq ht hV⟩, hS.F ht⟩) hS.2.2 dL_begins_7
set_option maxHeartbeats 4000000 in
set_option maxRecDepth 100000 in
theorem c_L_lines (l : Launch) (G : kG) (S : kS) (y : kY) (yh : Nat) (wr : va_W) (x0 : Int32) (x1 : Int32) (x2 : Int32) (x3 : Int32) (x4 : Int32) (rr : kR) (hr : opLine S x0 x1 x2 x3 x4 = rr) (hlt : l.stackTraces = false) (hh : yH y 0 = yh) (hI : kInv S) (hY : yI G S y) : Met l yL_lines wsL_lines ({ frames := 8, cells := 6, slots := 36, locals := 139 } : Room) (kPc G [.ref (yh), .int (x0), .int (x1), .int (x2), .int (x3), .int (x4)] (siteW G S y ++ wr)) (kQi G (S := kY) (fun z u => z = vIAS rr ∧ yI G rr.2.2 u ∧ yH u 0 = yh) (fun u => siteW G rr.2.2 u ++ wr)) 6 36 (kA G) := by
  refine va_MetW (cc := cL_lines) (maxL := 7) (ret := (some .int)) (by decide) rfl ?_
  intro pp ee s m args below meth cc0 s₁ Bd0 hml hv
  obtain ⟨rfl, hE, hV⟩ := hv
  have hK := hE.1
  have hx := Bd0.exec
  have hb := Bd0.bytes
  have hrt := Bd0.returns
  have hts := atoms_spec (ws := wsL_lines) Bd0.pre
  have hown : s.vm.findClass RL = some m.cls := findClass_of_methodNamed Bd0.named
  have hlocks := Bd0.notSynchronized
  have htab := vx_table (x := yL_lines) Bd0 (hts (Cond.codeWith yL_lines cL_lines 7 (some .int) [(0, 11, 12, 13), (0, 11, 17, 16), (0, 11, 22, 19)]) (List.mem_of_getElem? (i := 0) rfl))
  have hF : CallFix pp m cc0 cL_lines 7 s _ wsL_lines RL := ⟨hx, hb, hml, hown, hts⟩
  have hS : va_S (kA G) s.heap s.heap [] := va_S.rf
  have hB0 := hE.2.1
  have hl := lv_entry ([.ref (yh), .int (x0), .int (x1), .int (x2), .int (x3), .int (x4)]) (n := 7) (Nat.le_of_ble_eq_true rfl)
  rw [lg_entry_eq]
  generalize (lg_sl ([.ref (yh), .int (x0), .int (x1), .int (x2), .int (x3), .int (x4)]) ++ List.replicate (7 - (lg_sl ([.ref (yh), .int (x0), .int (x1), .int (x2), .int (x3), .int (x4)])).length) Slot.unset).toArray = ls at hl ⊢
  have hl : lv_has ls 7 [(0, .ref (yh)), (1, .int (x0)), (2, .int (x1)), (3, .int (x2)), (4, .int (x3)), (5, .int (x4))] := hl
  subst hr
  subst hh
  refine lv_aload_n hx hb dL_lines_0 rfl (lv_at hl 0 rfl) ?_
  refine lv_iload_n hx hb dL_lines_1 rfl (lv_at hl 1 rfl) ?_
  refine lv_iload_n hx hb dL_lines_2 rfl (lv_at hl 2 rfl) ?_
  refine lv_iload_n hx hb dL_lines_3 rfl (lv_at hl 3 rfl) ?_
  refine lv_iload hx hb dL_lines_4 (lv_at hl 4 rfl) ?_
  refine lv_iload hx hb dL_lines_6 (lv_at hl 5 rfl) ?_
  refine kx_i (vx_runV (As := [.int (x0), .int (x1), .int (x2), .int (x3), .int (x4)]) (rest := []) hF (c_X5_line l hlt G S y wr x0 x1 x2 x3 x4 hI hY) (cwV 5 hts gL_lines_X5_line rfl rfl rfl (by decide +kernel) ⟨Nat.le_of_ble_eq_true rfl, Nat.le_of_ble_eq_true rfl⟩) (kPreV hE hS hV 0 rfl rfl) rfl rfl hl.1 rfl (lv_room (Nat.le_of_ble_eq_true rfl)) dL_lines_8 ⟨Nat.le_of_ble_eq_true rfl, Nat.le_of_ble_eq_true rfl⟩) hS (fun E ce q9 H locs hxc hV hS hq1 hq2 hq3 => ?_) (fun r_3 u_2 H locs hp_1 hV hS => ?_)
  · rcases hxc with ⟨rfl, he9⟩ | ⟨rfl, he9⟩ | ⟨rfl, he9⟩
    · have hop9 : (opLine S x0 x1 x2 x3 x4).2.2 = S := by
        have he8 : (opLine S x0 x1 x2 x3 x4).1 ≠ 0 := by omega
        revert he8
        unfold opLine kif
        (repeat' split) <;> first | exact fun _ => rfl | exact fun z => absurd rfl z
      refine vx_catch (name := "java/lang/IndexOutOfBoundsException") hown [] ⟨0, 11, 12, 13⟩ [⟨0, 11, 17, 16⟩, ⟨0, 11, 22, 19⟩] htab (fun z h => (List.not_mem_nil h).elim) (by decide) (by decide) (hts (Cond.classLink RL 13 "java/lang/IndexOutOfBoundsException") (List.mem_of_getElem? (i := 1) rfl)) ((hE.2.2.1 (.castable kIOB kIOB) (by decide +kernel)).use rfl) hq1 hq2 hq3 ?_
      refine lv_astore (lv' := [(6, .ref (q9)), (0, .ref (yH y 0)), (1, .int (x0)), (2, .int (x1)), (3, .int (x2)), (4, .int (x3)), (5, .int (x4))]) hx hb dL_lines_12 hl (by decide) rfl (fun ls hl => ?_)
      refine lv_ldc (v := -2000000001) hx hb hown (hts (Cond.constant RL 15 (-2000000001)) (List.mem_of_getElem? (i := 4) rfl)) dL_lines_14 ?_
      exact W.iret (v := (-2000000001)) hx hb hrt (fun t ht hW => ⟨⟨_, y, rfl, ⟨by unfold vIAS; rw [if_neg (show ¬ (opLine S x0 x1 x2 x3 x4).1 = 0 by omega), if_pos (show (opLine S x0 x1 x2 x3 x4).1 = 1 from he9)], by rw [hop9]; exact hY, rfl⟩, kV_eq ht (show kV G (siteW G (opLine S x0 x1 x2 x3 x4).2.2 y ++ wr) _ by rw [hop9]; exact hV)⟩, hS.F ht⟩) hS.2.2 dL_lines_16
    · have hop9 : (opLine S x0 x1 x2 x3 x4).2.2 = S := by
        have he8 : (opLine S x0 x1 x2 x3 x4).1 ≠ 0 := by omega
        revert he8
        unfold opLine kif
        (repeat' split) <;> first | exact fun _ => rfl | exact fun z => absurd rfl z
      refine vx_catch (name := "java/lang/IllegalArgumentException") hown [⟨0, 11, 12, 13⟩] ⟨0, 11, 17, 16⟩ [⟨0, 11, 22, 19⟩] htab (fun z h => by
          rcases List.mem_cons.mp h with h | h
          · subst h; exact Or.inr ⟨by decide, _, (hts (Cond.classLink RL 13 "java/lang/IndexOutOfBoundsException") (List.mem_of_getElem? (i := 1) rfl)), hE.2.2.2.1 (kIAE, kIOB) (by decide +kernel)⟩
          · exact (List.not_mem_nil h).elim) (by decide) (by decide) (hts (Cond.classLink RL 16 "java/lang/IllegalArgumentException") (List.mem_of_getElem? (i := 2) rfl)) ((hE.2.2.1 (.castable kIAE kIAE) (by decide +kernel)).use rfl) hq1 hq2 hq3 ?_
      refine lv_astore (lv' := [(6, .ref (q9)), (0, .ref (yH y 0)), (1, .int (x0)), (2, .int (x1)), (3, .int (x2)), (4, .int (x3)), (5, .int (x4))]) hx hb dL_lines_17 hl (by decide) rfl (fun ls hl => ?_)
      refine lv_ldc (v := -2000000002) hx hb hown (hts (Cond.constant RL 18 (-2000000002)) (List.mem_of_getElem? (i := 5) rfl)) dL_lines_19 ?_
      exact W.iret (v := (-2000000002)) hx hb hrt (fun t ht hW => ⟨⟨_, y, rfl, ⟨by unfold vIAS; rw [if_neg (show ¬ (opLine S x0 x1 x2 x3 x4).1 = 0 by omega), if_neg (show ¬ (opLine S x0 x1 x2 x3 x4).1 = 1 by omega), if_pos (show (opLine S x0 x1 x2 x3 x4).1 = 2 from he9)], by rw [hop9]; exact hY, rfl⟩, kV_eq ht (show kV G (siteW G (opLine S x0 x1 x2 x3 x4).2.2 y ++ wr) _ by rw [hop9]; exact hV)⟩, hS.F ht⟩) hS.2.2 dL_lines_21
    · have hop9 : (opLine S x0 x1 x2 x3 x4).2.2 = S := by
        have he8 : (opLine S x0 x1 x2 x3 x4).1 ≠ 0 := by omega
        revert he8
        unfold opLine kif
        (repeat' split) <;> first | exact fun _ => rfl | exact fun z => absurd rfl z
      refine vx_catch (name := "java/lang/IllegalStateException") hown [⟨0, 11, 12, 13⟩, ⟨0, 11, 17, 16⟩] ⟨0, 11, 22, 19⟩ [] htab (fun z h => by
          rcases List.mem_cons.mp h with h | h
          · subst h; exact Or.inr ⟨by decide, _, (hts (Cond.classLink RL 13 "java/lang/IndexOutOfBoundsException") (List.mem_of_getElem? (i := 1) rfl)), hE.2.2.2.1 (kISE, kIOB) (by decide +kernel)⟩
          · rcases List.mem_cons.mp h with h | h
            · subst h; exact Or.inr ⟨by decide, _, (hts (Cond.classLink RL 16 "java/lang/IllegalArgumentException") (List.mem_of_getElem? (i := 2) rfl)), hE.2.2.2.1 (kISE, kIAE) (by decide +kernel)⟩
            · exact (List.not_mem_nil h).elim) (by decide) (by decide) (hts (Cond.classLink RL 19 "java/lang/IllegalStateException") (List.mem_of_getElem? (i := 3) rfl)) ((hE.2.2.1 (.castable kISE kISE) (by decide +kernel)).use rfl) hq1 hq2 hq3 ?_
      refine lv_astore (lv' := [(6, .ref (q9)), (0, .ref (yH y 0)), (1, .int (x0)), (2, .int (x1)), (3, .int (x2)), (4, .int (x3)), (5, .int (x4))]) hx hb dL_lines_22 hl (by decide) rfl (fun ls hl => ?_)
      refine lv_ldc (v := -2000000003) hx hb hown (hts (Cond.constant RL 21 (-2000000003)) (List.mem_of_getElem? (i := 6) rfl)) dL_lines_24 ?_
      exact W.iret (v := (-2000000003)) hx hb hrt (fun t ht hW => ⟨⟨_, y, rfl, ⟨by unfold vIAS; rw [if_neg (show ¬ (opLine S x0 x1 x2 x3 x4).1 = 0 by omega), if_neg (show ¬ (opLine S x0 x1 x2 x3 x4).1 = 1 by omega), if_neg (show ¬ (opLine S x0 x1 x2 x3 x4).1 = 2 by omega)], by rw [hop9]; exact hY, rfl⟩, kV_eq ht (show kV G (siteW G (opLine S x0 x1 x2 x3 x4).2.2 y ++ wr) _ by rw [hop9]; exact hV)⟩, hS.F ht⟩) hS.2.2 dL_lines_26
  · obtain ⟨hp_10, hp_11, hp_12, hp_13⟩ := hp_1
    subst hp_11
    have hV : kV G (siteW G ((opLine S x0 x1 x2 x3 x4).2.2) u_2 ++ wr) _ := hV
    exact W.iret (v := ((opLine S x0 x1 x2 x3 x4).2.1)) hx hb hrt (fun t ht hW => ⟨⟨_, u_2, rfl, ⟨by unfold vIAS; rw [if_pos hp_10], hp_12, hp_13⟩, kV_eq ht hV⟩, hS.F ht⟩) hS.2.2 dL_lines_11
set_option maxHeartbeats 4000000 in
set_option maxRecDepth 100000 in
theorem c_L_anews (l : Launch) (G : kG) (S : kS) (y : kY) (yh : Nat) (wr : va_W) (x0 : Int32) (x1 : Int32) (rr : kR) (hr : opAnew S x0 x1 = rr) (hlt : l.stackTraces = false) (hh : yH y 0 = yh) (hI : kInv S) (hY : yI G S y) : Met l yL_anews wsL_anews ({ frames := 9, cells := 18, slots := 1772, locals := 240 } : Room) (kPc G [.ref (yh), .int (x0), .int (x1)] (siteW G S y ++ wr)) (kQi G (S := kY) (fun z u => z = vIAS rr ∧ yI G rr.2.2 u ∧ yH u 0 = yh) (fun u => siteW G rr.2.2 u ++ wr)) 18 1772 (kA G) := by
  refine va_MetW (cc := cL_anews) (maxL := 4) (ret := (some .int)) (by decide) rfl ?_
  intro pp ee s m args below meth cc0 s₁ Bd0 hml hv
  obtain ⟨rfl, hE, hV⟩ := hv
  have hK := hE.1
  have hx := Bd0.exec
  have hb := Bd0.bytes
  have hrt := Bd0.returns
  have hts := atoms_spec (ws := wsL_anews) Bd0.pre
  have hown : s.vm.findClass RL = some m.cls := findClass_of_methodNamed Bd0.named
  have hlocks := Bd0.notSynchronized
  have htab := vx_table (x := yL_anews) Bd0 (hts (Cond.codeWith yL_anews cL_anews 4 (some .int) [(0, 6, 7, 13), (0, 6, 11, 16), (0, 6, 15, 19)]) (List.mem_of_getElem? (i := 0) rfl))
  have hF : CallFix pp m cc0 cL_anews 4 s _ wsL_anews RL := ⟨hx, hb, hml, hown, hts⟩
  have hS : va_S (kA G) s.heap s.heap [] := va_S.rf
  have hB0 := hE.2.1
  have hl := lv_entry ([.ref (yh), .int (x0), .int (x1)]) (n := 4) (Nat.le_of_ble_eq_true rfl)
  rw [lg_entry_eq]
  generalize (lg_sl ([.ref (yh), .int (x0), .int (x1)]) ++ List.replicate (4 - (lg_sl ([.ref (yh), .int (x0), .int (x1)])).length) Slot.unset).toArray = ls at hl ⊢
  have hl : lv_has ls 4 [(0, .ref (yh)), (1, .int (x0)), (2, .int (x1))] := hl
  subst hr
  subst hh
  refine lv_aload_n hx hb dL_anews_0 rfl (lv_at hl 0 rfl) ?_
  refine lv_iload_n hx hb dL_anews_1 rfl (lv_at hl 1 rfl) ?_
  refine lv_iload_n hx hb dL_anews_2 rfl (lv_at hl 2 rfl) ?_
  refine kx_i (vx_runV (As := [.int (x0), .int (x1)]) (rest := []) hF (c_X5_anew l hlt G S y wr x0 x1 hI hY) (cwV 2 hts gL_anews_X5_anew rfl rfl rfl (by decide +kernel) ⟨Nat.le_of_ble_eq_true rfl, Nat.le_of_ble_eq_true rfl⟩) (kPreV hE hS hV 0 rfl rfl) rfl rfl hl.1 rfl (lv_room (Nat.le_of_ble_eq_true rfl)) dL_anews_3 ⟨Nat.le_of_ble_eq_true rfl, Nat.le_of_ble_eq_true rfl⟩) hS (fun E ce q9 H locs hxc hV hS hq1 hq2 hq3 => ?_) (fun r_3 u_2 H locs hp_1 hV hS => ?_)
  · rcases hxc with ⟨rfl, he9⟩ | ⟨rfl, he9⟩ | ⟨rfl, he9⟩
    · have hop9 : (opAnew S x0 x1).2.2 = S := by
        have he8 : (opAnew S x0 x1).1 ≠ 0 := by omega
        revert he8
        unfold opAnew kif
        (repeat' split) <;> first | exact fun _ => rfl | exact fun z => absurd rfl z
      refine vx_catch (name := "java/lang/IndexOutOfBoundsException") hown [] ⟨0, 6, 7, 13⟩ [⟨0, 6, 11, 16⟩, ⟨0, 6, 15, 19⟩] htab (fun z h => (List.not_mem_nil h).elim) (by decide) (by decide) (hts (Cond.classLink RL 13 "java/lang/IndexOutOfBoundsException") (List.mem_of_getElem? (i := 1) rfl)) ((hE.2.2.1 (.castable kIOB kIOB) (by decide +kernel)).use rfl) hq1 hq2 hq3 ?_
      refine lv_astore_n (lv' := [(3, .ref (q9)), (0, .ref (yH y 0)), (1, .int (x0)), (2, .int (x1))]) hx hb dL_anews_7 rfl hl (by decide) rfl (fun ls hl => ?_)
      refine lv_ldc (v := -2000000001) hx hb hown (hts (Cond.constant RL 15 (-2000000001)) (List.mem_of_getElem? (i := 4) rfl)) dL_anews_8 ?_
      exact W.iret (v := (-2000000001)) hx hb hrt (fun t ht hW => ⟨⟨_, y, rfl, ⟨by unfold vIAS; rw [if_neg (show ¬ (opAnew S x0 x1).1 = 0 by omega), if_pos (show (opAnew S x0 x1).1 = 1 from he9)], by rw [hop9]; exact hY, rfl⟩, kV_eq ht (show kV G (siteW G (opAnew S x0 x1).2.2 y ++ wr) _ by rw [hop9]; exact hV)⟩, hS.F ht⟩) hS.2.2 dL_anews_10
    · have hop9 : (opAnew S x0 x1).2.2 = S := by
        have he8 : (opAnew S x0 x1).1 ≠ 0 := by omega
        revert he8
        unfold opAnew kif
        (repeat' split) <;> first | exact fun _ => rfl | exact fun z => absurd rfl z
      refine vx_catch (name := "java/lang/IllegalArgumentException") hown [⟨0, 6, 7, 13⟩] ⟨0, 6, 11, 16⟩ [⟨0, 6, 15, 19⟩] htab (fun z h => by
          rcases List.mem_cons.mp h with h | h
          · subst h; exact Or.inr ⟨by decide, _, (hts (Cond.classLink RL 13 "java/lang/IndexOutOfBoundsException") (List.mem_of_getElem? (i := 1) rfl)), hE.2.2.2.1 (kIAE, kIOB) (by decide +kernel)⟩
          · exact (List.not_mem_nil h).elim) (by decide) (by decide) (hts (Cond.classLink RL 16 "java/lang/IllegalArgumentException") (List.mem_of_getElem? (i := 2) rfl)) ((hE.2.2.1 (.castable kIAE kIAE) (by decide +kernel)).use rfl) hq1 hq2 hq3 ?_
      refine lv_astore_n (lv' := [(3, .ref (q9)), (0, .ref (yH y 0)), (1, .int (x0)), (2, .int (x1))]) hx hb dL_anews_11 rfl hl (by decide) rfl (fun ls hl => ?_)
      refine lv_ldc (v := -2000000002) hx hb hown (hts (Cond.constant RL 18 (-2000000002)) (List.mem_of_getElem? (i := 5) rfl)) dL_anews_12 ?_
      exact W.iret (v := (-2000000002)) hx hb hrt (fun t ht hW => ⟨⟨_, y, rfl, ⟨by unfold vIAS; rw [if_neg (show ¬ (opAnew S x0 x1).1 = 0 by omega), if_neg (show ¬ (opAnew S x0 x1).1 = 1 by omega), if_pos (show (opAnew S x0 x1).1 = 2 from he9)], by rw [hop9]; exact hY, rfl⟩, kV_eq ht (show kV G (siteW G (opAnew S x0 x1).2.2 y ++ wr) _ by rw [hop9]; exact hV)⟩, hS.F ht⟩) hS.2.2 dL_anews_14
    · have hop9 : (opAnew S x0 x1).2.2 = S := by
        have he8 : (opAnew S x0 x1).1 ≠ 0 := by omega
        revert he8
        unfold opAnew kif
        (repeat' split) <;> first | exact fun _ => rfl | exact fun z => absurd rfl z
      refine vx_catch (name := "java/lang/IllegalStateException") hown [⟨0, 6, 7, 13⟩, ⟨0, 6, 11, 16⟩] ⟨0, 6, 15, 19⟩ [] htab (fun z h => by
          rcases List.mem_cons.mp h with h | h
          · subst h; exact Or.inr ⟨by decide, _, (hts (Cond.classLink RL 13 "java/lang/IndexOutOfBoundsException") (List.mem_of_getElem? (i := 1) rfl)), hE.2.2.2.1 (kISE, kIOB) (by decide +kernel)⟩
          · rcases List.mem_cons.mp h with h | h
            · subst h; exact Or.inr ⟨by decide, _, (hts (Cond.classLink RL 16 "java/lang/IllegalArgumentException") (List.mem_of_getElem? (i := 2) rfl)), hE.2.2.2.1 (kISE, kIAE) (by decide +kernel)⟩
            · exact (List.not_mem_nil h).elim) (by decide) (by decide) (hts (Cond.classLink RL 19 "java/lang/IllegalStateException") (List.mem_of_getElem? (i := 3) rfl)) ((hE.2.2.1 (.castable kISE kISE) (by decide +kernel)).use rfl) hq1 hq2 hq3 ?_
      refine lv_astore_n (lv' := [(3, .ref (q9)), (0, .ref (yH y 0)), (1, .int (x0)), (2, .int (x1))]) hx hb dL_anews_15 rfl hl (by decide) rfl (fun ls hl => ?_)
      refine lv_ldc (v := -2000000003) hx hb hown (hts (Cond.constant RL 21 (-2000000003)) (List.mem_of_getElem? (i := 6) rfl)) dL_anews_16 ?_
      exact W.iret (v := (-2000000003)) hx hb hrt (fun t ht hW => ⟨⟨_, y, rfl, ⟨by unfold vIAS; rw [if_neg (show ¬ (opAnew S x0 x1).1 = 0 by omega), if_neg (show ¬ (opAnew S x0 x1).1 = 1 by omega), if_neg (show ¬ (opAnew S x0 x1).1 = 2 by omega)], by rw [hop9]; exact hY, rfl⟩, kV_eq ht (show kV G (siteW G (opAnew S x0 x1).2.2 y ++ wr) _ by rw [hop9]; exact hV)⟩, hS.F ht⟩) hS.2.2 dL_anews_18
  · obtain ⟨hp_10, hp_11, hp_12, hp_13⟩ := hp_1
    subst hp_11
    have hV : kV G (siteW G ((opAnew S x0 x1).2.2) u_2 ++ wr) _ := hV
    exact W.iret (v := ((opAnew S x0 x1).2.1)) hx hb hrt (fun t ht hW => ⟨⟨_, u_2, rfl, ⟨by unfold vIAS; rw [if_pos hp_10], hp_12, hp_13⟩, kV_eq ht hV⟩, hS.F ht⟩) hS.2.2 dL_anews_6
set_option maxHeartbeats 4000000 in
set_option maxRecDepth 100000 in
theorem c_L_publishes (l : Launch) (G : kG) (S : kS) (y : kY) (yh : Nat) (wr : va_W) (x0 : Int32) (rr : kR) (hr : opPublish S x0 = rr) (hlt : l.stackTraces = false) (hh : yH y 0 = yh) (hI : kInv S) (hY : yI G S y) : Met l yL_publishes wsL_publishes ({ frames := 8, cells := 6, slots := 80, locals := 214 } : Room) (kPc G [.ref (yh), .int (x0)] (siteW G S y ++ wr)) (kQi G (S := kY) (fun z u => z = vIS rr ∧ yI G rr.2.2 u ∧ yH u 0 = yh) (fun u => siteW G rr.2.2 u ++ wr)) 6 80 (kA G) := by
  refine va_MetW (cc := cL_publishes) (maxL := 3) (ret := (some .int)) (by decide) rfl ?_
  intro pp ee s m args below meth cc0 s₁ Bd0 hml hv
  obtain ⟨rfl, hE, hV⟩ := hv
  have hK := hE.1
  have hx := Bd0.exec
  have hb := Bd0.bytes
  have hrt := Bd0.returns
  have hts := atoms_spec (ws := wsL_publishes) Bd0.pre
  have hown : s.vm.findClass RL = some m.cls := findClass_of_methodNamed Bd0.named
  have hlocks := Bd0.notSynchronized
  have htab := vx_table (x := yL_publishes) Bd0 (hts (Cond.codeWith yL_publishes cL_publishes 3 (some .int) [(0, 5, 6, 13), (0, 5, 10, 19)]) (List.mem_of_getElem? (i := 0) rfl))
  have hF : CallFix pp m cc0 cL_publishes 3 s _ wsL_publishes RL := ⟨hx, hb, hml, hown, hts⟩
  have hS : va_S (kA G) s.heap s.heap [] := va_S.rf
  have hB0 := hE.2.1
  have hl := lv_entry ([.ref (yh), .int (x0)]) (n := 3) (Nat.le_of_ble_eq_true rfl)
  rw [lg_entry_eq]
  generalize (lg_sl ([.ref (yh), .int (x0)]) ++ List.replicate (3 - (lg_sl ([.ref (yh), .int (x0)])).length) Slot.unset).toArray = ls at hl ⊢
  have hl : lv_has ls 3 [(0, .ref (yh)), (1, .int (x0))] := hl
  subst hr
  subst hh
  refine lv_aload_n hx hb dL_publishes_0 rfl (lv_at hl 0 rfl) ?_
  refine lv_iload_n hx hb dL_publishes_1 rfl (lv_at hl 1 rfl) ?_
  refine kx_i (vx_runV (As := [.int (x0)]) (rest := []) hF (c_X5_publish l hlt G S y wr x0 hI hY) (cwV 1 hts gL_publishes_X5_publish rfl rfl rfl (by decide +kernel) ⟨Nat.le_of_ble_eq_true rfl, Nat.le_of_ble_eq_true rfl⟩) (kPreV hE hS hV 0 rfl rfl) rfl rfl hl.1 rfl (lv_room (Nat.le_of_ble_eq_true rfl)) dL_publishes_2 ⟨Nat.le_of_ble_eq_true rfl, Nat.le_of_ble_eq_true rfl⟩) hS (fun E ce q9 H locs hxc hV hS hq1 hq2 hq3 => ?_) (fun r_3 u_2 H locs hp_1 hV hS => ?_)
  · rcases hxc with ⟨rfl, he9⟩ | ⟨rfl, he9⟩
    · have hop9 : (opPublish S x0).2.2 = S := by
        have he8 : (opPublish S x0).1 ≠ 0 := by omega
        revert he8
        unfold opPublish kif
        (repeat' split) <;> first | exact fun _ => rfl | exact fun z => absurd rfl z
      refine vx_catch (name := "java/lang/IndexOutOfBoundsException") hown [] ⟨0, 5, 6, 13⟩ [⟨0, 5, 10, 19⟩] htab (fun z h => (List.not_mem_nil h).elim) (by decide) (by decide) (hts (Cond.classLink RL 13 "java/lang/IndexOutOfBoundsException") (List.mem_of_getElem? (i := 1) rfl)) ((hE.2.2.1 (.castable kIOB kIOB) (by decide +kernel)).use rfl) hq1 hq2 hq3 ?_
      refine lv_astore_n (lv' := [(2, .ref (q9)), (0, .ref (yH y 0)), (1, .int (x0))]) hx hb dL_publishes_6 rfl hl (by decide) rfl (fun ls hl => ?_)
      refine lv_ldc (v := -2000000001) hx hb hown (hts (Cond.constant RL 15 (-2000000001)) (List.mem_of_getElem? (i := 3) rfl)) dL_publishes_7 ?_
      exact W.iret (v := (-2000000001)) hx hb hrt (fun t ht hW => ⟨⟨_, y, rfl, ⟨by unfold vIS; rw [if_neg (show ¬ (opPublish S x0).1 = 0 by omega), if_pos (show (opPublish S x0).1 = 1 from he9)], by rw [hop9]; exact hY, rfl⟩, kV_eq ht (show kV G (siteW G (opPublish S x0).2.2 y ++ wr) _ by rw [hop9]; exact hV)⟩, hS.F ht⟩) hS.2.2 dL_publishes_9
    · have hop9 : (opPublish S x0).2.2 = S := by
        have he8 : (opPublish S x0).1 ≠ 0 := by omega
        revert he8
        unfold opPublish kif
        (repeat' split) <;> first | exact fun _ => rfl | exact fun z => absurd rfl z
      refine vx_catch (name := "java/lang/IllegalStateException") hown [⟨0, 5, 6, 13⟩] ⟨0, 5, 10, 19⟩ [] htab (fun z h => by
          rcases List.mem_cons.mp h with h | h
          · subst h; exact Or.inr ⟨by decide, _, (hts (Cond.classLink RL 13 "java/lang/IndexOutOfBoundsException") (List.mem_of_getElem? (i := 1) rfl)), hE.2.2.2.1 (kISE, kIOB) (by decide +kernel)⟩
          · exact (List.not_mem_nil h).elim) (by decide) (by decide) (hts (Cond.classLink RL 19 "java/lang/IllegalStateException") (List.mem_of_getElem? (i := 2) rfl)) ((hE.2.2.1 (.castable kISE kISE) (by decide +kernel)).use rfl) hq1 hq2 hq3 ?_
      refine lv_astore_n (lv' := [(2, .ref (q9)), (0, .ref (yH y 0)), (1, .int (x0))]) hx hb dL_publishes_10 rfl hl (by decide) rfl (fun ls hl => ?_)
      refine lv_ldc (v := -2000000003) hx hb hown (hts (Cond.constant RL 21 (-2000000003)) (List.mem_of_getElem? (i := 4) rfl)) dL_publishes_11 ?_
      exact W.iret (v := (-2000000003)) hx hb hrt (fun t ht hW => ⟨⟨_, y, rfl, ⟨by unfold vIS; rw [if_neg (show ¬ (opPublish S x0).1 = 0 by omega), if_neg (show ¬ (opPublish S x0).1 = 1 by omega)], by rw [hop9]; exact hY, rfl⟩, kV_eq ht (show kV G (siteW G (opPublish S x0).2.2 y ++ wr) _ by rw [hop9]; exact hV)⟩, hS.F ht⟩) hS.2.2 dL_publishes_13
  · obtain ⟨hp_10, hp_11, hp_12, hp_13⟩ := hp_1
    subst hp_11
    have hV : kV G (siteW G ((opPublish S x0).2.2) u_2 ++ wr) _ := hV
    exact W.iret (v := ((opPublish S x0).2.1)) hx hb hrt (fun t ht hW => ⟨⟨_, u_2, rfl, ⟨by unfold vIS; rw [if_pos hp_10], hp_12, hp_13⟩, kV_eq ht hV⟩, hS.F ht⟩) hS.2.2 dL_publishes_5
set_option maxHeartbeats 4000000 in
set_option maxRecDepth 100000 in
theorem c_L_original (l : Launch) (G : kG) (S : kS) (y : kY) (yh : Nat) (wr : va_W) (x0 : Int32) (rr : kR) (hr : opOriginal S x0 = rr) (hlt : l.stackTraces = false) (hh : yH y 0 = yh) (hI : kInv S) (hY : yI G S y) : Met l yL_original wsL_original ({ frames := 8, cells := 1, slots := 6, locals := 133 } : Room) (kPc G [.ref (yh), .int (x0)] (siteW G S y ++ wr)) (kQi G (S := kY) (fun z u => z = vI rr ∧ yI G rr.2.2 u ∧ yH u 0 = yh) (fun u => siteW G rr.2.2 u ++ wr)) 1 6 (kA G) := by
  refine va_MetW (cc := cL_original) (maxL := 3) (ret := (some .int)) (by decide) rfl ?_
  intro pp ee s m args below meth cc0 s₁ Bd0 hml hv
  obtain ⟨rfl, hE, hV⟩ := hv
  have hK := hE.1
  have hx := Bd0.exec
  have hb := Bd0.bytes
  have hrt := Bd0.returns
  have hts := atoms_spec (ws := wsL_original) Bd0.pre
  have hown : s.vm.findClass RL = some m.cls := findClass_of_methodNamed Bd0.named
  have hlocks := Bd0.notSynchronized
  have htab := vx_table (x := yL_original) Bd0 (hts (Cond.codeWith yL_original cL_original 3 (some .int) [(0, 5, 6, 13)]) (List.mem_of_getElem? (i := 0) rfl))
  have hF : CallFix pp m cc0 cL_original 3 s _ wsL_original RL := ⟨hx, hb, hml, hown, hts⟩
  have hS : va_S (kA G) s.heap s.heap [] := va_S.rf
  have hB0 := hE.2.1
  have hl := lv_entry ([.ref (yh), .int (x0)]) (n := 3) (Nat.le_of_ble_eq_true rfl)
  rw [lg_entry_eq]
  generalize (lg_sl ([.ref (yh), .int (x0)]) ++ List.replicate (3 - (lg_sl ([.ref (yh), .int (x0)])).length) Slot.unset).toArray = ls at hl ⊢
  have hl : lv_has ls 3 [(0, .ref (yh)), (1, .int (x0))] := hl
  subst hr
  subst hh
  refine lv_aload_n hx hb dL_original_0 rfl (lv_at hl 0 rfl) ?_
  refine lv_iload_n hx hb dL_original_1 rfl (lv_at hl 1 rfl) ?_
  refine kx_i (vx_runV (As := [.int (x0)]) (rest := []) hF (c_X5_original l hlt G S y wr x0 hI hY) (cwV 1 hts gL_original_X5_original rfl rfl rfl (by decide +kernel) ⟨Nat.le_of_ble_eq_true rfl, Nat.le_of_ble_eq_true rfl⟩) (kPreV hE hS hV 0 rfl rfl) rfl rfl hl.1 rfl (lv_room (Nat.le_of_ble_eq_true rfl)) dL_original_2 ⟨Nat.le_of_ble_eq_true rfl, Nat.le_of_ble_eq_true rfl⟩) hS (fun E ce q9 H locs hxc hV hS hq1 hq2 hq3 => ?_) (fun r_3 u_2 H locs hp_1 hV hS => ?_)
  · obtain ⟨rfl, he9⟩ := hxc
    have hop9 : (opOriginal S x0).2.2 = S := by
      have he8 : (opOriginal S x0).1 ≠ 0 := by omega
      revert he8
      unfold opOriginal kif
      (repeat' split) <;> first | exact fun _ => rfl | exact fun z => absurd rfl z
    refine vx_catch (name := "java/lang/IndexOutOfBoundsException") hown [] ⟨0, 5, 6, 13⟩ [] htab (fun z h => (List.not_mem_nil h).elim) (by decide) (by decide) (hts (Cond.classLink RL 13 "java/lang/IndexOutOfBoundsException") (List.mem_of_getElem? (i := 1) rfl)) ((hE.2.2.1 (.castable kIOB kIOB) (by decide +kernel)).use rfl) hq1 hq2 hq3 ?_
    refine lv_astore_n (lv' := [(2, .ref (q9)), (0, .ref (yH y 0)), (1, .int (x0))]) hx hb dL_original_6 rfl hl (by decide) rfl (fun ls hl => ?_)
    refine lv_ldc (v := -2000000001) hx hb hown (hts (Cond.constant RL 15 (-2000000001)) (List.mem_of_getElem? (i := 2) rfl)) dL_original_7 ?_
    exact W.iret (v := (-2000000001)) hx hb hrt (fun t ht hW => ⟨⟨_, y, rfl, ⟨by unfold vI; rw [if_neg (show ¬ (opOriginal S x0).1 = 0 by omega)], by rw [hop9]; exact hY, rfl⟩, kV_eq ht (show kV G (siteW G (opOriginal S x0).2.2 y ++ wr) _ by rw [hop9]; exact hV)⟩, hS.F ht⟩) hS.2.2 dL_original_9
  · obtain ⟨hp_10, hp_11, hp_12, hp_13⟩ := hp_1
    subst hp_11
    have hV : kV G (siteW G ((opOriginal S x0).2.2) u_2 ++ wr) _ := hV
    exact W.iret (v := ((opOriginal S x0).2.1)) hx hb hrt (fun t ht hW => ⟨⟨_, u_2, rfl, ⟨by unfold vI; rw [if_pos hp_10], hp_12, hp_13⟩, kV_eq ht hV⟩, hS.F ht⟩) hS.2.2 dL_original_5
set_option maxHeartbeats 4000000 in
set_option maxRecDepth 100000 in
theorem c_L_rows (l : Launch) (G : kG) (S : kS) (y : kY) (yh : Nat) (wr : va_W) (x0 : Int32) (rr : kR) (hr : opRows S x0 = rr) (hlt : l.stackTraces = false) (hh : yH y 0 = yh) (hI : kInv S) (hY : yI G S y) : Met l yL_rows wsL_rows ({ frames := 8, cells := 1, slots := 6, locals := 132 } : Room) (kPc G [.ref (yh), .int (x0)] (siteW G S y ++ wr)) (kQi G (S := kY) (fun z u => z = vI rr ∧ yI G rr.2.2 u ∧ yH u 0 = yh) (fun u => siteW G rr.2.2 u ++ wr)) 1 6 (kA G) := by
  refine va_MetW (cc := cL_rows) (maxL := 3) (ret := (some .int)) (by decide) rfl ?_
  intro pp ee s m args below meth cc0 s₁ Bd0 hml hv
  obtain ⟨rfl, hE, hV⟩ := hv
  have hK := hE.1
  have hx := Bd0.exec
  have hb := Bd0.bytes
  have hrt := Bd0.returns
  have hts := atoms_spec (ws := wsL_rows) Bd0.pre
  have hown : s.vm.findClass RL = some m.cls := findClass_of_methodNamed Bd0.named
  have hlocks := Bd0.notSynchronized
  have htab := vx_table (x := yL_rows) Bd0 (hts (Cond.codeWith yL_rows cL_rows 3 (some .int) [(0, 5, 6, 13)]) (List.mem_of_getElem? (i := 0) rfl))
  have hF : CallFix pp m cc0 cL_rows 3 s _ wsL_rows RL := ⟨hx, hb, hml, hown, hts⟩
  have hS : va_S (kA G) s.heap s.heap [] := va_S.rf
  have hB0 := hE.2.1
  have hl := lv_entry ([.ref (yh), .int (x0)]) (n := 3) (Nat.le_of_ble_eq_true rfl)
  rw [lg_entry_eq]
  generalize (lg_sl ([.ref (yh), .int (x0)]) ++ List.replicate (3 - (lg_sl ([.ref (yh), .int (x0)])).length) Slot.unset).toArray = ls at hl ⊢
  have hl : lv_has ls 3 [(0, .ref (yh)), (1, .int (x0))] := hl
  subst hr
  subst hh
  refine lv_aload_n hx hb dL_rows_0 rfl (lv_at hl 0 rfl) ?_
  refine lv_iload_n hx hb dL_rows_1 rfl (lv_at hl 1 rfl) ?_
  refine kx_i (vx_runV (As := [.int (x0)]) (rest := []) hF (c_X5_rows l hlt G S y wr x0 hI hY) (cwV 1 hts gL_rows_X5_rows rfl rfl rfl (by decide +kernel) ⟨Nat.le_of_ble_eq_true rfl, Nat.le_of_ble_eq_true rfl⟩) (kPreV hE hS hV 0 rfl rfl) rfl rfl hl.1 rfl (lv_room (Nat.le_of_ble_eq_true rfl)) dL_rows_2 ⟨Nat.le_of_ble_eq_true rfl, Nat.le_of_ble_eq_true rfl⟩) hS (fun E ce q9 H locs hxc hV hS hq1 hq2 hq3 => ?_) (fun r_3 u_2 H locs hp_1 hV hS => ?_)
  · obtain ⟨rfl, he9⟩ := hxc
    have hop9 : (opRows S x0).2.2 = S := by
      have he8 : (opRows S x0).1 ≠ 0 := by omega
      revert he8
      unfold opRows kif
      (repeat' split) <;> first | exact fun _ => rfl | exact fun z => absurd rfl z
    refine vx_catch (name := "java/lang/IndexOutOfBoundsException") hown [] ⟨0, 5, 6, 13⟩ [] htab (fun z h => (List.not_mem_nil h).elim) (by decide) (by decide) (hts (Cond.classLink RL 13 "java/lang/IndexOutOfBoundsException") (List.mem_of_getElem? (i := 1) rfl)) ((hE.2.2.1 (.castable kIOB kIOB) (by decide +kernel)).use rfl) hq1 hq2 hq3 ?_
    refine lv_astore_n (lv' := [(2, .ref (q9)), (0, .ref (yH y 0)), (1, .int (x0))]) hx hb dL_rows_6 rfl hl (by decide) rfl (fun ls hl => ?_)
    refine lv_ldc (v := -2000000001) hx hb hown (hts (Cond.constant RL 15 (-2000000001)) (List.mem_of_getElem? (i := 2) rfl)) dL_rows_7 ?_
    exact W.iret (v := (-2000000001)) hx hb hrt (fun t ht hW => ⟨⟨_, y, rfl, ⟨by unfold vI; rw [if_neg (show ¬ (opRows S x0).1 = 0 by omega)], by rw [hop9]; exact hY, rfl⟩, kV_eq ht (show kV G (siteW G (opRows S x0).2.2 y ++ wr) _ by rw [hop9]; exact hV)⟩, hS.F ht⟩) hS.2.2 dL_rows_9
  · obtain ⟨hp_10, hp_11, hp_12, hp_13⟩ := hp_1
    subst hp_11
    have hV : kV G (siteW G ((opRows S x0).2.2) u_2 ++ wr) _ := hV
    exact W.iret (v := ((opRows S x0).2.1)) hx hb hrt (fun t ht hW => ⟨⟨_, u_2, rfl, ⟨by unfold vI; rw [if_pos hp_10], hp_12, hp_13⟩, kV_eq ht hV⟩, hS.F ht⟩) hS.2.2 dL_rows_5
set_option maxHeartbeats 4000000 in
set_option maxRecDepth 100000 in
theorem c_L_stitch (l : Launch) (G : kG) (S : kS) (y : kY) (yh : Nat) (wr : va_W) (x0 : Int32) (x1 : Int32) (x2 : Int32) (rr : kR) (hr : opStitch S x0 x1 x2 = rr) (hlt : l.stackTraces = false) (hh : yH y 0 = yh) (hI : kInv S) (hY : yI G S y) : Met l yL_stitch wsL_stitch ({ frames := 8, cells := 2, slots := 12, locals := 136 } : Room) (kPc G [.ref (yh), .int (x0), .int (x1), .int (x2)] (siteW G S y ++ wr)) (kQi G (S := kY) (fun z u => z = vI rr ∧ yI G rr.2.2 u ∧ yH u 0 = yh) (fun u => siteW G rr.2.2 u ++ wr)) 2 12 (kA G) := by
  refine va_MetW (cc := cL_stitch) (maxL := 5) (ret := (some .int)) (by decide) rfl ?_
  intro pp ee s m args below meth cc0 s₁ Bd0 hml hv
  obtain ⟨rfl, hE, hV⟩ := hv
  have hK := hE.1
  have hx := Bd0.exec
  have hb := Bd0.bytes
  have hrt := Bd0.returns
  have hts := atoms_spec (ws := wsL_stitch) Bd0.pre
  have hown : s.vm.findClass RL = some m.cls := findClass_of_methodNamed Bd0.named
  have hlocks := Bd0.notSynchronized
  have htab := vx_table (x := yL_stitch) Bd0 (hts (Cond.codeWith yL_stitch cL_stitch 5 (some .int) [(0, 7, 8, 13)]) (List.mem_of_getElem? (i := 0) rfl))
  have hF : CallFix pp m cc0 cL_stitch 5 s _ wsL_stitch RL := ⟨hx, hb, hml, hown, hts⟩
  have hS : va_S (kA G) s.heap s.heap [] := va_S.rf
  have hB0 := hE.2.1
  have hl := lv_entry ([.ref (yh), .int (x0), .int (x1), .int (x2)]) (n := 5) (Nat.le_of_ble_eq_true rfl)
  rw [lg_entry_eq]
  generalize (lg_sl ([.ref (yh), .int (x0), .int (x1), .int (x2)]) ++ List.replicate (5 - (lg_sl ([.ref (yh), .int (x0), .int (x1), .int (x2)])).length) Slot.unset).toArray = ls at hl ⊢
  have hl : lv_has ls 5 [(0, .ref (yh)), (1, .int (x0)), (2, .int (x1)), (3, .int (x2))] := hl
  subst hr
  subst hh
  refine lv_aload_n hx hb dL_stitch_0 rfl (lv_at hl 0 rfl) ?_
  refine lv_iload_n hx hb dL_stitch_1 rfl (lv_at hl 1 rfl) ?_
  refine lv_iload_n hx hb dL_stitch_2 rfl (lv_at hl 2 rfl) ?_
  refine lv_iload_n hx hb dL_stitch_3 rfl (lv_at hl 3 rfl) ?_
  refine kx_i (vx_runV (As := [.int (x0), .int (x1), .int (x2)]) (rest := []) hF (c_X5_stitch l hlt G S y wr x0 x1 x2 hI hY) (cwV 3 hts gL_stitch_X5_stitch rfl rfl rfl (by decide +kernel) ⟨Nat.le_of_ble_eq_true rfl, Nat.le_of_ble_eq_true rfl⟩) (kPreV hE hS hV 0 rfl rfl) rfl rfl hl.1 rfl (lv_room (Nat.le_of_ble_eq_true rfl)) dL_stitch_4 ⟨Nat.le_of_ble_eq_true rfl, Nat.le_of_ble_eq_true rfl⟩) hS (fun E ce q9 H locs hxc hV hS hq1 hq2 hq3 => ?_) (fun r_3 u_2 H locs hp_1 hV hS => ?_)
  · obtain ⟨rfl, he9⟩ := hxc
    have hop9 : (opStitch S x0 x1 x2).2.2 = S := by
      have he8 : (opStitch S x0 x1 x2).1 ≠ 0 := by omega
      revert he8
      unfold opStitch kif
      (repeat' split) <;> first | exact fun _ => rfl | exact fun z => absurd rfl z
    refine vx_catch (name := "java/lang/IndexOutOfBoundsException") hown [] ⟨0, 7, 8, 13⟩ [] htab (fun z h => (List.not_mem_nil h).elim) (by decide) (by decide) (hts (Cond.classLink RL 13 "java/lang/IndexOutOfBoundsException") (List.mem_of_getElem? (i := 1) rfl)) ((hE.2.2.1 (.castable kIOB kIOB) (by decide +kernel)).use rfl) hq1 hq2 hq3 ?_
    refine lv_astore (lv' := [(4, .ref (q9)), (0, .ref (yH y 0)), (1, .int (x0)), (2, .int (x1)), (3, .int (x2))]) hx hb dL_stitch_8 hl (by decide) rfl (fun ls hl => ?_)
    refine lv_ldc (v := -2000000001) hx hb hown (hts (Cond.constant RL 15 (-2000000001)) (List.mem_of_getElem? (i := 2) rfl)) dL_stitch_10 ?_
    exact W.iret (v := (-2000000001)) hx hb hrt (fun t ht hW => ⟨⟨_, y, rfl, ⟨by unfold vI; rw [if_neg (show ¬ (opStitch S x0 x1 x2).1 = 0 by omega)], by rw [hop9]; exact hY, rfl⟩, kV_eq ht (show kV G (siteW G (opStitch S x0 x1 x2).2.2 y ++ wr) _ by rw [hop9]; exact hV)⟩, hS.F ht⟩) hS.2.2 dL_stitch_12
  · obtain ⟨hp_10, hp_11, hp_12, hp_13⟩ := hp_1
    subst hp_11
    have hV : kV G (siteW G ((opStitch S x0 x1 x2).2.2) u_2 ++ wr) _ := hV
    exact W.iret (v := ((opStitch S x0 x1 x2).2.1)) hx hb hrt (fun t ht hW => ⟨⟨_, u_2, rfl, ⟨by unfold vI; rw [if_pos hp_10], hp_12, hp_13⟩, kV_eq ht hV⟩, hS.F ht⟩) hS.2.2 dL_stitch_7
set_option maxHeartbeats 4000000 in
set_option maxRecDepth 100000 in
theorem c_L_byWork (l : Launch) (G : kG) (S : kS) (y : kY) (yh : Nat) (wr : va_W) (x0 : Int32) (x1 : Int32) (x2 : Int32) (rr : kR) (hr : opStitch S x0 x1 x2 = rr) (hlt : l.stackTraces = false) (hh : yH y 0 = yh) (hI : kInv S) (hY : yI G S y) : Met l yL_byWork wsL_byWork ({ frames := 8, cells := 2, slots := 12, locals := 136 } : Room) (kPc G [.ref (yh), .int (x0), .int (x1), .int (x2)] (siteW G S y ++ wr)) (kQi G (S := kY) (fun z u => z = vI rr ∧ yI G rr.2.2 u ∧ yH u 0 = yh) (fun u => siteW G rr.2.2 u ++ wr)) 2 12 (kA G) := by
  refine va_MetW (cc := cL_byWork) (maxL := 5) (ret := (some .int)) (by decide) rfl ?_
  intro pp ee s m args below meth cc0 s₁ Bd0 hml hv
  obtain ⟨rfl, hE, hV⟩ := hv
  have hK := hE.1
  have hx := Bd0.exec
  have hb := Bd0.bytes
  have hrt := Bd0.returns
  have hts := atoms_spec (ws := wsL_byWork) Bd0.pre
  have hown : s.vm.findClass RL = some m.cls := findClass_of_methodNamed Bd0.named
  have hlocks := Bd0.notSynchronized
  have htab := vx_table (x := yL_byWork) Bd0 (hts (Cond.codeWith yL_byWork cL_byWork 5 (some .int) [(0, 7, 8, 13)]) (List.mem_of_getElem? (i := 0) rfl))
  have hF : CallFix pp m cc0 cL_byWork 5 s _ wsL_byWork RL := ⟨hx, hb, hml, hown, hts⟩
  have hS : va_S (kA G) s.heap s.heap [] := va_S.rf
  have hB0 := hE.2.1
  have hl := lv_entry ([.ref (yh), .int (x0), .int (x1), .int (x2)]) (n := 5) (Nat.le_of_ble_eq_true rfl)
  rw [lg_entry_eq]
  generalize (lg_sl ([.ref (yh), .int (x0), .int (x1), .int (x2)]) ++ List.replicate (5 - (lg_sl ([.ref (yh), .int (x0), .int (x1), .int (x2)])).length) Slot.unset).toArray = ls at hl ⊢
  have hl : lv_has ls 5 [(0, .ref (yh)), (1, .int (x0)), (2, .int (x1)), (3, .int (x2))] := hl
  subst hr
  subst hh
  refine lv_aload_n hx hb dL_byWork_0 rfl (lv_at hl 0 rfl) ?_
  refine lv_iload_n hx hb dL_byWork_1 rfl (lv_at hl 1 rfl) ?_
  refine lv_iload_n hx hb dL_byWork_2 rfl (lv_at hl 2 rfl) ?_
  refine lv_iload_n hx hb dL_byWork_3 rfl (lv_at hl 3 rfl) ?_
  refine kx_i (vx_runV (As := [.int (x0), .int (x1), .int (x2)]) (rest := []) hF (c_X5_stitchByWork l hlt G S y wr x0 x1 x2 hI hY) (cwV 3 hts gL_byWork_X5_stitchByWork rfl rfl rfl (by decide +kernel) ⟨Nat.le_of_ble_eq_true rfl, Nat.le_of_ble_eq_true rfl⟩) (kPreV hE hS hV 0 rfl rfl) rfl rfl hl.1 rfl (lv_room (Nat.le_of_ble_eq_true rfl)) dL_byWork_4 ⟨Nat.le_of_ble_eq_true rfl, Nat.le_of_ble_eq_true rfl⟩) hS (fun E ce q9 H locs hxc hV hS hq1 hq2 hq3 => ?_) (fun r_3 u_2 H locs hp_1 hV hS => ?_)
  · obtain ⟨rfl, he9⟩ := hxc
    have hop9 : (opStitch S x0 x1 x2).2.2 = S := by
      have he8 : (opStitch S x0 x1 x2).1 ≠ 0 := by omega
      revert he8
      unfold opStitch kif
      (repeat' split) <;> first | exact fun _ => rfl | exact fun z => absurd rfl z
    refine vx_catch (name := "java/lang/IndexOutOfBoundsException") hown [] ⟨0, 7, 8, 13⟩ [] htab (fun z h => (List.not_mem_nil h).elim) (by decide) (by decide) (hts (Cond.classLink RL 13 "java/lang/IndexOutOfBoundsException") (List.mem_of_getElem? (i := 1) rfl)) ((hE.2.2.1 (.castable kIOB kIOB) (by decide +kernel)).use rfl) hq1 hq2 hq3 ?_
    refine lv_astore (lv' := [(4, .ref (q9)), (0, .ref (yH y 0)), (1, .int (x0)), (2, .int (x1)), (3, .int (x2))]) hx hb dL_byWork_8 hl (by decide) rfl (fun ls hl => ?_)
    refine lv_ldc (v := -2000000001) hx hb hown (hts (Cond.constant RL 15 (-2000000001)) (List.mem_of_getElem? (i := 2) rfl)) dL_byWork_10 ?_
    exact W.iret (v := (-2000000001)) hx hb hrt (fun t ht hW => ⟨⟨_, y, rfl, ⟨by unfold vI; rw [if_neg (show ¬ (opStitch S x0 x1 x2).1 = 0 by omega)], by rw [hop9]; exact hY, rfl⟩, kV_eq ht (show kV G (siteW G (opStitch S x0 x1 x2).2.2 y ++ wr) _ by rw [hop9]; exact hV)⟩, hS.F ht⟩) hS.2.2 dL_byWork_12
  · obtain ⟨hp_10, hp_11, hp_12, hp_13⟩ := hp_1
    subst hp_11
    have hV : kV G (siteW G ((opStitch S x0 x1 x2).2.2) u_2 ++ wr) _ := hV
    exact W.iret (v := ((opStitch S x0 x1 x2).2.1)) hx hb hrt (fun t ht hW => ⟨⟨_, u_2, rfl, ⟨by unfold vI; rw [if_pos hp_10], hp_12, hp_13⟩, kV_eq ht hV⟩, hS.F ht⟩) hS.2.2 dL_byWork_7
set_option maxHeartbeats 4000000 in
set_option maxRecDepth 100000 in
theorem c_L_need (l : Launch) (G : kG) (S : kS) (y : kY) (yh : Nat) (wr : va_W) (x0 : Int32) (x1 : Int32) (rr : kR) (hr : opNeed S x0 x1 = rr) (hlt : l.stackTraces = false) (hh : yH y 0 = yh) (hI : kInv S) (hY : yI G S y) : Met l yL_need wsL_need ({ frames := 9, cells := 2, slots := 12, locals := 155 } : Room) (kPc G [.ref (yh), .int (x0), .int (x1)] (siteW G S y ++ wr)) (kQi G (S := kY) (fun z u => z = vIA rr ∧ yI G rr.2.2 u ∧ yH u 0 = yh) (fun u => siteW G rr.2.2 u ++ wr)) 2 12 (kA G) := by
  refine va_MetW (cc := cL_need) (maxL := 4) (ret := (some .int)) (by decide) rfl ?_
  intro pp ee s m args below meth cc0 s₁ Bd0 hml hv
  obtain ⟨rfl, hE, hV⟩ := hv
  have hK := hE.1
  have hx := Bd0.exec
  have hb := Bd0.bytes
  have hrt := Bd0.returns
  have hts := atoms_spec (ws := wsL_need) Bd0.pre
  have hown : s.vm.findClass RL = some m.cls := findClass_of_methodNamed Bd0.named
  have hlocks := Bd0.notSynchronized
  have htab := vx_table (x := yL_need) Bd0 (hts (Cond.codeWith yL_need cL_need 4 (some .int) [(0, 6, 7, 13), (0, 6, 11, 16)]) (List.mem_of_getElem? (i := 0) rfl))
  have hF : CallFix pp m cc0 cL_need 4 s _ wsL_need RL := ⟨hx, hb, hml, hown, hts⟩
  have hS : va_S (kA G) s.heap s.heap [] := va_S.rf
  have hB0 := hE.2.1
  have hl := lv_entry ([.ref (yh), .int (x0), .int (x1)]) (n := 4) (Nat.le_of_ble_eq_true rfl)
  rw [lg_entry_eq]
  generalize (lg_sl ([.ref (yh), .int (x0), .int (x1)]) ++ List.replicate (4 - (lg_sl ([.ref (yh), .int (x0), .int (x1)])).length) Slot.unset).toArray = ls at hl ⊢
  have hl : lv_has ls 4 [(0, .ref (yh)), (1, .int (x0)), (2, .int (x1))] := hl
  subst hr
  subst hh
  refine lv_aload_n hx hb dL_need_0 rfl (lv_at hl 0 rfl) ?_
  refine lv_iload_n hx hb dL_need_1 rfl (lv_at hl 1 rfl) ?_
  refine lv_iload_n hx hb dL_need_2 rfl (lv_at hl 2 rfl) ?_
  refine kx_i (vx_runV (As := [.int (x0), .int (x1)]) (rest := []) hF (c_X5_need l hlt G S y wr x0 x1 hI hY) (cwV 2 hts gL_need_X5_need rfl rfl rfl (by decide +kernel) ⟨Nat.le_of_ble_eq_true rfl, Nat.le_of_ble_eq_true rfl⟩) (kPreV hE hS hV 0 rfl rfl) rfl rfl hl.1 rfl (lv_room (Nat.le_of_ble_eq_true rfl)) dL_need_3 ⟨Nat.le_of_ble_eq_true rfl, Nat.le_of_ble_eq_true rfl⟩) hS (fun E ce q9 H locs hxc hV hS hq1 hq2 hq3 => ?_) (fun r_3 u_2 H locs hp_1 hV hS => ?_)
  · rcases hxc with ⟨rfl, he9⟩ | ⟨rfl, he9⟩
    · have hop9 : (opNeed S x0 x1).2.2 = S := by
        have he8 : (opNeed S x0 x1).1 ≠ 0 := by omega
        revert he8
        unfold opNeed kif
        (repeat' split) <;> first | exact fun _ => rfl | exact fun z => absurd rfl z
      refine vx_catch (name := "java/lang/IndexOutOfBoundsException") hown [] ⟨0, 6, 7, 13⟩ [⟨0, 6, 11, 16⟩] htab (fun z h => (List.not_mem_nil h).elim) (by decide) (by decide) (hts (Cond.classLink RL 13 "java/lang/IndexOutOfBoundsException") (List.mem_of_getElem? (i := 1) rfl)) ((hE.2.2.1 (.castable kIOB kIOB) (by decide +kernel)).use rfl) hq1 hq2 hq3 ?_
      refine lv_astore_n (lv' := [(3, .ref (q9)), (0, .ref (yH y 0)), (1, .int (x0)), (2, .int (x1))]) hx hb dL_need_7 rfl hl (by decide) rfl (fun ls hl => ?_)
      refine lv_ldc (v := -2000000001) hx hb hown (hts (Cond.constant RL 15 (-2000000001)) (List.mem_of_getElem? (i := 3) rfl)) dL_need_8 ?_
      exact W.iret (v := (-2000000001)) hx hb hrt (fun t ht hW => ⟨⟨_, y, rfl, ⟨by unfold vIA; rw [if_neg (show ¬ (opNeed S x0 x1).1 = 0 by omega), if_pos (show (opNeed S x0 x1).1 = 1 from he9)], by rw [hop9]; exact hY, rfl⟩, kV_eq ht (show kV G (siteW G (opNeed S x0 x1).2.2 y ++ wr) _ by rw [hop9]; exact hV)⟩, hS.F ht⟩) hS.2.2 dL_need_10
    · have hop9 : (opNeed S x0 x1).2.2 = S := by
        have he8 : (opNeed S x0 x1).1 ≠ 0 := by omega
        revert he8
        unfold opNeed kif
        (repeat' split) <;> first | exact fun _ => rfl | exact fun z => absurd rfl z
      refine vx_catch (name := "java/lang/IllegalArgumentException") hown [⟨0, 6, 7, 13⟩] ⟨0, 6, 11, 16⟩ [] htab (fun z h => by
          rcases List.mem_cons.mp h with h | h
          · subst h; exact Or.inr ⟨by decide, _, (hts (Cond.classLink RL 13 "java/lang/IndexOutOfBoundsException") (List.mem_of_getElem? (i := 1) rfl)), hE.2.2.2.1 (kIAE, kIOB) (by decide +kernel)⟩
          · exact (List.not_mem_nil h).elim) (by decide) (by decide) (hts (Cond.classLink RL 16 "java/lang/IllegalArgumentException") (List.mem_of_getElem? (i := 2) rfl)) ((hE.2.2.1 (.castable kIAE kIAE) (by decide +kernel)).use rfl) hq1 hq2 hq3 ?_
      refine lv_astore_n (lv' := [(3, .ref (q9)), (0, .ref (yH y 0)), (1, .int (x0)), (2, .int (x1))]) hx hb dL_need_11 rfl hl (by decide) rfl (fun ls hl => ?_)
      refine lv_ldc (v := -2000000002) hx hb hown (hts (Cond.constant RL 18 (-2000000002)) (List.mem_of_getElem? (i := 4) rfl)) dL_need_12 ?_
      exact W.iret (v := (-2000000002)) hx hb hrt (fun t ht hW => ⟨⟨_, y, rfl, ⟨by unfold vIA; rw [if_neg (show ¬ (opNeed S x0 x1).1 = 0 by omega), if_neg (show ¬ (opNeed S x0 x1).1 = 1 by omega)], by rw [hop9]; exact hY, rfl⟩, kV_eq ht (show kV G (siteW G (opNeed S x0 x1).2.2 y ++ wr) _ by rw [hop9]; exact hV)⟩, hS.F ht⟩) hS.2.2 dL_need_14
  · obtain ⟨hp_10, hp_11, hp_12, hp_13⟩ := hp_1
    subst hp_11
    have hV : kV G (siteW G ((opNeed S x0 x1).2.2) u_2 ++ wr) _ := hV
    exact W.iret (v := ((opNeed S x0 x1).2.1)) hx hb hrt (fun t ht hW => ⟨⟨_, u_2, rfl, ⟨by unfold vIA; rw [if_pos hp_10], hp_12, hp_13⟩, kV_eq ht hV⟩, hS.F ht⟩) hS.2.2 dL_need_6
set_option maxHeartbeats 4000000 in
set_option maxRecDepth 100000 in
theorem c_L_buys (l : Launch) (G : kG) (S : kS) (y : kY) (yh : Nat) (wr : va_W) (x0 : Int32) (x1 : Int32) (rr : kR) (hr : opBuy S x0 x1 = rr) (hlt : l.stackTraces = false) (hh : yH y 0 = yh) (hI : kInv S) (hY : yI G S y) : Met l yL_buys wsL_buys ({ frames := 8, cells := 3, slots := 18, locals := 134 } : Room) (kPc G [.ref (yh), .int (x0), .int (x1)] (siteW G S y ++ wr)) (kQi G (S := kY) (fun z u => z = vIS rr ∧ yI G rr.2.2 u ∧ yH u 0 = yh) (fun u => siteW G rr.2.2 u ++ wr)) 3 18 (kA G) := by
  refine va_MetW (cc := cL_buys) (maxL := 4) (ret := (some .int)) (by decide) rfl ?_
  intro pp ee s m args below meth cc0 s₁ Bd0 hml hv
  obtain ⟨rfl, hE, hV⟩ := hv
  have hK := hE.1
  have hx := Bd0.exec
  have hb := Bd0.bytes
  have hrt := Bd0.returns
  have hts := atoms_spec (ws := wsL_buys) Bd0.pre
  have hown : s.vm.findClass RL = some m.cls := findClass_of_methodNamed Bd0.named
  have hlocks := Bd0.notSynchronized
  have htab := vx_table (x := yL_buys) Bd0 (hts (Cond.codeWith yL_buys cL_buys 4 (some .int) [(0, 6, 7, 13), (0, 6, 11, 19)]) (List.mem_of_getElem? (i := 0) rfl))
  have hF : CallFix pp m cc0 cL_buys 4 s _ wsL_buys RL := ⟨hx, hb, hml, hown, hts⟩
  have hS : va_S (kA G) s.heap s.heap [] := va_S.rf
  have hB0 := hE.2.1
  have hl := lv_entry ([.ref (yh), .int (x0), .int (x1)]) (n := 4) (Nat.le_of_ble_eq_true rfl)
  rw [lg_entry_eq]
  generalize (lg_sl ([.ref (yh), .int (x0), .int (x1)]) ++ List.replicate (4 - (lg_sl ([.ref (yh), .int (x0), .int (x1)])).length) Slot.unset).toArray = ls at hl ⊢
  have hl : lv_has ls 4 [(0, .ref (yh)), (1, .int (x0)), (2, .int (x1))] := hl
  subst hr
  subst hh
  refine lv_aload_n hx hb dL_buys_0 rfl (lv_at hl 0 rfl) ?_
  refine lv_iload_n hx hb dL_buys_1 rfl (lv_at hl 1 rfl) ?_
  refine lv_iload_n hx hb dL_buys_2 rfl (lv_at hl 2 rfl) ?_
  refine kx_i (vx_runV (As := [.int (x0), .int (x1)]) (rest := []) hF (c_X5_buy l hlt G S y wr x0 x1 hI hY) (cwV 2 hts gL_buys_X5_buy rfl rfl rfl (by decide +kernel) ⟨Nat.le_of_ble_eq_true rfl, Nat.le_of_ble_eq_true rfl⟩) (kPreV hE hS hV 0 rfl rfl) rfl rfl hl.1 rfl (lv_room (Nat.le_of_ble_eq_true rfl)) dL_buys_3 ⟨Nat.le_of_ble_eq_true rfl, Nat.le_of_ble_eq_true rfl⟩) hS (fun E ce q9 H locs hxc hV hS hq1 hq2 hq3 => ?_) (fun r_3 u_2 H locs hp_1 hV hS => ?_)
  · rcases hxc with ⟨rfl, he9⟩ | ⟨rfl, he9⟩
    · have hop9 : (opBuy S x0 x1).2.2 = S := by
        have he8 : (opBuy S x0 x1).1 ≠ 0 := by omega
        revert he8
        unfold opBuy kif
        (repeat' split) <;> first | exact fun _ => rfl | exact fun z => absurd rfl z
      refine vx_catch (name := "java/lang/IndexOutOfBoundsException") hown [] ⟨0, 6, 7, 13⟩ [⟨0, 6, 11, 19⟩] htab (fun z h => (List.not_mem_nil h).elim) (by decide) (by decide) (hts (Cond.classLink RL 13 "java/lang/IndexOutOfBoundsException") (List.mem_of_getElem? (i := 1) rfl)) ((hE.2.2.1 (.castable kIOB kIOB) (by decide +kernel)).use rfl) hq1 hq2 hq3 ?_
      refine lv_astore_n (lv' := [(3, .ref (q9)), (0, .ref (yH y 0)), (1, .int (x0)), (2, .int (x1))]) hx hb dL_buys_7 rfl hl (by decide) rfl (fun ls hl => ?_)
      refine lv_ldc (v := -2000000001) hx hb hown (hts (Cond.constant RL 15 (-2000000001)) (List.mem_of_getElem? (i := 3) rfl)) dL_buys_8 ?_
      exact W.iret (v := (-2000000001)) hx hb hrt (fun t ht hW => ⟨⟨_, y, rfl, ⟨by unfold vIS; rw [if_neg (show ¬ (opBuy S x0 x1).1 = 0 by omega), if_pos (show (opBuy S x0 x1).1 = 1 from he9)], by rw [hop9]; exact hY, rfl⟩, kV_eq ht (show kV G (siteW G (opBuy S x0 x1).2.2 y ++ wr) _ by rw [hop9]; exact hV)⟩, hS.F ht⟩) hS.2.2 dL_buys_10
    · have hop9 : (opBuy S x0 x1).2.2 = S := by
        have he8 : (opBuy S x0 x1).1 ≠ 0 := by omega
        revert he8
        unfold opBuy kif
        (repeat' split) <;> first | exact fun _ => rfl | exact fun z => absurd rfl z
      refine vx_catch (name := "java/lang/IllegalStateException") hown [⟨0, 6, 7, 13⟩] ⟨0, 6, 11, 19⟩ [] htab (fun z h => by
          rcases List.mem_cons.mp h with h | h
          · subst h; exact Or.inr ⟨by decide, _, (hts (Cond.classLink RL 13 "java/lang/IndexOutOfBoundsException") (List.mem_of_getElem? (i := 1) rfl)), hE.2.2.2.1 (kISE, kIOB) (by decide +kernel)⟩
          · exact (List.not_mem_nil h).elim) (by decide) (by decide) (hts (Cond.classLink RL 19 "java/lang/IllegalStateException") (List.mem_of_getElem? (i := 2) rfl)) ((hE.2.2.1 (.castable kISE kISE) (by decide +kernel)).use rfl) hq1 hq2 hq3 ?_
      refine lv_astore_n (lv' := [(3, .ref (q9)), (0, .ref (yH y 0)), (1, .int (x0)), (2, .int (x1))]) hx hb dL_buys_11 rfl hl (by decide) rfl (fun ls hl => ?_)
      refine lv_ldc (v := -2000000003) hx hb hown (hts (Cond.constant RL 21 (-2000000003)) (List.mem_of_getElem? (i := 4) rfl)) dL_buys_12 ?_
      exact W.iret (v := (-2000000003)) hx hb hrt (fun t ht hW => ⟨⟨_, y, rfl, ⟨by unfold vIS; rw [if_neg (show ¬ (opBuy S x0 x1).1 = 0 by omega), if_neg (show ¬ (opBuy S x0 x1).1 = 1 by omega)], by rw [hop9]; exact hY, rfl⟩, kV_eq ht (show kV G (siteW G (opBuy S x0 x1).2.2 y ++ wr) _ by rw [hop9]; exact hV)⟩, hS.F ht⟩) hS.2.2 dL_buys_14
  · obtain ⟨hp_10, hp_11, hp_12, hp_13⟩ := hp_1
    subst hp_11
    have hV : kV G (siteW G ((opBuy S x0 x1).2.2) u_2 ++ wr) _ := hV
    exact W.iret (v := ((opBuy S x0 x1).2.1)) hx hb hrt (fun t ht hW => ⟨⟨_, u_2, rfl, ⟨by unfold vIS; rw [if_pos hp_10], hp_12, hp_13⟩, kV_eq ht hV⟩, hS.F ht⟩) hS.2.2 dL_buys_6
set_option maxHeartbeats 4000000 in
set_option maxRecDepth 100000 in
theorem c_L_rules (l : Launch) (G : kG) (S : kS) (y : kY) (yh : Nat) (wr : va_W) (x0 : Int32) (rr : kR) (hr : opRule S x0 = rr) (hlt : l.stackTraces = false) (hh : yH y 0 = yh) (hI : kInv S) (hY : yI G S y) : Met l yL_rules wsL_rules ({ frames := 8, cells := 2, slots := 12, locals := 134 } : Room) (kPc G [.ref (yh), .int (x0)] (siteW G S y ++ wr)) (kQi G (S := kY) (fun z u => z = vIS rr ∧ yI G rr.2.2 u ∧ yH u 0 = yh) (fun u => siteW G rr.2.2 u ++ wr)) 2 12 (kA G) := by
  refine va_MetW (cc := cL_rules) (maxL := 3) (ret := (some .int)) (by decide) rfl ?_
  intro pp ee s m args below meth cc0 s₁ Bd0 hml hv
  obtain ⟨rfl, hE, hV⟩ := hv
  have hK := hE.1
  have hx := Bd0.exec
  have hb := Bd0.bytes
  have hrt := Bd0.returns
  have hts := atoms_spec (ws := wsL_rules) Bd0.pre
  have hown : s.vm.findClass RL = some m.cls := findClass_of_methodNamed Bd0.named
  have hlocks := Bd0.notSynchronized
  have htab := vx_table (x := yL_rules) Bd0 (hts (Cond.codeWith yL_rules cL_rules 3 (some .int) [(0, 5, 6, 13), (0, 5, 10, 19)]) (List.mem_of_getElem? (i := 0) rfl))
  have hF : CallFix pp m cc0 cL_rules 3 s _ wsL_rules RL := ⟨hx, hb, hml, hown, hts⟩
  have hS : va_S (kA G) s.heap s.heap [] := va_S.rf
  have hB0 := hE.2.1
  have hl := lv_entry ([.ref (yh), .int (x0)]) (n := 3) (Nat.le_of_ble_eq_true rfl)
  rw [lg_entry_eq]
  generalize (lg_sl ([.ref (yh), .int (x0)]) ++ List.replicate (3 - (lg_sl ([.ref (yh), .int (x0)])).length) Slot.unset).toArray = ls at hl ⊢
  have hl : lv_has ls 3 [(0, .ref (yh)), (1, .int (x0))] := hl
  subst hr
  subst hh
  refine lv_aload_n hx hb dL_rules_0 rfl (lv_at hl 0 rfl) ?_
  refine lv_iload_n hx hb dL_rules_1 rfl (lv_at hl 1 rfl) ?_
  refine kx_i (vx_runV (As := [.int (x0)]) (rest := []) hF (c_X5_rule l hlt G S y wr x0 hI hY) (cwV 1 hts gL_rules_X5_rule rfl rfl rfl (by decide +kernel) ⟨Nat.le_of_ble_eq_true rfl, Nat.le_of_ble_eq_true rfl⟩) (kPreV hE hS hV 0 rfl rfl) rfl rfl hl.1 rfl (lv_room (Nat.le_of_ble_eq_true rfl)) dL_rules_2 ⟨Nat.le_of_ble_eq_true rfl, Nat.le_of_ble_eq_true rfl⟩) hS (fun E ce q9 H locs hxc hV hS hq1 hq2 hq3 => ?_) (fun r_3 u_2 H locs hp_1 hV hS => ?_)
  · rcases hxc with ⟨rfl, he9⟩ | ⟨rfl, he9⟩
    · have hop9 : (opRule S x0).2.2 = S := by
        have he8 : (opRule S x0).1 ≠ 0 := by omega
        revert he8
        unfold opRule kif
        (repeat' split) <;> first | exact fun _ => rfl | exact fun z => absurd rfl z
      refine vx_catch (name := "java/lang/IndexOutOfBoundsException") hown [] ⟨0, 5, 6, 13⟩ [⟨0, 5, 10, 19⟩] htab (fun z h => (List.not_mem_nil h).elim) (by decide) (by decide) (hts (Cond.classLink RL 13 "java/lang/IndexOutOfBoundsException") (List.mem_of_getElem? (i := 1) rfl)) ((hE.2.2.1 (.castable kIOB kIOB) (by decide +kernel)).use rfl) hq1 hq2 hq3 ?_
      refine lv_astore_n (lv' := [(2, .ref (q9)), (0, .ref (yH y 0)), (1, .int (x0))]) hx hb dL_rules_6 rfl hl (by decide) rfl (fun ls hl => ?_)
      refine lv_ldc (v := -2000000001) hx hb hown (hts (Cond.constant RL 15 (-2000000001)) (List.mem_of_getElem? (i := 3) rfl)) dL_rules_7 ?_
      exact W.iret (v := (-2000000001)) hx hb hrt (fun t ht hW => ⟨⟨_, y, rfl, ⟨by unfold vIS; rw [if_neg (show ¬ (opRule S x0).1 = 0 by omega), if_pos (show (opRule S x0).1 = 1 from he9)], by rw [hop9]; exact hY, rfl⟩, kV_eq ht (show kV G (siteW G (opRule S x0).2.2 y ++ wr) _ by rw [hop9]; exact hV)⟩, hS.F ht⟩) hS.2.2 dL_rules_9
    · have hop9 : (opRule S x0).2.2 = S := by
        have he8 : (opRule S x0).1 ≠ 0 := by omega
        revert he8
        unfold opRule kif
        (repeat' split) <;> first | exact fun _ => rfl | exact fun z => absurd rfl z
      refine vx_catch (name := "java/lang/IllegalStateException") hown [⟨0, 5, 6, 13⟩] ⟨0, 5, 10, 19⟩ [] htab (fun z h => by
          rcases List.mem_cons.mp h with h | h
          · subst h; exact Or.inr ⟨by decide, _, (hts (Cond.classLink RL 13 "java/lang/IndexOutOfBoundsException") (List.mem_of_getElem? (i := 1) rfl)), hE.2.2.2.1 (kISE, kIOB) (by decide +kernel)⟩
          · exact (List.not_mem_nil h).elim) (by decide) (by decide) (hts (Cond.classLink RL 19 "java/lang/IllegalStateException") (List.mem_of_getElem? (i := 2) rfl)) ((hE.2.2.1 (.castable kISE kISE) (by decide +kernel)).use rfl) hq1 hq2 hq3 ?_
      refine lv_astore_n (lv' := [(2, .ref (q9)), (0, .ref (yH y 0)), (1, .int (x0))]) hx hb dL_rules_10 rfl hl (by decide) rfl (fun ls hl => ?_)
      refine lv_ldc (v := -2000000003) hx hb hown (hts (Cond.constant RL 21 (-2000000003)) (List.mem_of_getElem? (i := 4) rfl)) dL_rules_11 ?_
      exact W.iret (v := (-2000000003)) hx hb hrt (fun t ht hW => ⟨⟨_, y, rfl, ⟨by unfold vIS; rw [if_neg (show ¬ (opRule S x0).1 = 0 by omega), if_neg (show ¬ (opRule S x0).1 = 1 by omega)], by rw [hop9]; exact hY, rfl⟩, kV_eq ht (show kV G (siteW G (opRule S x0).2.2 y ++ wr) _ by rw [hop9]; exact hV)⟩, hS.F ht⟩) hS.2.2 dL_rules_13
  · obtain ⟨hp_10, hp_11, hp_12, hp_13⟩ := hp_1
    subst hp_11
    have hV : kV G (siteW G ((opRule S x0).2.2) u_2 ++ wr) _ := hV
    exact W.iret (v := ((opRule S x0).2.1)) hx hb hrt (fun t ht hW => ⟨⟨_, u_2, rfl, ⟨by unfold vIS; rw [if_pos hp_10], hp_12, hp_13⟩, kV_eq ht hV⟩, hS.F ht⟩) hS.2.2 dL_rules_5
set_option maxHeartbeats 4000000 in
set_option maxRecDepth 100000 in
theorem c_L_money (l : Launch) (G : kG) (S : kS) (y : kY) (yh : Nat) (wr : va_W) (x0 : Int32) (rr : kR) (hr : opMoney S x0 = rr) (hlt : l.stackTraces = false) (hh : yH y 0 = yh) (hI : kInv S) (hY : yI G S y) : Met l yL_money wsL_money ({ frames := 8, cells := 1, slots := 6, locals := 131 } : Room) (kPc G [.ref (yh), .int (x0)] (siteW G S y ++ wr)) (kQi G (S := kY) (fun z u => z = vI rr ∧ yI G rr.2.2 u ∧ yH u 0 = yh) (fun u => siteW G rr.2.2 u ++ wr)) 1 6 (kA G) := by
  refine va_MetW (cc := cL_money) (maxL := 3) (ret := (some .int)) (by decide) rfl ?_
  intro pp ee s m args below meth cc0 s₁ Bd0 hml hv
  obtain ⟨rfl, hE, hV⟩ := hv
  have hK := hE.1
  have hx := Bd0.exec
  have hb := Bd0.bytes
  have hrt := Bd0.returns
  have hts := atoms_spec (ws := wsL_money) Bd0.pre
  have hown : s.vm.findClass RL = some m.cls := findClass_of_methodNamed Bd0.named
  have hlocks := Bd0.notSynchronized
  have htab := vx_table (x := yL_money) Bd0 (hts (Cond.codeWith yL_money cL_money 3 (some .int) [(0, 5, 6, 13)]) (List.mem_of_getElem? (i := 0) rfl))
  have hF : CallFix pp m cc0 cL_money 3 s _ wsL_money RL := ⟨hx, hb, hml, hown, hts⟩
  have hS : va_S (kA G) s.heap s.heap [] := va_S.rf
  have hB0 := hE.2.1
  have hl := lv_entry ([.ref (yh), .int (x0)]) (n := 3) (Nat.le_of_ble_eq_true rfl)
  rw [lg_entry_eq]
  generalize (lg_sl ([.ref (yh), .int (x0)]) ++ List.replicate (3 - (lg_sl ([.ref (yh), .int (x0)])).length) Slot.unset).toArray = ls at hl ⊢
  have hl : lv_has ls 3 [(0, .ref (yh)), (1, .int (x0))] := hl
  subst hr
  subst hh
  refine lv_aload_n hx hb dL_money_0 rfl (lv_at hl 0 rfl) ?_
  refine lv_iload_n hx hb dL_money_1 rfl (lv_at hl 1 rfl) ?_
  refine kx_i (vx_runV (As := [.int (x0)]) (rest := []) hF (c_X5_money l hlt G S y wr x0 hI hY) (cwV 1 hts gL_money_X5_money rfl rfl rfl (by decide +kernel) ⟨Nat.le_of_ble_eq_true rfl, Nat.le_of_ble_eq_true rfl⟩) (kPreV hE hS hV 0 rfl rfl) rfl rfl hl.1 rfl (lv_room (Nat.le_of_ble_eq_true rfl)) dL_money_2 ⟨Nat.le_of_ble_eq_true rfl, Nat.le_of_ble_eq_true rfl⟩) hS (fun E ce q9 H locs hxc hV hS hq1 hq2 hq3 => ?_) (fun r_3 u_2 H locs hp_1 hV hS => ?_)
  · obtain ⟨rfl, he9⟩ := hxc
    have hop9 : (opMoney S x0).2.2 = S := by
      have he8 : (opMoney S x0).1 ≠ 0 := by omega
      revert he8
      unfold opMoney kif
      (repeat' split) <;> first | exact fun _ => rfl | exact fun z => absurd rfl z
    refine vx_catch (name := "java/lang/IndexOutOfBoundsException") hown [] ⟨0, 5, 6, 13⟩ [] htab (fun z h => (List.not_mem_nil h).elim) (by decide) (by decide) (hts (Cond.classLink RL 13 "java/lang/IndexOutOfBoundsException") (List.mem_of_getElem? (i := 1) rfl)) ((hE.2.2.1 (.castable kIOB kIOB) (by decide +kernel)).use rfl) hq1 hq2 hq3 ?_
    refine lv_astore_n (lv' := [(2, .ref (q9)), (0, .ref (yH y 0)), (1, .int (x0))]) hx hb dL_money_6 rfl hl (by decide) rfl (fun ls hl => ?_)
    refine lv_ldc (v := -2000000001) hx hb hown (hts (Cond.constant RL 15 (-2000000001)) (List.mem_of_getElem? (i := 2) rfl)) dL_money_7 ?_
    exact W.iret (v := (-2000000001)) hx hb hrt (fun t ht hW => ⟨⟨_, y, rfl, ⟨by unfold vI; rw [if_neg (show ¬ (opMoney S x0).1 = 0 by omega)], by rw [hop9]; exact hY, rfl⟩, kV_eq ht (show kV G (siteW G (opMoney S x0).2.2 y ++ wr) _ by rw [hop9]; exact hV)⟩, hS.F ht⟩) hS.2.2 dL_money_9
  · obtain ⟨hp_10, hp_11, hp_12, hp_13⟩ := hp_1
    subst hp_11
    have hV : kV G (siteW G ((opMoney S x0).2.2) u_2 ++ wr) _ := hV
    exact W.iret (v := ((opMoney S x0).2.1)) hx hb hrt (fun t ht hW => ⟨⟨_, u_2, rfl, ⟨by unfold vI; rw [if_pos hp_10], hp_12, hp_13⟩, kV_eq ht hV⟩, hS.F ht⟩) hS.2.2 dL_money_5
set_option maxHeartbeats 4000000 in
set_option maxRecDepth 100000 in
theorem c_L_lots (l : Launch) (G : kG) (S : kS) (y : kY) (yh : Nat) (wr : va_W) (x0 : Int32) (x1 : Int32) (x2 : Int32) (rr : kR) (hr : opLot S x0 x1 x2 = rr) (hlt : l.stackTraces = false) (hh : yH y 0 = yh) (hI : kInv S) (hY : yI G S y) : Met l yL_lots wsL_lots ({ frames := 9, cells := 6, slots := 80, locals := 215 } : Room) (kPc G [.ref (yh), .int (x0), .int (x1), .int (x2)] (siteW G S y ++ wr)) (kQi G (S := kY) (fun z u => z = vIAS rr ∧ yI G rr.2.2 u ∧ yH u 0 = yh) (fun u => siteW G rr.2.2 u ++ wr)) 6 80 (kA G) := by
  refine va_MetW (cc := cL_lots) (maxL := 5) (ret := (some .int)) (by decide) rfl ?_
  intro pp ee s m args below meth cc0 s₁ Bd0 hml hv
  obtain ⟨rfl, hE, hV⟩ := hv
  have hK := hE.1
  have hx := Bd0.exec
  have hb := Bd0.bytes
  have hrt := Bd0.returns
  have hts := atoms_spec (ws := wsL_lots) Bd0.pre
  have hown : s.vm.findClass RL = some m.cls := findClass_of_methodNamed Bd0.named
  have hlocks := Bd0.notSynchronized
  have htab := vx_table (x := yL_lots) Bd0 (hts (Cond.codeWith yL_lots cL_lots 5 (some .int) [(0, 7, 8, 13), (0, 7, 13, 16), (0, 7, 18, 19)]) (List.mem_of_getElem? (i := 0) rfl))
  have hF : CallFix pp m cc0 cL_lots 5 s _ wsL_lots RL := ⟨hx, hb, hml, hown, hts⟩
  have hS : va_S (kA G) s.heap s.heap [] := va_S.rf
  have hB0 := hE.2.1
  have hl := lv_entry ([.ref (yh), .int (x0), .int (x1), .int (x2)]) (n := 5) (Nat.le_of_ble_eq_true rfl)
  rw [lg_entry_eq]
  generalize (lg_sl ([.ref (yh), .int (x0), .int (x1), .int (x2)]) ++ List.replicate (5 - (lg_sl ([.ref (yh), .int (x0), .int (x1), .int (x2)])).length) Slot.unset).toArray = ls at hl ⊢
  have hl : lv_has ls 5 [(0, .ref (yh)), (1, .int (x0)), (2, .int (x1)), (3, .int (x2))] := hl
  subst hr
  subst hh
  refine lv_aload_n hx hb dL_lots_0 rfl (lv_at hl 0 rfl) ?_
  refine lv_iload_n hx hb dL_lots_1 rfl (lv_at hl 1 rfl) ?_
  refine lv_iload_n hx hb dL_lots_2 rfl (lv_at hl 2 rfl) ?_
  refine lv_iload_n hx hb dL_lots_3 rfl (lv_at hl 3 rfl) ?_
  refine kx_i (vx_runV (As := [.int (x0), .int (x1), .int (x2)]) (rest := []) hF (c_X5_lot l hlt G S y wr x0 x1 x2 hI hY) (cwV 3 hts gL_lots_X5_lot rfl rfl rfl (by decide +kernel) ⟨Nat.le_of_ble_eq_true rfl, Nat.le_of_ble_eq_true rfl⟩) (kPreV hE hS hV 0 rfl rfl) rfl rfl hl.1 rfl (lv_room (Nat.le_of_ble_eq_true rfl)) dL_lots_4 ⟨Nat.le_of_ble_eq_true rfl, Nat.le_of_ble_eq_true rfl⟩) hS (fun E ce q9 H locs hxc hV hS hq1 hq2 hq3 => ?_) (fun r_3 u_2 H locs hp_1 hV hS => ?_)
  · rcases hxc with ⟨rfl, he9⟩ | ⟨rfl, he9⟩ | ⟨rfl, he9⟩
    · have hop9 : (opLot S x0 x1 x2).2.2 = S := by
        have he8 : (opLot S x0 x1 x2).1 ≠ 0 := by omega
        revert he8
        unfold opLot kif
        (repeat' split) <;> first | exact fun _ => rfl | exact fun z => absurd rfl z
      refine vx_catch (name := "java/lang/IndexOutOfBoundsException") hown [] ⟨0, 7, 8, 13⟩ [⟨0, 7, 13, 16⟩, ⟨0, 7, 18, 19⟩] htab (fun z h => (List.not_mem_nil h).elim) (by decide) (by decide) (hts (Cond.classLink RL 13 "java/lang/IndexOutOfBoundsException") (List.mem_of_getElem? (i := 1) rfl)) ((hE.2.2.1 (.castable kIOB kIOB) (by decide +kernel)).use rfl) hq1 hq2 hq3 ?_
      refine lv_astore (lv' := [(4, .ref (q9)), (0, .ref (yH y 0)), (1, .int (x0)), (2, .int (x1)), (3, .int (x2))]) hx hb dL_lots_8 hl (by decide) rfl (fun ls hl => ?_)
      refine lv_ldc (v := -2000000001) hx hb hown (hts (Cond.constant RL 15 (-2000000001)) (List.mem_of_getElem? (i := 4) rfl)) dL_lots_10 ?_
      exact W.iret (v := (-2000000001)) hx hb hrt (fun t ht hW => ⟨⟨_, y, rfl, ⟨by unfold vIAS; rw [if_neg (show ¬ (opLot S x0 x1 x2).1 = 0 by omega), if_pos (show (opLot S x0 x1 x2).1 = 1 from he9)], by rw [hop9]; exact hY, rfl⟩, kV_eq ht (show kV G (siteW G (opLot S x0 x1 x2).2.2 y ++ wr) _ by rw [hop9]; exact hV)⟩, hS.F ht⟩) hS.2.2 dL_lots_12
    · have hop9 : (opLot S x0 x1 x2).2.2 = S := by
        have he8 : (opLot S x0 x1 x2).1 ≠ 0 := by omega
        revert he8
        unfold opLot kif
        (repeat' split) <;> first | exact fun _ => rfl | exact fun z => absurd rfl z
      refine vx_catch (name := "java/lang/IllegalArgumentException") hown [⟨0, 7, 8, 13⟩] ⟨0, 7, 13, 16⟩ [⟨0, 7, 18, 19⟩] htab (fun z h => by
          rcases List.mem_cons.mp h with h | h
          · subst h; exact Or.inr ⟨by decide, _, (hts (Cond.classLink RL 13 "java/lang/IndexOutOfBoundsException") (List.mem_of_getElem? (i := 1) rfl)), hE.2.2.2.1 (kIAE, kIOB) (by decide +kernel)⟩
          · exact (List.not_mem_nil h).elim) (by decide) (by decide) (hts (Cond.classLink RL 16 "java/lang/IllegalArgumentException") (List.mem_of_getElem? (i := 2) rfl)) ((hE.2.2.1 (.castable kIAE kIAE) (by decide +kernel)).use rfl) hq1 hq2 hq3 ?_
      refine lv_astore (lv' := [(4, .ref (q9)), (0, .ref (yH y 0)), (1, .int (x0)), (2, .int (x1)), (3, .int (x2))]) hx hb dL_lots_13 hl (by decide) rfl (fun ls hl => ?_)
      refine lv_ldc (v := -2000000002) hx hb hown (hts (Cond.constant RL 18 (-2000000002)) (List.mem_of_getElem? (i := 5) rfl)) dL_lots_15 ?_
      exact W.iret (v := (-2000000002)) hx hb hrt (fun t ht hW => ⟨⟨_, y, rfl, ⟨by unfold vIAS; rw [if_neg (show ¬ (opLot S x0 x1 x2).1 = 0 by omega), if_neg (show ¬ (opLot S x0 x1 x2).1 = 1 by omega), if_pos (show (opLot S x0 x1 x2).1 = 2 from he9)], by rw [hop9]; exact hY, rfl⟩, kV_eq ht (show kV G (siteW G (opLot S x0 x1 x2).2.2 y ++ wr) _ by rw [hop9]; exact hV)⟩, hS.F ht⟩) hS.2.2 dL_lots_17
    · have hop9 : (opLot S x0 x1 x2).2.2 = S := by
        have he8 : (opLot S x0 x1 x2).1 ≠ 0 := by omega
        revert he8
        unfold opLot kif
        (repeat' split) <;> first | exact fun _ => rfl | exact fun z => absurd rfl z
      refine vx_catch (name := "java/lang/IllegalStateException") hown [⟨0, 7, 8, 13⟩, ⟨0, 7, 13, 16⟩] ⟨0, 7, 18, 19⟩ [] htab (fun z h => by
          rcases List.mem_cons.mp h with h | h
          · subst h; exact Or.inr ⟨by decide, _, (hts (Cond.classLink RL 13 "java/lang/IndexOutOfBoundsException") (List.mem_of_getElem? (i := 1) rfl)), hE.2.2.2.1 (kISE, kIOB) (by decide +kernel)⟩
          · rcases List.mem_cons.mp h with h | h
            · subst h; exact Or.inr ⟨by decide, _, (hts (Cond.classLink RL 16 "java/lang/IllegalArgumentException") (List.mem_of_getElem? (i := 2) rfl)), hE.2.2.2.1 (kISE, kIAE) (by decide +kernel)⟩
            · exact (List.not_mem_nil h).elim) (by decide) (by decide) (hts (Cond.classLink RL 19 "java/lang/IllegalStateException") (List.mem_of_getElem? (i := 3) rfl)) ((hE.2.2.1 (.castable kISE kISE) (by decide +kernel)).use rfl) hq1 hq2 hq3 ?_
      refine lv_astore (lv' := [(4, .ref (q9)), (0, .ref (yH y 0)), (1, .int (x0)), (2, .int (x1)), (3, .int (x2))]) hx hb dL_lots_18 hl (by decide) rfl (fun ls hl => ?_)
      refine lv_ldc (v := -2000000003) hx hb hown (hts (Cond.constant RL 21 (-2000000003)) (List.mem_of_getElem? (i := 6) rfl)) dL_lots_20 ?_
      exact W.iret (v := (-2000000003)) hx hb hrt (fun t ht hW => ⟨⟨_, y, rfl, ⟨by unfold vIAS; rw [if_neg (show ¬ (opLot S x0 x1 x2).1 = 0 by omega), if_neg (show ¬ (opLot S x0 x1 x2).1 = 1 by omega), if_neg (show ¬ (opLot S x0 x1 x2).1 = 2 by omega)], by rw [hop9]; exact hY, rfl⟩, kV_eq ht (show kV G (siteW G (opLot S x0 x1 x2).2.2 y ++ wr) _ by rw [hop9]; exact hV)⟩, hS.F ht⟩) hS.2.2 dL_lots_22
  · obtain ⟨hp_10, hp_11, hp_12, hp_13⟩ := hp_1
    subst hp_11
    have hV : kV G (siteW G ((opLot S x0 x1 x2).2.2) u_2 ++ wr) _ := hV
    exact W.iret (v := ((opLot S x0 x1 x2).2.1)) hx hb hrt (fun t ht hW => ⟨⟨_, u_2, rfl, ⟨by unfold vIAS; rw [if_pos hp_10], hp_12, hp_13⟩, kV_eq ht hV⟩, hS.F ht⟩) hS.2.2 dL_lots_7
set_option maxHeartbeats 4000000 in
set_option maxRecDepth 100000 in
theorem c_L_swaps (l : Launch) (G : kG) (S : kS) (y : kY) (yh : Nat) (wr : va_W) (x0 : Int32) (x1 : Int32) (rr : kR) (hr : opSwap S x0 x1 = rr) (hlt : l.stackTraces = false) (hh : yH y 0 = yh) (hI : kInv S) (hY : yI G S y) : Met l yL_swaps wsL_swaps ({ frames := 8, cells := 3, slots := 18, locals := 136 } : Room) (kPc G [.ref (yh), .int (x0), .int (x1)] (siteW G S y ++ wr)) (kQi G (S := kY) (fun z u => z = vIS rr ∧ yI G rr.2.2 u ∧ yH u 0 = yh) (fun u => siteW G rr.2.2 u ++ wr)) 3 18 (kA G) := by
  refine va_MetW (cc := cL_swaps) (maxL := 4) (ret := (some .int)) (by decide) rfl ?_
  intro pp ee s m args below meth cc0 s₁ Bd0 hml hv
  obtain ⟨rfl, hE, hV⟩ := hv
  have hK := hE.1
  have hx := Bd0.exec
  have hb := Bd0.bytes
  have hrt := Bd0.returns
  have hts := atoms_spec (ws := wsL_swaps) Bd0.pre
  have hown : s.vm.findClass RL = some m.cls := findClass_of_methodNamed Bd0.named
  have hlocks := Bd0.notSynchronized
  have htab := vx_table (x := yL_swaps) Bd0 (hts (Cond.codeWith yL_swaps cL_swaps 4 (some .int) [(0, 6, 7, 13), (0, 6, 11, 19)]) (List.mem_of_getElem? (i := 0) rfl))
  have hF : CallFix pp m cc0 cL_swaps 4 s _ wsL_swaps RL := ⟨hx, hb, hml, hown, hts⟩
  have hS : va_S (kA G) s.heap s.heap [] := va_S.rf
  have hB0 := hE.2.1
  have hl := lv_entry ([.ref (yh), .int (x0), .int (x1)]) (n := 4) (Nat.le_of_ble_eq_true rfl)
  rw [lg_entry_eq]
  generalize (lg_sl ([.ref (yh), .int (x0), .int (x1)]) ++ List.replicate (4 - (lg_sl ([.ref (yh), .int (x0), .int (x1)])).length) Slot.unset).toArray = ls at hl ⊢
  have hl : lv_has ls 4 [(0, .ref (yh)), (1, .int (x0)), (2, .int (x1))] := hl
  subst hr
  subst hh
  refine lv_aload_n hx hb dL_swaps_0 rfl (lv_at hl 0 rfl) ?_
  refine lv_iload_n hx hb dL_swaps_1 rfl (lv_at hl 1 rfl) ?_
  refine lv_iload_n hx hb dL_swaps_2 rfl (lv_at hl 2 rfl) ?_
  refine kx_i (vx_runV (As := [.int (x0), .int (x1)]) (rest := []) hF (c_X5_swap l hlt G S y wr x0 x1 hI hY) (cwV 2 hts gL_swaps_X5_swap rfl rfl rfl (by decide +kernel) ⟨Nat.le_of_ble_eq_true rfl, Nat.le_of_ble_eq_true rfl⟩) (kPreV hE hS hV 0 rfl rfl) rfl rfl hl.1 rfl (lv_room (Nat.le_of_ble_eq_true rfl)) dL_swaps_3 ⟨Nat.le_of_ble_eq_true rfl, Nat.le_of_ble_eq_true rfl⟩) hS (fun E ce q9 H locs hxc hV hS hq1 hq2 hq3 => ?_) (fun r_3 u_2 H locs hp_1 hV hS => ?_)
  · rcases hxc with ⟨rfl, he9⟩ | ⟨rfl, he9⟩
    · have hop9 : (opSwap S x0 x1).2.2 = S := by
        have he8 : (opSwap S x0 x1).1 ≠ 0 := by omega
        revert he8
        unfold opSwap kif
        (repeat' split) <;> first | exact fun _ => rfl | exact fun z => absurd rfl z
      refine vx_catch (name := "java/lang/IndexOutOfBoundsException") hown [] ⟨0, 6, 7, 13⟩ [⟨0, 6, 11, 19⟩] htab (fun z h => (List.not_mem_nil h).elim) (by decide) (by decide) (hts (Cond.classLink RL 13 "java/lang/IndexOutOfBoundsException") (List.mem_of_getElem? (i := 1) rfl)) ((hE.2.2.1 (.castable kIOB kIOB) (by decide +kernel)).use rfl) hq1 hq2 hq3 ?_
      refine lv_astore_n (lv' := [(3, .ref (q9)), (0, .ref (yH y 0)), (1, .int (x0)), (2, .int (x1))]) hx hb dL_swaps_7 rfl hl (by decide) rfl (fun ls hl => ?_)
      refine lv_ldc (v := -2000000001) hx hb hown (hts (Cond.constant RL 15 (-2000000001)) (List.mem_of_getElem? (i := 3) rfl)) dL_swaps_8 ?_
      exact W.iret (v := (-2000000001)) hx hb hrt (fun t ht hW => ⟨⟨_, y, rfl, ⟨by unfold vIS; rw [if_neg (show ¬ (opSwap S x0 x1).1 = 0 by omega), if_pos (show (opSwap S x0 x1).1 = 1 from he9)], by rw [hop9]; exact hY, rfl⟩, kV_eq ht (show kV G (siteW G (opSwap S x0 x1).2.2 y ++ wr) _ by rw [hop9]; exact hV)⟩, hS.F ht⟩) hS.2.2 dL_swaps_10
    · have hop9 : (opSwap S x0 x1).2.2 = S := by
        have he8 : (opSwap S x0 x1).1 ≠ 0 := by omega
        revert he8
        unfold opSwap kif
        (repeat' split) <;> first | exact fun _ => rfl | exact fun z => absurd rfl z
      refine vx_catch (name := "java/lang/IllegalStateException") hown [⟨0, 6, 7, 13⟩] ⟨0, 6, 11, 19⟩ [] htab (fun z h => by
          rcases List.mem_cons.mp h with h | h
          · subst h; exact Or.inr ⟨by decide, _, (hts (Cond.classLink RL 13 "java/lang/IndexOutOfBoundsException") (List.mem_of_getElem? (i := 1) rfl)), hE.2.2.2.1 (kISE, kIOB) (by decide +kernel)⟩
          · exact (List.not_mem_nil h).elim) (by decide) (by decide) (hts (Cond.classLink RL 19 "java/lang/IllegalStateException") (List.mem_of_getElem? (i := 2) rfl)) ((hE.2.2.1 (.castable kISE kISE) (by decide +kernel)).use rfl) hq1 hq2 hq3 ?_
      refine lv_astore_n (lv' := [(3, .ref (q9)), (0, .ref (yH y 0)), (1, .int (x0)), (2, .int (x1))]) hx hb dL_swaps_11 rfl hl (by decide) rfl (fun ls hl => ?_)
      refine lv_ldc (v := -2000000003) hx hb hown (hts (Cond.constant RL 21 (-2000000003)) (List.mem_of_getElem? (i := 4) rfl)) dL_swaps_12 ?_
      exact W.iret (v := (-2000000003)) hx hb hrt (fun t ht hW => ⟨⟨_, y, rfl, ⟨by unfold vIS; rw [if_neg (show ¬ (opSwap S x0 x1).1 = 0 by omega), if_neg (show ¬ (opSwap S x0 x1).1 = 1 by omega)], by rw [hop9]; exact hY, rfl⟩, kV_eq ht (show kV G (siteW G (opSwap S x0 x1).2.2 y ++ wr) _ by rw [hop9]; exact hV)⟩, hS.F ht⟩) hS.2.2 dL_swaps_14
  · obtain ⟨hp_10, hp_11, hp_12, hp_13⟩ := hp_1
    subst hp_11
    have hV : kV G (siteW G ((opSwap S x0 x1).2.2) u_2 ++ wr) _ := hV
    exact W.iret (v := ((opSwap S x0 x1).2.1)) hx hb hrt (fun t ht hW => ⟨⟨_, u_2, rfl, ⟨by unfold vIS; rw [if_pos hp_10], hp_12, hp_13⟩, kV_eq ht hV⟩, hS.F ht⟩) hS.2.2 dL_swaps_6
set_option maxHeartbeats 4000000 in
set_option maxRecDepth 100000 in
theorem c_L_left (l : Launch) (G : kG) (S : kS) (y : kY) (yh : Nat) (wr : va_W) (x0 : Int32) (rr : kR) (hr : opLeft S x0 = rr) (hlt : l.stackTraces = false) (hh : yH y 0 = yh) (hI : kInv S) (hY : yI G S y) : Met l yL_left wsL_left ({ frames := 8, cells := 1, slots := 6, locals := 132 } : Room) (kPc G [.ref (yh), .int (x0)] (siteW G S y ++ wr)) (kQi G (S := kY) (fun z u => z = vI rr ∧ yI G rr.2.2 u ∧ yH u 0 = yh) (fun u => siteW G rr.2.2 u ++ wr)) 1 6 (kA G) := by
  refine va_MetW (cc := cL_left) (maxL := 3) (ret := (some .int)) (by decide) rfl ?_
  intro pp ee s m args below meth cc0 s₁ Bd0 hml hv
  obtain ⟨rfl, hE, hV⟩ := hv
  have hK := hE.1
  have hx := Bd0.exec
  have hb := Bd0.bytes
  have hrt := Bd0.returns
  have hts := atoms_spec (ws := wsL_left) Bd0.pre
  have hown : s.vm.findClass RL = some m.cls := findClass_of_methodNamed Bd0.named
  have hlocks := Bd0.notSynchronized
  have htab := vx_table (x := yL_left) Bd0 (hts (Cond.codeWith yL_left cL_left 3 (some .int) [(0, 5, 6, 13)]) (List.mem_of_getElem? (i := 0) rfl))
  have hF : CallFix pp m cc0 cL_left 3 s _ wsL_left RL := ⟨hx, hb, hml, hown, hts⟩
  have hS : va_S (kA G) s.heap s.heap [] := va_S.rf
  have hB0 := hE.2.1
  have hl := lv_entry ([.ref (yh), .int (x0)]) (n := 3) (Nat.le_of_ble_eq_true rfl)
  rw [lg_entry_eq]
  generalize (lg_sl ([.ref (yh), .int (x0)]) ++ List.replicate (3 - (lg_sl ([.ref (yh), .int (x0)])).length) Slot.unset).toArray = ls at hl ⊢
  have hl : lv_has ls 3 [(0, .ref (yh)), (1, .int (x0))] := hl
  subst hr
  subst hh
  refine lv_aload_n hx hb dL_left_0 rfl (lv_at hl 0 rfl) ?_
  refine lv_iload_n hx hb dL_left_1 rfl (lv_at hl 1 rfl) ?_
  refine kx_i (vx_runV (As := [.int (x0)]) (rest := []) hF (c_X5_left l hlt G S y wr x0 hI hY) (cwV 1 hts gL_left_X5_left rfl rfl rfl (by decide +kernel) ⟨Nat.le_of_ble_eq_true rfl, Nat.le_of_ble_eq_true rfl⟩) (kPreV hE hS hV 0 rfl rfl) rfl rfl hl.1 rfl (lv_room (Nat.le_of_ble_eq_true rfl)) dL_left_2 ⟨Nat.le_of_ble_eq_true rfl, Nat.le_of_ble_eq_true rfl⟩) hS (fun E ce q9 H locs hxc hV hS hq1 hq2 hq3 => ?_) (fun r_3 u_2 H locs hp_1 hV hS => ?_)
  · obtain ⟨rfl, he9⟩ := hxc
    have hop9 : (opLeft S x0).2.2 = S := by
      have he8 : (opLeft S x0).1 ≠ 0 := by omega
      revert he8
      unfold opLeft kif
      (repeat' split) <;> first | exact fun _ => rfl | exact fun z => absurd rfl z
    refine vx_catch (name := "java/lang/IndexOutOfBoundsException") hown [] ⟨0, 5, 6, 13⟩ [] htab (fun z h => (List.not_mem_nil h).elim) (by decide) (by decide) (hts (Cond.classLink RL 13 "java/lang/IndexOutOfBoundsException") (List.mem_of_getElem? (i := 1) rfl)) ((hE.2.2.1 (.castable kIOB kIOB) (by decide +kernel)).use rfl) hq1 hq2 hq3 ?_
    refine lv_astore_n (lv' := [(2, .ref (q9)), (0, .ref (yH y 0)), (1, .int (x0))]) hx hb dL_left_6 rfl hl (by decide) rfl (fun ls hl => ?_)
    refine lv_ldc (v := -2000000001) hx hb hown (hts (Cond.constant RL 15 (-2000000001)) (List.mem_of_getElem? (i := 2) rfl)) dL_left_7 ?_
    exact W.iret (v := (-2000000001)) hx hb hrt (fun t ht hW => ⟨⟨_, y, rfl, ⟨by unfold vI; rw [if_neg (show ¬ (opLeft S x0).1 = 0 by omega)], by rw [hop9]; exact hY, rfl⟩, kV_eq ht (show kV G (siteW G (opLeft S x0).2.2 y ++ wr) _ by rw [hop9]; exact hV)⟩, hS.F ht⟩) hS.2.2 dL_left_9
  · obtain ⟨hp_10, hp_11, hp_12, hp_13⟩ := hp_1
    subst hp_11
    have hV : kV G (siteW G ((opLeft S x0).2.2) u_2 ++ wr) _ := hV
    exact W.iret (v := ((opLeft S x0).2.1)) hx hb hrt (fun t ht hW => ⟨⟨_, u_2, rfl, ⟨by unfold vI; rw [if_pos hp_10], hp_12, hp_13⟩, kV_eq ht hV⟩, hS.F ht⟩) hS.2.2 dL_left_5
set_option maxHeartbeats 4000000 in
set_option maxRecDepth 100000 in
theorem c_L_projects (l : Launch) (G : kG) (S : kS) (y : kY) (yh : Nat) (wr : va_W) (x0 : Int32) (x1 : Int32) (x2 : Int32) (rr : kR) (hr : opProject S x0 x1 x2 = rr) (hlt : l.stackTraces = false) (hh : yH y 0 = yh) (hI : kInv S) (hY : yI G S y) : Met l yL_projects wsL_projects ({ frames := 8, cells := 6, slots := 80, locals := 217 } : Room) (kPc G [.ref (yh), .int (x0), .int (x1), .int (x2)] (siteW G S y ++ wr)) (kQi G (S := kY) (fun z u => z = vIS rr ∧ yI G rr.2.2 u ∧ yH u 0 = yh) (fun u => siteW G rr.2.2 u ++ wr)) 6 80 (kA G) := by
  refine va_MetW (cc := cL_projects) (maxL := 5) (ret := (some .int)) (by decide) rfl ?_
  intro pp ee s m args below meth cc0 s₁ Bd0 hml hv
  obtain ⟨rfl, hE, hV⟩ := hv
  have hK := hE.1
  have hx := Bd0.exec
  have hb := Bd0.bytes
  have hrt := Bd0.returns
  have hts := atoms_spec (ws := wsL_projects) Bd0.pre
  have hown : s.vm.findClass RL = some m.cls := findClass_of_methodNamed Bd0.named
  have hlocks := Bd0.notSynchronized
  have htab := vx_table (x := yL_projects) Bd0 (hts (Cond.codeWith yL_projects cL_projects 5 (some .int) [(0, 7, 8, 13), (0, 7, 13, 19)]) (List.mem_of_getElem? (i := 0) rfl))
  have hF : CallFix pp m cc0 cL_projects 5 s _ wsL_projects RL := ⟨hx, hb, hml, hown, hts⟩
  have hS : va_S (kA G) s.heap s.heap [] := va_S.rf
  have hB0 := hE.2.1
  have hl := lv_entry ([.ref (yh), .int (x0), .int (x1), .int (x2)]) (n := 5) (Nat.le_of_ble_eq_true rfl)
  rw [lg_entry_eq]
  generalize (lg_sl ([.ref (yh), .int (x0), .int (x1), .int (x2)]) ++ List.replicate (5 - (lg_sl ([.ref (yh), .int (x0), .int (x1), .int (x2)])).length) Slot.unset).toArray = ls at hl ⊢
  have hl : lv_has ls 5 [(0, .ref (yh)), (1, .int (x0)), (2, .int (x1)), (3, .int (x2))] := hl
  subst hr
  subst hh
  refine lv_aload_n hx hb dL_projects_0 rfl (lv_at hl 0 rfl) ?_
  refine lv_iload_n hx hb dL_projects_1 rfl (lv_at hl 1 rfl) ?_
  refine lv_iload_n hx hb dL_projects_2 rfl (lv_at hl 2 rfl) ?_
  refine lv_iload_n hx hb dL_projects_3 rfl (lv_at hl 3 rfl) ?_
  refine kx_i (vx_runV (As := [.int (x0), .int (x1), .int (x2)]) (rest := []) hF (c_X5_project l hlt G S y wr x0 x1 x2 hI hY) (cwV 3 hts gL_projects_X5_project rfl rfl rfl (by decide +kernel) ⟨Nat.le_of_ble_eq_true rfl, Nat.le_of_ble_eq_true rfl⟩) (kPreV hE hS hV 0 rfl rfl) rfl rfl hl.1 rfl (lv_room (Nat.le_of_ble_eq_true rfl)) dL_projects_4 ⟨Nat.le_of_ble_eq_true rfl, Nat.le_of_ble_eq_true rfl⟩) hS (fun E ce q9 H locs hxc hV hS hq1 hq2 hq3 => ?_) (fun r_3 u_2 H locs hp_1 hV hS => ?_)
  · rcases hxc with ⟨rfl, he9⟩ | ⟨rfl, he9⟩
    · have hop9 : (opProject S x0 x1 x2).2.2 = S := by
        have he8 : (opProject S x0 x1 x2).1 ≠ 0 := by omega
        revert he8
        unfold opProject kif
        (repeat' split) <;> first | exact fun _ => rfl | exact fun z => absurd rfl z
      refine vx_catch (name := "java/lang/IndexOutOfBoundsException") hown [] ⟨0, 7, 8, 13⟩ [⟨0, 7, 13, 19⟩] htab (fun z h => (List.not_mem_nil h).elim) (by decide) (by decide) (hts (Cond.classLink RL 13 "java/lang/IndexOutOfBoundsException") (List.mem_of_getElem? (i := 1) rfl)) ((hE.2.2.1 (.castable kIOB kIOB) (by decide +kernel)).use rfl) hq1 hq2 hq3 ?_
      refine lv_astore (lv' := [(4, .ref (q9)), (0, .ref (yH y 0)), (1, .int (x0)), (2, .int (x1)), (3, .int (x2))]) hx hb dL_projects_8 hl (by decide) rfl (fun ls hl => ?_)
      refine lv_ldc (v := -2000000001) hx hb hown (hts (Cond.constant RL 15 (-2000000001)) (List.mem_of_getElem? (i := 3) rfl)) dL_projects_10 ?_
      exact W.iret (v := (-2000000001)) hx hb hrt (fun t ht hW => ⟨⟨_, y, rfl, ⟨by unfold vIS; rw [if_neg (show ¬ (opProject S x0 x1 x2).1 = 0 by omega), if_pos (show (opProject S x0 x1 x2).1 = 1 from he9)], by rw [hop9]; exact hY, rfl⟩, kV_eq ht (show kV G (siteW G (opProject S x0 x1 x2).2.2 y ++ wr) _ by rw [hop9]; exact hV)⟩, hS.F ht⟩) hS.2.2 dL_projects_12
    · have hop9 : (opProject S x0 x1 x2).2.2 = S := by
        have he8 : (opProject S x0 x1 x2).1 ≠ 0 := by omega
        revert he8
        unfold opProject kif
        (repeat' split) <;> first | exact fun _ => rfl | exact fun z => absurd rfl z
      refine vx_catch (name := "java/lang/IllegalStateException") hown [⟨0, 7, 8, 13⟩] ⟨0, 7, 13, 19⟩ [] htab (fun z h => by
          rcases List.mem_cons.mp h with h | h
          · subst h; exact Or.inr ⟨by decide, _, (hts (Cond.classLink RL 13 "java/lang/IndexOutOfBoundsException") (List.mem_of_getElem? (i := 1) rfl)), hE.2.2.2.1 (kISE, kIOB) (by decide +kernel)⟩
          · exact (List.not_mem_nil h).elim) (by decide) (by decide) (hts (Cond.classLink RL 19 "java/lang/IllegalStateException") (List.mem_of_getElem? (i := 2) rfl)) ((hE.2.2.1 (.castable kISE kISE) (by decide +kernel)).use rfl) hq1 hq2 hq3 ?_
      refine lv_astore (lv' := [(4, .ref (q9)), (0, .ref (yH y 0)), (1, .int (x0)), (2, .int (x1)), (3, .int (x2))]) hx hb dL_projects_13 hl (by decide) rfl (fun ls hl => ?_)
      refine lv_ldc (v := -2000000003) hx hb hown (hts (Cond.constant RL 21 (-2000000003)) (List.mem_of_getElem? (i := 4) rfl)) dL_projects_15 ?_
      exact W.iret (v := (-2000000003)) hx hb hrt (fun t ht hW => ⟨⟨_, y, rfl, ⟨by unfold vIS; rw [if_neg (show ¬ (opProject S x0 x1 x2).1 = 0 by omega), if_neg (show ¬ (opProject S x0 x1 x2).1 = 1 by omega)], by rw [hop9]; exact hY, rfl⟩, kV_eq ht (show kV G (siteW G (opProject S x0 x1 x2).2.2 y ++ wr) _ by rw [hop9]; exact hV)⟩, hS.F ht⟩) hS.2.2 dL_projects_17
  · obtain ⟨hp_10, hp_11, hp_12, hp_13⟩ := hp_1
    subst hp_11
    have hV : kV G (siteW G ((opProject S x0 x1 x2).2.2) u_2 ++ wr) _ := hV
    exact W.iret (v := ((opProject S x0 x1 x2).2.1)) hx hb hrt (fun t ht hW => ⟨⟨_, u_2, rfl, ⟨by unfold vIS; rw [if_pos hp_10], hp_12, hp_13⟩, kV_eq ht hV⟩, hS.F ht⟩) hS.2.2 dL_projects_7
set_option maxHeartbeats 4000000 in
set_option maxRecDepth 100000 in
theorem c_L_takes (l : Launch) (G : kG) (S : kS) (y : kY) (yh : Nat) (wr : va_W) (x0 : Int32) (x1 : Int32) (rr : kR) (hr : opTake S x0 x1 = rr) (hlt : l.stackTraces = false) (hh : yH y 0 = yh) (hI : kInv S) (hY : yI G S y) : Met l yL_takes wsL_takes ({ frames := 8, cells := 3, slots := 18, locals := 136 } : Room) (kPc G [.ref (yh), .int (x0), .int (x1)] (siteW G S y ++ wr)) (kQi G (S := kY) (fun z u => z = vIS rr ∧ yI G rr.2.2 u ∧ yH u 0 = yh) (fun u => siteW G rr.2.2 u ++ wr)) 3 18 (kA G) := by
  refine va_MetW (cc := cL_takes) (maxL := 4) (ret := (some .int)) (by decide) rfl ?_
  intro pp ee s m args below meth cc0 s₁ Bd0 hml hv
  obtain ⟨rfl, hE, hV⟩ := hv
  have hK := hE.1
  have hx := Bd0.exec
  have hb := Bd0.bytes
  have hrt := Bd0.returns
  have hts := atoms_spec (ws := wsL_takes) Bd0.pre
  have hown : s.vm.findClass RL = some m.cls := findClass_of_methodNamed Bd0.named
  have hlocks := Bd0.notSynchronized
  have htab := vx_table (x := yL_takes) Bd0 (hts (Cond.codeWith yL_takes cL_takes 4 (some .int) [(0, 6, 7, 13), (0, 6, 11, 19)]) (List.mem_of_getElem? (i := 0) rfl))
  have hF : CallFix pp m cc0 cL_takes 4 s _ wsL_takes RL := ⟨hx, hb, hml, hown, hts⟩
  have hS : va_S (kA G) s.heap s.heap [] := va_S.rf
  have hB0 := hE.2.1
  have hl := lv_entry ([.ref (yh), .int (x0), .int (x1)]) (n := 4) (Nat.le_of_ble_eq_true rfl)
  rw [lg_entry_eq]
  generalize (lg_sl ([.ref (yh), .int (x0), .int (x1)]) ++ List.replicate (4 - (lg_sl ([.ref (yh), .int (x0), .int (x1)])).length) Slot.unset).toArray = ls at hl ⊢
  have hl : lv_has ls 4 [(0, .ref (yh)), (1, .int (x0)), (2, .int (x1))] := hl
  subst hr
  subst hh
  refine lv_aload_n hx hb dL_takes_0 rfl (lv_at hl 0 rfl) ?_
  refine lv_iload_n hx hb dL_takes_1 rfl (lv_at hl 1 rfl) ?_
  refine lv_iload_n hx hb dL_takes_2 rfl (lv_at hl 2 rfl) ?_
  refine kx_i (vx_runV (As := [.int (x0), .int (x1)]) (rest := []) hF (c_X5_take l hlt G S y wr x0 x1 hI hY) (cwV 2 hts gL_takes_X5_take rfl rfl rfl (by decide +kernel) ⟨Nat.le_of_ble_eq_true rfl, Nat.le_of_ble_eq_true rfl⟩) (kPreV hE hS hV 0 rfl rfl) rfl rfl hl.1 rfl (lv_room (Nat.le_of_ble_eq_true rfl)) dL_takes_3 ⟨Nat.le_of_ble_eq_true rfl, Nat.le_of_ble_eq_true rfl⟩) hS (fun E ce q9 H locs hxc hV hS hq1 hq2 hq3 => ?_) (fun r_3 u_2 H locs hp_1 hV hS => ?_)
  · rcases hxc with ⟨rfl, he9⟩ | ⟨rfl, he9⟩
    · have hop9 : (opTake S x0 x1).2.2 = S := by
        have he8 : (opTake S x0 x1).1 ≠ 0 := by omega
        revert he8
        unfold opTake kif
        (repeat' split) <;> first | exact fun _ => rfl | exact fun z => absurd rfl z
      refine vx_catch (name := "java/lang/IndexOutOfBoundsException") hown [] ⟨0, 6, 7, 13⟩ [⟨0, 6, 11, 19⟩] htab (fun z h => (List.not_mem_nil h).elim) (by decide) (by decide) (hts (Cond.classLink RL 13 "java/lang/IndexOutOfBoundsException") (List.mem_of_getElem? (i := 1) rfl)) ((hE.2.2.1 (.castable kIOB kIOB) (by decide +kernel)).use rfl) hq1 hq2 hq3 ?_
      refine lv_astore_n (lv' := [(3, .ref (q9)), (0, .ref (yH y 0)), (1, .int (x0)), (2, .int (x1))]) hx hb dL_takes_7 rfl hl (by decide) rfl (fun ls hl => ?_)
      refine lv_ldc (v := -2000000001) hx hb hown (hts (Cond.constant RL 15 (-2000000001)) (List.mem_of_getElem? (i := 3) rfl)) dL_takes_8 ?_
      exact W.iret (v := (-2000000001)) hx hb hrt (fun t ht hW => ⟨⟨_, y, rfl, ⟨by unfold vIS; rw [if_neg (show ¬ (opTake S x0 x1).1 = 0 by omega), if_pos (show (opTake S x0 x1).1 = 1 from he9)], by rw [hop9]; exact hY, rfl⟩, kV_eq ht (show kV G (siteW G (opTake S x0 x1).2.2 y ++ wr) _ by rw [hop9]; exact hV)⟩, hS.F ht⟩) hS.2.2 dL_takes_10
    · have hop9 : (opTake S x0 x1).2.2 = S := by
        have he8 : (opTake S x0 x1).1 ≠ 0 := by omega
        revert he8
        unfold opTake kif
        (repeat' split) <;> first | exact fun _ => rfl | exact fun z => absurd rfl z
      refine vx_catch (name := "java/lang/IllegalStateException") hown [⟨0, 6, 7, 13⟩] ⟨0, 6, 11, 19⟩ [] htab (fun z h => by
          rcases List.mem_cons.mp h with h | h
          · subst h; exact Or.inr ⟨by decide, _, (hts (Cond.classLink RL 13 "java/lang/IndexOutOfBoundsException") (List.mem_of_getElem? (i := 1) rfl)), hE.2.2.2.1 (kISE, kIOB) (by decide +kernel)⟩
          · exact (List.not_mem_nil h).elim) (by decide) (by decide) (hts (Cond.classLink RL 19 "java/lang/IllegalStateException") (List.mem_of_getElem? (i := 2) rfl)) ((hE.2.2.1 (.castable kISE kISE) (by decide +kernel)).use rfl) hq1 hq2 hq3 ?_
      refine lv_astore_n (lv' := [(3, .ref (q9)), (0, .ref (yH y 0)), (1, .int (x0)), (2, .int (x1))]) hx hb dL_takes_11 rfl hl (by decide) rfl (fun ls hl => ?_)
      refine lv_ldc (v := -2000000003) hx hb hown (hts (Cond.constant RL 21 (-2000000003)) (List.mem_of_getElem? (i := 4) rfl)) dL_takes_12 ?_
      exact W.iret (v := (-2000000003)) hx hb hrt (fun t ht hW => ⟨⟨_, y, rfl, ⟨by unfold vIS; rw [if_neg (show ¬ (opTake S x0 x1).1 = 0 by omega), if_neg (show ¬ (opTake S x0 x1).1 = 1 by omega)], by rw [hop9]; exact hY, rfl⟩, kV_eq ht (show kV G (siteW G (opTake S x0 x1).2.2 y ++ wr) _ by rw [hop9]; exact hV)⟩, hS.F ht⟩) hS.2.2 dL_takes_14
  · obtain ⟨hp_10, hp_11, hp_12, hp_13⟩ := hp_1
    subst hp_11
    have hV : kV G (siteW G ((opTake S x0 x1).2.2) u_2 ++ wr) _ := hV
    exact W.iret (v := ((opTake S x0 x1).2.1)) hx hb hrt (fun t ht hW => ⟨⟨_, u_2, rfl, ⟨by unfold vIS; rw [if_pos hp_10], hp_12, hp_13⟩, kV_eq ht hV⟩, hS.F ht⟩) hS.2.2 dL_takes_6
set_option maxHeartbeats 4000000 in
set_option maxRecDepth 100000 in
theorem c_L_knits (l : Launch) (G : kG) (S : kS) (y : kY) (yh : Nat) (wr : va_W) (x0 : Int32) (x1 : Int32) (rr : kR) (hr : opKnit S x0 x1 = rr) (hlt : l.stackTraces = false) (hh : yH y 0 = yh) (hI : kInv S) (hY : yI G S y) : Met l yL_knits wsL_knits ({ frames := 8, cells := 2, slots := 12, locals := 135 } : Room) (kPc G [.ref (yh), .int (x0), .int (x1)] (siteW G S y ++ wr)) (kQi G (S := kY) (fun z u => z = vIA rr ∧ yI G rr.2.2 u ∧ yH u 0 = yh) (fun u => siteW G rr.2.2 u ++ wr)) 2 12 (kA G) := by
  refine va_MetW (cc := cL_knits) (maxL := 4) (ret := (some .int)) (by decide) rfl ?_
  intro pp ee s m args below meth cc0 s₁ Bd0 hml hv
  obtain ⟨rfl, hE, hV⟩ := hv
  have hK := hE.1
  have hx := Bd0.exec
  have hb := Bd0.bytes
  have hrt := Bd0.returns
  have hts := atoms_spec (ws := wsL_knits) Bd0.pre
  have hown : s.vm.findClass RL = some m.cls := findClass_of_methodNamed Bd0.named
  have hlocks := Bd0.notSynchronized
  have htab := vx_table (x := yL_knits) Bd0 (hts (Cond.codeWith yL_knits cL_knits 4 (some .int) [(0, 6, 7, 13), (0, 6, 11, 16)]) (List.mem_of_getElem? (i := 0) rfl))
  have hF : CallFix pp m cc0 cL_knits 4 s _ wsL_knits RL := ⟨hx, hb, hml, hown, hts⟩
  have hS : va_S (kA G) s.heap s.heap [] := va_S.rf
  have hB0 := hE.2.1
  have hl := lv_entry ([.ref (yh), .int (x0), .int (x1)]) (n := 4) (Nat.le_of_ble_eq_true rfl)
  rw [lg_entry_eq]
  generalize (lg_sl ([.ref (yh), .int (x0), .int (x1)]) ++ List.replicate (4 - (lg_sl ([.ref (yh), .int (x0), .int (x1)])).length) Slot.unset).toArray = ls at hl ⊢
  have hl : lv_has ls 4 [(0, .ref (yh)), (1, .int (x0)), (2, .int (x1))] := hl
  subst hr
  subst hh
  refine lv_aload_n hx hb dL_knits_0 rfl (lv_at hl 0 rfl) ?_
  refine lv_iload_n hx hb dL_knits_1 rfl (lv_at hl 1 rfl) ?_
  refine lv_iload_n hx hb dL_knits_2 rfl (lv_at hl 2 rfl) ?_
  refine kx_i (vx_runV (As := [.int (x0), .int (x1)]) (rest := []) hF (c_X5_knit l hlt G S y wr x0 x1 hI hY) (cwV 2 hts gL_knits_X5_knit rfl rfl rfl (by decide +kernel) ⟨Nat.le_of_ble_eq_true rfl, Nat.le_of_ble_eq_true rfl⟩) (kPreV hE hS hV 0 rfl rfl) rfl rfl hl.1 rfl (lv_room (Nat.le_of_ble_eq_true rfl)) dL_knits_3 ⟨Nat.le_of_ble_eq_true rfl, Nat.le_of_ble_eq_true rfl⟩) hS (fun E ce q9 H locs hxc hV hS hq1 hq2 hq3 => ?_) (fun r_3 u_2 H locs hp_1 hV hS => ?_)
  · rcases hxc with ⟨rfl, he9⟩ | ⟨rfl, he9⟩
    · have hop9 : (opKnit S x0 x1).2.2 = S := by
        have he8 : (opKnit S x0 x1).1 ≠ 0 := by omega
        revert he8
        unfold opKnit kif
        (repeat' split) <;> first | exact fun _ => rfl | exact fun z => absurd rfl z
      refine vx_catch (name := "java/lang/IndexOutOfBoundsException") hown [] ⟨0, 6, 7, 13⟩ [⟨0, 6, 11, 16⟩] htab (fun z h => (List.not_mem_nil h).elim) (by decide) (by decide) (hts (Cond.classLink RL 13 "java/lang/IndexOutOfBoundsException") (List.mem_of_getElem? (i := 1) rfl)) ((hE.2.2.1 (.castable kIOB kIOB) (by decide +kernel)).use rfl) hq1 hq2 hq3 ?_
      refine lv_astore_n (lv' := [(3, .ref (q9)), (0, .ref (yH y 0)), (1, .int (x0)), (2, .int (x1))]) hx hb dL_knits_7 rfl hl (by decide) rfl (fun ls hl => ?_)
      refine lv_ldc (v := -2000000001) hx hb hown (hts (Cond.constant RL 15 (-2000000001)) (List.mem_of_getElem? (i := 3) rfl)) dL_knits_8 ?_
      exact W.iret (v := (-2000000001)) hx hb hrt (fun t ht hW => ⟨⟨_, y, rfl, ⟨by unfold vIA; rw [if_neg (show ¬ (opKnit S x0 x1).1 = 0 by omega), if_pos (show (opKnit S x0 x1).1 = 1 from he9)], by rw [hop9]; exact hY, rfl⟩, kV_eq ht (show kV G (siteW G (opKnit S x0 x1).2.2 y ++ wr) _ by rw [hop9]; exact hV)⟩, hS.F ht⟩) hS.2.2 dL_knits_10
    · have hop9 : (opKnit S x0 x1).2.2 = S := by
        have he8 : (opKnit S x0 x1).1 ≠ 0 := by omega
        revert he8
        unfold opKnit kif
        (repeat' split) <;> first | exact fun _ => rfl | exact fun z => absurd rfl z
      refine vx_catch (name := "java/lang/IllegalArgumentException") hown [⟨0, 6, 7, 13⟩] ⟨0, 6, 11, 16⟩ [] htab (fun z h => by
          rcases List.mem_cons.mp h with h | h
          · subst h; exact Or.inr ⟨by decide, _, (hts (Cond.classLink RL 13 "java/lang/IndexOutOfBoundsException") (List.mem_of_getElem? (i := 1) rfl)), hE.2.2.2.1 (kIAE, kIOB) (by decide +kernel)⟩
          · exact (List.not_mem_nil h).elim) (by decide) (by decide) (hts (Cond.classLink RL 16 "java/lang/IllegalArgumentException") (List.mem_of_getElem? (i := 2) rfl)) ((hE.2.2.1 (.castable kIAE kIAE) (by decide +kernel)).use rfl) hq1 hq2 hq3 ?_
      refine lv_astore_n (lv' := [(3, .ref (q9)), (0, .ref (yH y 0)), (1, .int (x0)), (2, .int (x1))]) hx hb dL_knits_11 rfl hl (by decide) rfl (fun ls hl => ?_)
      refine lv_ldc (v := -2000000002) hx hb hown (hts (Cond.constant RL 18 (-2000000002)) (List.mem_of_getElem? (i := 4) rfl)) dL_knits_12 ?_
      exact W.iret (v := (-2000000002)) hx hb hrt (fun t ht hW => ⟨⟨_, y, rfl, ⟨by unfold vIA; rw [if_neg (show ¬ (opKnit S x0 x1).1 = 0 by omega), if_neg (show ¬ (opKnit S x0 x1).1 = 1 by omega)], by rw [hop9]; exact hY, rfl⟩, kV_eq ht (show kV G (siteW G (opKnit S x0 x1).2.2 y ++ wr) _ by rw [hop9]; exact hV)⟩, hS.F ht⟩) hS.2.2 dL_knits_14
  · obtain ⟨hp_10, hp_11, hp_12, hp_13⟩ := hp_1
    subst hp_11
    have hV : kV G (siteW G ((opKnit S x0 x1).2.2) u_2 ++ wr) _ := hV
    exact W.iret (v := ((opKnit S x0 x1).2.1)) hx hb hrt (fun t ht hW => ⟨⟨_, u_2, rfl, ⟨by unfold vIA; rw [if_pos hp_10], hp_12, hp_13⟩, kV_eq ht hV⟩, hS.F ht⟩) hS.2.2 dL_knits_6
set_option maxHeartbeats 4000000 in
set_option maxRecDepth 100000 in
theorem c_L_progress (l : Launch) (G : kG) (S : kS) (y : kY) (yh : Nat) (wr : va_W) (x0 : Int32) (rr : kR) (hr : opProgress S x0 = rr) (hlt : l.stackTraces = false) (hh : yH y 0 = yh) (hI : kInv S) (hY : yI G S y) : Met l yL_progress wsL_progress ({ frames := 8, cells := 1, slots := 6, locals := 132 } : Room) (kPc G [.ref (yh), .int (x0)] (siteW G S y ++ wr)) (kQi G (S := kY) (fun z u => z = vI rr ∧ yI G rr.2.2 u ∧ yH u 0 = yh) (fun u => siteW G rr.2.2 u ++ wr)) 1 6 (kA G) := by
  refine va_MetW (cc := cL_progress) (maxL := 3) (ret := (some .int)) (by decide) rfl ?_
  intro pp ee s m args below meth cc0 s₁ Bd0 hml hv
  obtain ⟨rfl, hE, hV⟩ := hv
  have hK := hE.1
  have hx := Bd0.exec
  have hb := Bd0.bytes
  have hrt := Bd0.returns
  have hts := atoms_spec (ws := wsL_progress) Bd0.pre
  have hown : s.vm.findClass RL = some m.cls := findClass_of_methodNamed Bd0.named
  have hlocks := Bd0.notSynchronized
  have htab := vx_table (x := yL_progress) Bd0 (hts (Cond.codeWith yL_progress cL_progress 3 (some .int) [(0, 5, 6, 13)]) (List.mem_of_getElem? (i := 0) rfl))
  have hF : CallFix pp m cc0 cL_progress 3 s _ wsL_progress RL := ⟨hx, hb, hml, hown, hts⟩
  have hS : va_S (kA G) s.heap s.heap [] := va_S.rf
  have hB0 := hE.2.1
  have hl := lv_entry ([.ref (yh), .int (x0)]) (n := 3) (Nat.le_of_ble_eq_true rfl)
  rw [lg_entry_eq]
  generalize (lg_sl ([.ref (yh), .int (x0)]) ++ List.replicate (3 - (lg_sl ([.ref (yh), .int (x0)])).length) Slot.unset).toArray = ls at hl ⊢
  have hl : lv_has ls 3 [(0, .ref (yh)), (1, .int (x0))] := hl
  subst hr
  subst hh
  refine lv_aload_n hx hb dL_progress_0 rfl (lv_at hl 0 rfl) ?_
  refine lv_iload_n hx hb dL_progress_1 rfl (lv_at hl 1 rfl) ?_
  refine kx_i (vx_runV (As := [.int (x0)]) (rest := []) hF (c_X5_progress l hlt G S y wr x0 hI hY) (cwV 1 hts gL_progress_X5_progress rfl rfl rfl (by decide +kernel) ⟨Nat.le_of_ble_eq_true rfl, Nat.le_of_ble_eq_true rfl⟩) (kPreV hE hS hV 0 rfl rfl) rfl rfl hl.1 rfl (lv_room (Nat.le_of_ble_eq_true rfl)) dL_progress_2 ⟨Nat.le_of_ble_eq_true rfl, Nat.le_of_ble_eq_true rfl⟩) hS (fun E ce q9 H locs hxc hV hS hq1 hq2 hq3 => ?_) (fun r_3 u_2 H locs hp_1 hV hS => ?_)
  · obtain ⟨rfl, he9⟩ := hxc
    have hop9 : (opProgress S x0).2.2 = S := by
      have he8 : (opProgress S x0).1 ≠ 0 := by omega
      revert he8
      unfold opProgress kif
      (repeat' split) <;> first | exact fun _ => rfl | exact fun z => absurd rfl z
    refine vx_catch (name := "java/lang/IndexOutOfBoundsException") hown [] ⟨0, 5, 6, 13⟩ [] htab (fun z h => (List.not_mem_nil h).elim) (by decide) (by decide) (hts (Cond.classLink RL 13 "java/lang/IndexOutOfBoundsException") (List.mem_of_getElem? (i := 1) rfl)) ((hE.2.2.1 (.castable kIOB kIOB) (by decide +kernel)).use rfl) hq1 hq2 hq3 ?_
    refine lv_astore_n (lv' := [(2, .ref (q9)), (0, .ref (yH y 0)), (1, .int (x0))]) hx hb dL_progress_6 rfl hl (by decide) rfl (fun ls hl => ?_)
    refine lv_ldc (v := -2000000001) hx hb hown (hts (Cond.constant RL 15 (-2000000001)) (List.mem_of_getElem? (i := 2) rfl)) dL_progress_7 ?_
    exact W.iret (v := (-2000000001)) hx hb hrt (fun t ht hW => ⟨⟨_, y, rfl, ⟨by unfold vI; rw [if_neg (show ¬ (opProgress S x0).1 = 0 by omega)], by rw [hop9]; exact hY, rfl⟩, kV_eq ht (show kV G (siteW G (opProgress S x0).2.2 y ++ wr) _ by rw [hop9]; exact hV)⟩, hS.F ht⟩) hS.2.2 dL_progress_9
  · obtain ⟨hp_10, hp_11, hp_12, hp_13⟩ := hp_1
    subst hp_11
    have hV : kV G (siteW G ((opProgress S x0).2.2) u_2 ++ wr) _ := hV
    exact W.iret (v := ((opProgress S x0).2.1)) hx hb hrt (fun t ht hW => ⟨⟨_, u_2, rfl, ⟨by unfold vI; rw [if_pos hp_10], hp_12, hp_13⟩, kV_eq ht hV⟩, hS.F ht⟩) hS.2.2 dL_progress_5
