theorem knitN_s (S : kS) (j n : Nat) : knitN S j (n + 1) = kif (knitCan S j) ((knitN (knit1 S j) j n).1 + 1, (knitN (knit1 S j) j n).2) (0, S) := rfl
theorem ynV_le (k u w : Nat) : ynV k u w ≤ w * 3 := sumN_bd (fun c _ => by split <;> omega)
theorem pYn_le {S : kS} {p r : Nat} (h : okP S p) (_ : r < pRows S p) : pYn S p r ≤ 120 := by
  have a := ynV_le (S.1 6 (pL S p r)) (S.1 7 (pL S p r)) (pW S p r)
  have b := (pW_in h r).2
  unfold pYn
  omega
set_option maxHeartbeats 4000000 in
set_option maxRecDepth 100000 in
theorem c_X6_project (l : Launch) (G : kG) (h : Nat) (ad : Nat → Nat) (rf : Nat) (rl : Nat) (rw : Nat) (S : kS) (wr : va_W) (x : Int32) (p : Int32) (a : Int32) (hI : kInv S) : Met l yX6_project wsX6_project ({ frames := 2, cells := 0, slots := 0, locals := 43 } : Room) (kPc G [.ref (h), .int (x), .int (p), .int (a)] (kM G h ad rf rl rw S ++ wr)) (kQi G (S := Nat × Nat) (fun q _ => q = (opProject S x p a).2.1) (fun uu => kM G h ad ((opProject S x p a).1) uu.1 uu.2 ((opProject S x p a).2.2) ++ wr)) 0 0 (kA G) := by
  refine Met.ofW (cc := cX6_project) (maxL := 6) (ret := (some .int)) (by decide) rfl ?_
  intro pp ee s m args below meth cc0 s₁ B hml hv
  obtain ⟨rfl, hE, hV⟩ := hv
  have hK := hE.1
  have hx := B.exec
  have hb := B.bytes
  have hrt := B.returns
  have hts := atoms_spec (ws := wsX6_project) B.pre
  have hown : s.vm.findClass RX6 = some m.cls := findClass_of_methodNamed B.named
  have hlocks := B.notSynchronized
  have hF : CallFix pp m cc0 cX6_project 6 s _ wsX6_project RX6 := ⟨hx, hb, hml, hown, hts⟩
  have hinX6 : ∀ w ∈ wsX60, w ∈ wsX6_project := tb_of [39, 40, 41, 42, 43, 44, 45, 46, 47, 48, 49, 50, 51, 52, 53, 54, 55, 56, 57, 58, 59, 60, 61, 62, 63, 64] rfl
  have hS : va_S (kA G) s.heap s.heap [] := va_S.rf
  have hB0 := hE.2.1
  have hl := lv_entry ([.ref (h), .int (x), .int (p), .int (a)]) (n := 6) (Nat.le_of_ble_eq_true rfl)
  rw [lg_entry_eq]
  generalize (lg_sl ([.ref (h), .int (x), .int (p), .int (a)]) ++ List.replicate (6 - (lg_sl ([.ref (h), .int (x), .int (p), .int (a)])).length) Slot.unset).toArray = ls at hl ⊢
  have hl : lv_has ls 6 [(0, .ref (h)), (1, .int (x)), (2, .int (p)), (3, .int (a))] := hl
  obtain ⟨⟨hnp, hnl, hnj, hpu⟩, hIP, hIQ, hIL, hIJ, hIK, hIO⟩ := id hI
  have J28 : ∀ (H : Heap) (locs : List Loc), kV G (kM G h ad rf rl rw S ++ wr) H → va_S (kA G) s.heap H locs → ∀ (ls : Array Slot), lv_has ls 6 [(0, .ref (h)), (1, .int (x)), (2, .int (p)), (3, .int (a))] → W pp l ee (headSpec wsX6_project ({ frames := 2, cells := 0, slots := 0, locals := 43 } : Room)).room s m [.ref (h), .int (x), .int (p), .int (a)].toArray below meth cc0 H locs 0 0 (MQ below (kQi G (S := Nat × Nat) (fun q _ => q = (opProject S x p a).2.1) (fun uu => kM G h ad ((opProject S x p a).1) uu.1 uu.2 ((opProject S x p a).2.2) ++ wr)) [.ref (h), .int (x), .int (p), .int (a)].toArray s 0 0 (kA G)) (F0 m 28 ls [.int (nI (kb (isIn x 5 ∧ isIn p (S.1 1 0) ∧ isIn a (S.1 15 0))))]) := by
    intro  H locs hV hS ls hl
    refine lv_istore (lv' := [(4, .int (nI (kb (isIn x 5 ∧ isIn p (S.1 1 0) ∧ isIn a (S.1 15 0))))), (0, .ref (h)), (1, .int (x)), (2, .int (p)), (3, .int (a))]) hx hb dX6_project_28 hl (by decide) rfl (fun ls hl => ?_)
    have J86 : ∀ (H : Heap) (locs : List Loc), kV G (kM G h ad rf rl rw S ++ wr) H → va_S (kA G) s.heap H locs → ∀ (ls : Array Slot), lv_has ls 6 [(4, .int (nI (kb (isIn x 5 ∧ isIn p (S.1 1 0) ∧ isIn a (S.1 15 0))))), (0, .ref (h)), (1, .int (x)), (2, .int (p)), (3, .int (a))] → W pp l ee (headSpec wsX6_project ({ frames := 2, cells := 0, slots := 0, locals := 43 } : Room)).room s m [.ref (h), .int (x), .int (p), .int (a)].toArray below meth cc0 H locs 0 0 (MQ below (kQi G (S := Nat × Nat) (fun q _ => q = (opProject S x p a).2.1) (fun uu => kM G h ad ((opProject S x p a).1) uu.1 uu.2 ((opProject S x p a).2.2) ++ wr)) [.ref (h), .int (x), .int (p), .int (a)].toArray s 0 0 (kA G)) (F0 m 86 ls [.int (nI (kb ((isIn x 5 ∧ isIn p (S.1 1 0) ∧ isIn a (S.1 15 0)) ∧ projCan S (tn x) (tn p) (tn a))))]) := by
      intro  H locs hV hS ls hl
      refine lv_istore (lv' := [(5, .int (nI (kb ((isIn x 5 ∧ isIn p (S.1 1 0) ∧ isIn a (S.1 15 0)) ∧ projCan S (tn x) (tn p) (tn a))))), (4, .int (nI (kb (isIn x 5 ∧ isIn p (S.1 1 0) ∧ isIn a (S.1 15 0))))), (0, .ref (h)), (1, .int (x)), (2, .int (p)), (3, .int (a))]) hx hb dX6_project_86 hl (by decide) rfl (fun ls hl => ?_)
      refine lv_aload_n hx hb dX6_project_88 rfl (lv_at hl 2 rfl) ?_
      refine lv_iload hx hb dX6_project_89 (lv_at hl 1 rfl) ?_
      refine kb_if_ne (tgt := 98) hx hb dX6_project_91 (by decide) (fun c91 => ?_) (fun c91 => ?_)
      · refine lv_iload hx hb dX6_project_98 (lv_at hl 0 rfl) ?_
        refine kb_if_eq (tgt := 107) hx hb dX6_project_100 (by decide) (fun c100 => ?_) (fun c100 => ?_)
        · refine lv_iconst (v := nI 2) hx hb dX6_project_107 (by decide) ?_
          refine kc_i (va_runV (As := [.int (nI (2))]) (rest := []) hF (c_X6_refused l G h ad rf rl rw S wr 2 (by omega)) (cwV 1 hts gX6_project_X6_refused rfl rfl rfl (by decide +kernel) ⟨Nat.le_of_ble_eq_true rfl, Nat.le_of_ble_eq_true rfl⟩) (kPreV hE hS hV 0 rfl rfl) rfl rfl hl.1 rfl (lv_room (Nat.le_of_ble_eq_true rfl)) dX6_project_108 ⟨Nat.le_of_ble_eq_true rfl, Nat.le_of_ble_eq_true rfl⟩) hS (fun r_3 u_2 H locs hp_1 hV hS => ?_)
          subst hp_1
          refine W.eq (g2 := F0 m 111 ls [.int (nI (1))]) (by rw [kb_t (by decide)]) ?_
          have hV : kV G (kM G h ad 2 rl rw S ++ wr) H := hV
          refine kn_if_eq_not hx hb (by decide) dX6_project_111 ?_ 116 (by decide)
          refine lv_iconst (v := nI 0) hx hb dX6_project_114 (by decide) ?_
          have hop : opProject S x p a = (2, nI 0, S) := by
            unfold opProject
            rw [kif_f (fun z => z c91), kif_t (fun z => c100 ⟨c91, z⟩)] <;> rfl
          exact W.iret (v := nI 0) hx hb hrt (fun t ht hW => ⟨⟨_, (rl, rw), rfl, by rw [hop], kV_eq ht (by rw [hop]; exact hV)⟩, hS.F ht⟩) hS.2.2 dX6_project_115
        · refine lv_iconst (v := nI 0) hx hb dX6_project_103 (by decide) ?_
          refine lv_goto (tgt := 108) hx hb dX6_project_104 (by decide) ?_
          refine kc_i (va_runV (As := [.int (nI (0))]) (rest := []) hF (c_X6_refused l G h ad rf rl rw S wr 0 (by omega)) (cwV 1 hts gX6_project_X6_refused rfl rfl rfl (by decide +kernel) ⟨Nat.le_of_ble_eq_true rfl, Nat.le_of_ble_eq_true rfl⟩) (kPreV hE hS hV 0 rfl rfl) rfl rfl hl.1 rfl (lv_room (Nat.le_of_ble_eq_true rfl)) dX6_project_108 ⟨Nat.le_of_ble_eq_true rfl, Nat.le_of_ble_eq_true rfl⟩) hS (fun r_6 u_5 H locs hp_4 hV hS => ?_)
          subst hp_4
          refine W.eq (g2 := F0 m 111 ls [.int (nI (0))]) (by rw [kb_f (by decide)]) ?_
          have hV : kV G (kM G h ad 0 rl rw S ++ wr) H := hV
          refine kn_if_eq_lit (tgt := 116) hx hb (by decide) dX6_project_111 (by decide) ?_
          have hcan := c100.2
          obtain ⟨jx, hjx, rfl⟩ := id c91.1
          obtain ⟨j, hj, rfl⟩ := id c91.2.1
          obtain ⟨ja, hja, rfl⟩ := id c91.2.2
          obtain ⟨hokj, howj, hprj, hodj, hlij, hbyj, hbaj⟩ := hIP j hj
          have ho := kInv_od hI hj
          have tj : tn (nI j) = j := tn_nI (by omega)
          have hA := hIL ja hja
          have tx : tn (nI jx) = jx := tn_nI (by omega)
          have ta : tn (nI ja) = ja := tn_nI (by omega)
          rw [tx, tj, ta] at hcan
          have hc12 := hcan.2.2.2
          refine lv_aload_n hx hb dX6_project_116 rfl (lv_at hl 2 rfl) ?_
          refine va_get (D := kD G) (ci := 7) (v := .ref (ad 20)) (C := RX6) (T := TX6) (N := 26) hx hb hts hinX6 hown hK hV.1 0 rfl rfl 20 (by decide) (hts (Cond.fieldLink RX6 56 "YarncourtModel" "knitters" "[I") (List.mem_of_getElem? (i := 4) rfl)) (fun _ h9 => h9) rfl dX6_project_117 ?_
          refine lv_aload_n hx hb dX6_project_120 rfl (lv_at hl 2 rfl) ?_
          refine va_get (D := kD G) (ci := 7) (v := .int (nI (S.1 19 0))) (C := RX6) (T := TX6) (N := 26) hx hb hts hinX6 hown hK hV.1 0 rfl rfl 19 (by decide) (hts (Cond.fieldLink RX6 82 "YarncourtModel" "projects" "I") (List.mem_of_getElem? (i := 3) rfl)) (fun _ h9 => h9) rfl dX6_project_121 ?_
          refine lv_iload_n hx hb dX6_project_124 rfl (lv_at hl 3 rfl) ?_
          refine kn_iast (G := G) (n := 12) (g := S.1 20) (j := S.1 19 0) (v := jx) hx hb hK hV hS 16 rfl (by omega) (by decide) dX6_project_125 (fun H locs hV hS => ?_)
          have hV : kV G (kM G h ad 0 rl rw (st S 20 (S.1 19 0) jx) ++ wr) H := hV
          refine lv_aload_n hx hb dX6_project_126 rfl (lv_at hl 2 rfl) ?_
          refine va_get (D := kD G) (ci := 7) (v := .ref (ad 21)) (C := RX6) (T := TX6) (N := 26) hx hb hts hinX6 hown hK hV.1 0 rfl rfl 21 (by decide) (hts (Cond.fieldLink RX6 59 "YarncourtModel" "projectPatterns" "[I") (List.mem_of_getElem? (i := 5) rfl)) (fun _ h9 => h9) rfl dX6_project_127 ?_
          refine lv_aload_n hx hb dX6_project_130 rfl (lv_at hl 2 rfl) ?_
          refine va_get (D := kD G) (ci := 7) (v := .int (nI (S.1 19 0))) (C := RX6) (T := TX6) (N := 26) hx hb hts hinX6 hown hK hV.1 0 rfl rfl 19 (by decide) (hts (Cond.fieldLink RX6 82 "YarncourtModel" "projects" "I") (List.mem_of_getElem? (i := 3) rfl)) (fun _ h9 => h9) rfl dX6_project_131 ?_
          refine lv_iload_n hx hb dX6_project_134 rfl (lv_at hl 4 rfl) ?_
          refine kn_iast (G := G) (n := 12) (g := (st S 20 (S.1 19 0) jx).1 21) (j := S.1 19 0) (v := j) hx hb hK hV hS 17 rfl (by omega) (by decide) dX6_project_135 (fun H locs hV hS => ?_)
          have hV : kV G (kM G h ad 0 rl rw (st (st S 20 (S.1 19 0) jx) 21 (S.1 19 0) j) ++ wr) H := hV
          refine lv_aload_n hx hb dX6_project_136 rfl (lv_at hl 2 rfl) ?_
          refine va_get (D := kD G) (ci := 7) (v := .ref (ad 22)) (C := RX6) (T := TX6) (N := 26) hx hb hts hinX6 hown hK hV.1 0 rfl rfl 22 (by decide) (hts (Cond.fieldLink RX6 62 "YarncourtModel" "projectLots" "[I") (List.mem_of_getElem? (i := 6) rfl)) (fun _ h9 => h9) rfl dX6_project_137 ?_
          refine lv_aload_n hx hb dX6_project_140 rfl (lv_at hl 2 rfl) ?_
          refine va_get (D := kD G) (ci := 7) (v := .int (nI (S.1 19 0))) (C := RX6) (T := TX6) (N := 26) hx hb hts hinX6 hown hK hV.1 0 rfl rfl 19 (by decide) (hts (Cond.fieldLink RX6 82 "YarncourtModel" "projects" "I") (List.mem_of_getElem? (i := 3) rfl)) (fun _ h9 => h9) rfl dX6_project_141 ?_
          refine lv_iload_n hx hb dX6_project_144 rfl (lv_at hl 5 rfl) ?_
          refine kn_iast (G := G) (n := 12) (g := (st (st S 20 (S.1 19 0) jx) 21 (S.1 19 0) j).1 22) (j := S.1 19 0) (v := ja) hx hb hK hV hS 18 rfl (by omega) (by decide) dX6_project_145 (fun H locs hV hS => ?_)
          have hV : kV G (kM G h ad 0 rl rw (st (st (st S 20 (S.1 19 0) jx) 21 (S.1 19 0) j) 22 (S.1 19 0) ja) ++ wr) H := hV
          refine lv_aload_n hx hb dX6_project_146 rfl (lv_at hl 2 rfl) ?_
          refine lv_dup hx hb dX6_project_147 rfl ?_
          refine va_get (D := kD G) (ci := 7) (v := .int (nI (S.1 19 0))) (C := RX6) (T := TX6) (N := 26) hx hb hts hinX6 hown hK hV.1 0 rfl rfl 19 (by decide) (hts (Cond.fieldLink RX6 82 "YarncourtModel" "projects" "I") (List.mem_of_getElem? (i := 3) rfl)) (fun _ h9 => h9) rfl dX6_project_148 ?_
          refine lv_iconst (v := nI 1) hx hb dX6_project_151 (by decide) ?_
          refine kn_add hx hb dX6_project_152 ?_
          refine va_put (D := kD G) (ci := 7) (v := .int (nI ((S.1 19 0) + 1))) (ty := .int) (C := RX6) (T := TX6) (N := 26) hx hb hts hinX6 tyX6 tyX6_ok nmX6 hown hK hV.1 hV.2 hS 0 rfl rfl 19 (by decide) (hts (Cond.fieldLink RX6 82 "YarncourtModel" "projects" "I") (List.mem_of_getElem? (i := 3) rfl)) (fun _ h9 => h9) rfl (by decide +kernel) rfl rfl (Nat.le_of_ble_eq_true rfl) dX6_project_153 (fun H locs hP hD hS => ?_)
          have hV : kV G (kM G h ad 0 rl rw (st (st (st (st S 20 (S.1 19 0) jx) 21 (S.1 19 0) j) 22 (S.1 19 0) ja) 19 0 ((S.1 19 0) + 1)) ++ wr) H := ⟨hP, hD⟩
          refine lv_aload_n hx hb dX6_project_156 rfl (lv_at hl 2 rfl) ?_
          refine va_get (D := kD G) (ci := 7) (v := .int (nI ((S.1 19 0) + 1))) (C := RX6) (T := TX6) (N := 26) hx hb hts hinX6 hown hK hV.1 0 rfl rfl 19 (by decide) (hts (Cond.fieldLink RX6 82 "YarncourtModel" "projects" "I") (List.mem_of_getElem? (i := 3) rfl)) (fun _ h9 => h9) rfl dX6_project_157 ?_
          refine lv_iconst (v := nI 1) hx hb dX6_project_160 (by decide) ?_
          refine kn_sub hx hb (by omega) dX6_project_161 ?_
          have hop : opProject S (nI jx) (nI j) (nI ja) = (0, nI (((S.1 19 0) + 1) - 1), st (st (st (st S 20 (S.1 19 0) jx) 21 (S.1 19 0) j) 22 (S.1 19 0) ja) 19 0 ((S.1 19 0) + 1)) := by
            unfold opProject
            rw [kif_f (fun z => z c91), kif_f (fun z => z c100.2), tx, tj, ta, Nat.add_sub_cancel] <;> rfl
          exact W.iret (v := nI (((S.1 19 0) + 1) - 1)) hx hb hrt (fun t ht hW => ⟨⟨_, (rl, rw), rfl, by rw [hop], kV_eq ht (by rw [hop]; exact hV)⟩, hS.F ht⟩) hS.2.2 dX6_project_162
      · refine lv_iconst (v := nI 1) hx hb dX6_project_94 (by decide) ?_
        refine lv_goto (tgt := 108) hx hb dX6_project_95 (by decide) ?_
        refine kc_i (va_runV (As := [.int (nI (1))]) (rest := []) hF (c_X6_refused l G h ad rf rl rw S wr 1 (by omega)) (cwV 1 hts gX6_project_X6_refused rfl rfl rfl (by decide +kernel) ⟨Nat.le_of_ble_eq_true rfl, Nat.le_of_ble_eq_true rfl⟩) (kPreV hE hS hV 0 rfl rfl) rfl rfl hl.1 rfl (lv_room (Nat.le_of_ble_eq_true rfl)) dX6_project_108 ⟨Nat.le_of_ble_eq_true rfl, Nat.le_of_ble_eq_true rfl⟩) hS (fun r_9 u_8 H locs hp_7 hV hS => ?_)
        subst hp_7
        refine W.eq (g2 := F0 m 111 ls [.int (nI (1))]) (by rw [kb_t (by decide)]) ?_
        have hV : kV G (kM G h ad 1 rl rw S ++ wr) H := hV
        refine kn_if_eq_not hx hb (by decide) dX6_project_111 ?_ 116 (by decide)
        refine lv_iconst (v := nI 0) hx hb dX6_project_114 (by decide) ?_
        have hop : opProject S x p a = (1, nI 0, S) := by
          unfold opProject
          rw [kif_t c91] <;> rfl
        exact W.iret (v := nI 0) hx hb hrt (fun t ht hW => ⟨⟨_, (rl, rw), rfl, by rw [hop], kV_eq ht (by rw [hop]; exact hV)⟩, hS.F ht⟩) hS.2.2 dX6_project_115
    refine lv_iload hx hb dX6_project_30 (lv_at hl 0 rfl) ?_
    refine kb_if_eq (tgt := 85) hx hb dX6_project_32 (by decide) (fun c32 => ?_) (fun c32 => ?_)
    · refine lv_iconst (v := nI 0) hx hb dX6_project_85 (by decide) ?_
      refine W.eq (g2 := F0 m 86 ls [.int (nI (kb ((isIn x 5 ∧ isIn p (S.1 1 0) ∧ isIn a (S.1 15 0)) ∧ projCan S (tn x) (tn p) (tn a))))]) (by rw [kb_f (fun z => c32 z.1)]) ?_
      exact J86  _ _ hV hS ls (lv_sub hl [0, 1, 2, 3, 4] rfl)
    · obtain ⟨jx, hjx, rfl⟩ := id c32.1
      obtain ⟨j, hj, rfl⟩ := id c32.2.1
      obtain ⟨ja, hja, rfl⟩ := id c32.2.2
      obtain ⟨hokj, howj, hprj, hodj, hlij, hbyj, hbaj⟩ := hIP j hj
      have ho := kInv_od hI hj
      have tj : tn (nI j) = j := tn_nI (by omega)
      have hA := hIL ja hja
      have tx : tn (nI jx) = jx := tn_nI (by omega)
      have ta : tn (nI ja) = ja := tn_nI (by omega)
      refine lv_aload_n hx hb dX6_project_35 rfl (lv_at hl 1 rfl) ?_
      refine lv_iload_n hx hb dX6_project_36 rfl (lv_at hl 3 rfl) ?_
      refine kc_i (va_runV (As := [.int (nI (j))]) (rest := []) hF (c_X6_isPublished l G h ad rf rl rw S wr j (by omega) (by omega)) (cwV 1 hts gX6_project_X6_isPublished rfl rfl rfl (by decide +kernel) ⟨Nat.le_of_ble_eq_true rfl, Nat.le_of_ble_eq_true rfl⟩) (kPreV hE hS hV 0 rfl rfl) rfl rfl hl.1 rfl (lv_room (Nat.le_of_ble_eq_true rfl)) dX6_project_37 ⟨Nat.le_of_ble_eq_true rfl, Nat.le_of_ble_eq_true rfl⟩) hS (fun r_12 u_11 H locs hp_10 hV hS => ?_)
      subst hp_10
      have hV : kV G (kM G h ad rf rl rw S ++ wr) H := hV
      refine kb_if_eq (tgt := 85) hx hb dX6_project_40 (by decide) (fun c40 => ?_) (fun c40 => ?_)
      · refine lv_iconst (v := nI 0) hx hb dX6_project_85 (by decide) ?_
        refine W.eq (g2 := F0 m 86 ls [.int (nI (kb ((isIn (nI jx) 5 ∧ isIn (nI j) (S.1 1 0) ∧ isIn (nI ja) (S.1 15 0)) ∧ projCan S (tn (nI jx)) (tn (nI j)) (tn (nI ja)))))]) (by rw [kb_f (fun z => by have h9 := z.2; rw [tx, tj, ta] at h9; exact c40 h9.1)]) ?_
        exact J86  _ _ hV hS ls (lv_sub hl [0, 1, 2, 3, 4] rfl)
      · refine lv_aload_n hx hb dX6_project_43 rfl (lv_at hl 1 rfl) ?_
        refine va_get (D := kD G) (ci := 7) (v := .ref (ad 2)) (C := RX6) (T := TX6) (N := 26) hx hb hts hinX6 hown hK hV.1 0 rfl rfl 2 (by decide) (hts (Cond.fieldLink RX6 7 "YarncourtModel" "owners" "[I") (List.mem_of_getElem? (i := 1) rfl)) (fun _ h9 => h9) rfl dX6_project_44 ?_
        refine lv_iload_n hx hb dX6_project_47 rfl (lv_at hl 3 rfl) ?_
        refine kn_iald (G := G) (n := 16) (g := S.1 2) (j := j) hx hb hK hV 1 rfl (by omega) (by decide) dX6_project_48 ?_
        refine lv_iload_n hx hb dX6_project_49 rfl (lv_at hl 2 rfl) ?_
        refine kn_eq (tgt := 62) hx hb (by omega) (by omega) dX6_project_50 (by decide) (fun c50 => ?_) (fun c50 => ?_)
        · refine lv_aload_n hx hb dX6_project_62 rfl (lv_at hl 1 rfl) ?_
          refine va_get (D := kD G) (ci := 7) (v := .ref (ad 16)) (C := RX6) (T := TX6) (N := 26) hx hb hts hinX6 hown hK hV.1 0 rfl rfl 16 (by decide) (hts (Cond.fieldLink RX6 47 "YarncourtModel" "holders" "[I") (List.mem_of_getElem? (i := 2) rfl)) (fun _ h9 => h9) rfl dX6_project_63 ?_
          refine lv_iload_n hx hb dX6_project_66 rfl (lv_at hl 4 rfl) ?_
          refine kn_iald (G := G) (n := 20) (g := S.1 16) (j := ja) hx hb hK hV 13 rfl (by omega) (by decide) dX6_project_67 ?_
          refine lv_iload_n hx hb dX6_project_68 rfl (lv_at hl 2 rfl) ?_
          refine kn_ne (tgt := 85) hx hb (by omega) (by omega) dX6_project_69 (by decide) (fun c69 => ?_) (fun c69 => ?_)
          · refine lv_iconst (v := nI 0) hx hb dX6_project_85 (by decide) ?_
            refine W.eq (g2 := F0 m 86 ls [.int (nI (kb ((isIn (nI jx) 5 ∧ isIn (nI j) (S.1 1 0) ∧ isIn (nI ja) (S.1 15 0)) ∧ projCan S (tn (nI jx)) (tn (nI j)) (tn (nI ja)))))]) (by rw [kb_f (fun z => by have h9 := z.2; rw [tx, tj, ta] at h9; exact c69 h9.2.2.1)]) ?_
            exact J86  _ _ hV hS ls (lv_sub hl [0, 1, 2, 3, 4] rfl)
          · refine lv_aload_n hx hb dX6_project_72 rfl (lv_at hl 1 rfl) ?_
            refine va_get (D := kD G) (ci := 7) (v := .int (nI (S.1 19 0))) (C := RX6) (T := TX6) (N := 26) hx hb hts hinX6 hown hK hV.1 0 rfl rfl 19 (by decide) (hts (Cond.fieldLink RX6 82 "YarncourtModel" "projects" "I") (List.mem_of_getElem? (i := 3) rfl)) (fun _ h9 => h9) rfl dX6_project_73 ?_
            refine lv_bipush (v := nI 12) hx hb dX6_project_76 (by decide) ?_
            refine kn_ge (tgt := 85) hx hb (by omega) (by decide) dX6_project_78 (by decide) (fun c78 => ?_) (fun c78 => ?_)
            · refine lv_iconst (v := nI 0) hx hb dX6_project_85 (by decide) ?_
              refine W.eq (g2 := F0 m 86 ls [.int (nI (kb ((isIn (nI jx) 5 ∧ isIn (nI j) (S.1 1 0) ∧ isIn (nI ja) (S.1 15 0)) ∧ projCan S (tn (nI jx)) (tn (nI j)) (tn (nI ja)))))]) (by rw [kb_f (fun z => by have h9 := z.2; rw [tx, tj, ta] at h9; have := h9.2.2.2; omega)]) ?_
              exact J86  _ _ hV hS ls (lv_sub hl [0, 1, 2, 3, 4] rfl)
            · refine lv_iconst (v := nI 1) hx hb dX6_project_81 (by decide) ?_
              refine lv_goto (tgt := 86) hx hb dX6_project_82 (by decide) ?_
              refine W.eq (g2 := F0 m 86 ls [.int (nI (kb ((isIn (nI jx) 5 ∧ isIn (nI j) (S.1 1 0) ∧ isIn (nI ja) (S.1 15 0)) ∧ projCan S (tn (nI jx)) (tn (nI j)) (tn (nI ja)))))]) (by rw [kb_t (⟨c32, by rw [tx, tj, ta]; exact ⟨c40, Or.inl c50, c69, c78⟩⟩)]) ?_
              exact J86  _ _ hV hS ls (lv_sub hl [0, 1, 2, 3, 4] rfl)
        · refine lv_aload_n hx hb dX6_project_53 rfl (lv_at hl 1 rfl) ?_
          refine lv_iload_n hx hb dX6_project_54 rfl (lv_at hl 3 rfl) ?_
          refine lv_iload_n hx hb dX6_project_55 rfl (lv_at hl 2 rfl) ?_
          refine kc_i (va_runV (As := [.int (nI (j)), .int (nI (jx))]) (rest := []) hF (c_X6_hasBought l G h ad rf rl rw S wr j jx (by omega) (by omega) (by omega)) (cwV 2 hts gX6_project_X6_hasBought rfl rfl rfl (by decide +kernel) ⟨Nat.le_of_ble_eq_true rfl, Nat.le_of_ble_eq_true rfl⟩) (kPreV hE hS hV 0 rfl rfl) rfl rfl hl.1 rfl (lv_room (Nat.le_of_ble_eq_true rfl)) dX6_project_56 ⟨Nat.le_of_ble_eq_true rfl, Nat.le_of_ble_eq_true rfl⟩) hS (fun r_15 u_14 H locs hp_13 hV hS => ?_)
          subst hp_13
          have hV : kV G (kM G h ad rf rl rw S ++ wr) H := hV
          refine kb_if_eq (tgt := 85) hx hb dX6_project_59 (by decide) (fun c59 => ?_) (fun c59 => ?_)
          · refine lv_iconst (v := nI 0) hx hb dX6_project_85 (by decide) ?_
            refine W.eq (g2 := F0 m 86 ls [.int (nI (kb ((isIn (nI jx) 5 ∧ isIn (nI j) (S.1 1 0) ∧ isIn (nI ja) (S.1 15 0)) ∧ projCan S (tn (nI jx)) (tn (nI j)) (tn (nI ja)))))]) (by rw [kb_f (fun z => by have h9 := z.2; rw [tx, tj, ta] at h9; exact h9.2.1.elim c50 c59)]) ?_
            exact J86  _ _ hV hS ls (lv_sub hl [0, 1, 2, 3, 4] rfl)
          · refine lv_aload_n hx hb dX6_project_62 rfl (lv_at hl 1 rfl) ?_
            refine va_get (D := kD G) (ci := 7) (v := .ref (ad 16)) (C := RX6) (T := TX6) (N := 26) hx hb hts hinX6 hown hK hV.1 0 rfl rfl 16 (by decide) (hts (Cond.fieldLink RX6 47 "YarncourtModel" "holders" "[I") (List.mem_of_getElem? (i := 2) rfl)) (fun _ h9 => h9) rfl dX6_project_63 ?_
            refine lv_iload_n hx hb dX6_project_66 rfl (lv_at hl 4 rfl) ?_
            refine kn_iald (G := G) (n := 20) (g := S.1 16) (j := ja) hx hb hK hV 13 rfl (by omega) (by decide) dX6_project_67 ?_
            refine lv_iload_n hx hb dX6_project_68 rfl (lv_at hl 2 rfl) ?_
            refine kn_ne (tgt := 85) hx hb (by omega) (by omega) dX6_project_69 (by decide) (fun c69 => ?_) (fun c69 => ?_)
            · refine lv_iconst (v := nI 0) hx hb dX6_project_85 (by decide) ?_
              refine W.eq (g2 := F0 m 86 ls [.int (nI (kb ((isIn (nI jx) 5 ∧ isIn (nI j) (S.1 1 0) ∧ isIn (nI ja) (S.1 15 0)) ∧ projCan S (tn (nI jx)) (tn (nI j)) (tn (nI ja)))))]) (by rw [kb_f (fun z => by have h9 := z.2; rw [tx, tj, ta] at h9; exact c69 h9.2.2.1)]) ?_
              exact J86  _ _ hV hS ls (lv_sub hl [0, 1, 2, 3, 4] rfl)
            · refine lv_aload_n hx hb dX6_project_72 rfl (lv_at hl 1 rfl) ?_
              refine va_get (D := kD G) (ci := 7) (v := .int (nI (S.1 19 0))) (C := RX6) (T := TX6) (N := 26) hx hb hts hinX6 hown hK hV.1 0 rfl rfl 19 (by decide) (hts (Cond.fieldLink RX6 82 "YarncourtModel" "projects" "I") (List.mem_of_getElem? (i := 3) rfl)) (fun _ h9 => h9) rfl dX6_project_73 ?_
              refine lv_bipush (v := nI 12) hx hb dX6_project_76 (by decide) ?_
              refine kn_ge (tgt := 85) hx hb (by omega) (by decide) dX6_project_78 (by decide) (fun c78 => ?_) (fun c78 => ?_)
              · refine lv_iconst (v := nI 0) hx hb dX6_project_85 (by decide) ?_
                refine W.eq (g2 := F0 m 86 ls [.int (nI (kb ((isIn (nI jx) 5 ∧ isIn (nI j) (S.1 1 0) ∧ isIn (nI ja) (S.1 15 0)) ∧ projCan S (tn (nI jx)) (tn (nI j)) (tn (nI ja)))))]) (by rw [kb_f (fun z => by have h9 := z.2; rw [tx, tj, ta] at h9; have := h9.2.2.2; omega)]) ?_
                exact J86  _ _ hV hS ls (lv_sub hl [0, 1, 2, 3, 4] rfl)
              · refine lv_iconst (v := nI 1) hx hb dX6_project_81 (by decide) ?_
                refine lv_goto (tgt := 86) hx hb dX6_project_82 (by decide) ?_
                refine W.eq (g2 := F0 m 86 ls [.int (nI (kb ((isIn (nI jx) 5 ∧ isIn (nI j) (S.1 1 0) ∧ isIn (nI ja) (S.1 15 0)) ∧ projCan S (tn (nI jx)) (tn (nI j)) (tn (nI ja)))))]) (by rw [kb_t (⟨c32, by rw [tx, tj, ta]; exact ⟨c40, Or.inr c59, c69, c78⟩⟩)]) ?_
                exact J86  _ _ hV hS ls (lv_sub hl [0, 1, 2, 3, 4] rfl)
  refine lv_iload_n hx hb dX6_project_0 rfl (lv_at hl 1 rfl) ?_
  refine kc_i (va_runS (As := [.int (x)]) (rest := []) hF (c_X6_isPerson l G x (kM G h ad rf rl rw S ++ wr)) (va_cwS 1 hts gX6_project_X6_isPerson rfl rfl rfl (by decide +kernel) ⟨Nat.le_of_ble_eq_true rfl, Nat.le_of_ble_eq_true rfl⟩) (kPreS hE hS hV) rfl rfl hl.1 rfl (lv_room (Nat.le_of_ble_eq_true rfl)) dX6_project_1 ⟨Nat.le_of_ble_eq_true rfl, Nat.le_of_ble_eq_true rfl⟩) hS (fun r_18 u_17 H locs hp_16 hV hS => ?_)
  subst hp_16
  have hV : kV G (kM G h ad rf rl rw S ++ wr) H := hV
  refine kb_if_eq (tgt := 27) hx hb dX6_project_4 (by decide) (fun c4 => ?_) (fun c4 => ?_)
  · refine lv_iconst (v := nI 0) hx hb dX6_project_27 (by decide) ?_
    refine W.eq (g2 := F0 m 28 ls [.int (nI (kb (isIn x 5 ∧ isIn p (S.1 1 0) ∧ isIn a (S.1 15 0))))]) (by rw [kb_f (fun z => c4 z.1)]) ?_
    exact J28  _ _ hV hS ls (lv_sub hl [0, 1, 2, 3] rfl)
  · refine lv_aload_n hx hb dX6_project_7 rfl (lv_at hl 0 rfl) ?_
    refine lv_iload_n hx hb dX6_project_8 rfl (lv_at hl 2 rfl) ?_
    refine kc_i (va_runV (As := [.int (p)]) (rest := []) hF (c_X6_isPattern l G h ad rf rl rw S wr p (by omega)) (cwV 1 hts gX6_project_X6_isPattern rfl rfl rfl (by decide +kernel) ⟨Nat.le_of_ble_eq_true rfl, Nat.le_of_ble_eq_true rfl⟩) (kPreV hE hS hV 0 rfl rfl) rfl rfl hl.1 rfl (lv_room (Nat.le_of_ble_eq_true rfl)) dX6_project_9 ⟨Nat.le_of_ble_eq_true rfl, Nat.le_of_ble_eq_true rfl⟩) hS (fun r_21 u_20 H locs hp_19 hV hS => ?_)
    subst hp_19
    have hV : kV G (kM G h ad rf rl rw S ++ wr) H := hV
    refine kb_if_eq (tgt := 27) hx hb dX6_project_12 (by decide) (fun c12 => ?_) (fun c12 => ?_)
    · refine lv_iconst (v := nI 0) hx hb dX6_project_27 (by decide) ?_
      refine W.eq (g2 := F0 m 28 ls [.int (nI (kb (isIn x 5 ∧ isIn p (S.1 1 0) ∧ isIn a (S.1 15 0))))]) (by rw [kb_f (fun z => c12 z.2.1)]) ?_
      exact J28  _ _ hV hS ls (lv_sub hl [0, 1, 2, 3] rfl)
    · refine lv_aload_n hx hb dX6_project_15 rfl (lv_at hl 0 rfl) ?_
      refine lv_iload_n hx hb dX6_project_16 rfl (lv_at hl 3 rfl) ?_
      refine kc_i (va_runV (As := [.int (a)]) (rest := []) hF (c_X6_isLot l G h ad rf rl rw S wr a (by omega)) (cwV 1 hts gX6_project_X6_isLot rfl rfl rfl (by decide +kernel) ⟨Nat.le_of_ble_eq_true rfl, Nat.le_of_ble_eq_true rfl⟩) (kPreV hE hS hV 0 rfl rfl) rfl rfl hl.1 rfl (lv_room (Nat.le_of_ble_eq_true rfl)) dX6_project_17 ⟨Nat.le_of_ble_eq_true rfl, Nat.le_of_ble_eq_true rfl⟩) hS (fun r_24 u_23 H locs hp_22 hV hS => ?_)
      subst hp_22
      have hV : kV G (kM G h ad rf rl rw S ++ wr) H := hV
      refine kb_if_eq (tgt := 27) hx hb dX6_project_20 (by decide) (fun c20 => ?_) (fun c20 => ?_)
      · refine lv_iconst (v := nI 0) hx hb dX6_project_27 (by decide) ?_
        refine W.eq (g2 := F0 m 28 ls [.int (nI (kb (isIn x 5 ∧ isIn p (S.1 1 0) ∧ isIn a (S.1 15 0))))]) (by rw [kb_f (fun z => c20 z.2.2)]) ?_
        exact J28  _ _ hV hS ls (lv_sub hl [0, 1, 2, 3] rfl)
      · refine lv_iconst (v := nI 1) hx hb dX6_project_23 (by decide) ?_
        refine lv_goto (tgt := 28) hx hb dX6_project_24 (by decide) ?_
        refine W.eq (g2 := F0 m 28 ls [.int (nI (kb (isIn x 5 ∧ isIn p (S.1 1 0) ∧ isIn a (S.1 15 0))))]) (by rw [kb_t (⟨c4, c12, c20⟩)]) ?_
        exact J28  _ _ hV hS ls (lv_sub hl [0, 1, 2, 3] rfl)
set_option maxHeartbeats 4000000 in
set_option maxRecDepth 100000 in
theorem c_X6_take (l : Launch) (G : kG) (h : Nat) (ad : Nat → Nat) (rf : Nat) (rl : Nat) (rw : Nat) (S : kS) (wr : va_W) (j : Int32) (a : Int32) (hI : kInv S) : Met l yX6_take wsX6_take ({ frames := 2, cells := 0, slots := 0, locals := 43 } : Room) (kPc G [.ref (h), .int (j), .int (a)] (kM G h ad rf rl rw S ++ wr)) (kQi G (S := Nat × Nat) (fun q _ => q = (opTake S j a).2.1) (fun uu => kM G h ad ((opTake S j a).1) uu.1 uu.2 ((opTake S j a).2.2) ++ wr)) 0 0 (kA G) := by
  refine Met.ofW (cc := cX6_take) (maxL := 5) (ret := (some .int)) (by decide) rfl ?_
  intro pp ee s m args below meth cc0 s₁ B hml hv
  obtain ⟨rfl, hE, hV⟩ := hv
  have hK := hE.1
  have hx := B.exec
  have hb := B.bytes
  have hrt := B.returns
  have hts := atoms_spec (ws := wsX6_take) B.pre
  have hown : s.vm.findClass RX6 = some m.cls := findClass_of_methodNamed B.named
  have hlocks := B.notSynchronized
  have hF : CallFix pp m cc0 cX6_take 5 s _ wsX6_take RX6 := ⟨hx, hb, hml, hown, hts⟩
  have hinX6 : ∀ w ∈ wsX60, w ∈ wsX6_take := tb_of [23, 24, 25, 26, 27, 28, 29, 30, 31, 32, 33, 34, 35, 36, 37, 38, 39, 40, 41, 42, 43, 44, 45, 46, 47, 48] rfl
  have hS : va_S (kA G) s.heap s.heap [] := va_S.rf
  have hB0 := hE.2.1
  have hl := lv_entry ([.ref (h), .int (j), .int (a)]) (n := 5) (Nat.le_of_ble_eq_true rfl)
  rw [lg_entry_eq]
  generalize (lg_sl ([.ref (h), .int (j), .int (a)]) ++ List.replicate (5 - (lg_sl ([.ref (h), .int (j), .int (a)])).length) Slot.unset).toArray = ls at hl ⊢
  have hl : lv_has ls 5 [(0, .ref (h)), (1, .int (j)), (2, .int (a))] := hl
  obtain ⟨⟨hnp, hnl, hnj, hpu⟩, hIP, hIQ, hIL, hIJ, hIK, hIO⟩ := id hI
  have J21 : ∀ (H : Heap) (locs : List Loc), kV G (kM G h ad rf rl rw S ++ wr) H → va_S (kA G) s.heap H locs → ∀ (ls : Array Slot), lv_has ls 5 [(0, .ref (h)), (1, .int (j)), (2, .int (a))] → W pp l ee (headSpec wsX6_take ({ frames := 2, cells := 0, slots := 0, locals := 43 } : Room)).room s m [.ref (h), .int (j), .int (a)].toArray below meth cc0 H locs 0 0 (MQ below (kQi G (S := Nat × Nat) (fun q _ => q = (opTake S j a).2.1) (fun uu => kM G h ad ((opTake S j a).1) uu.1 uu.2 ((opTake S j a).2.2) ++ wr)) [.ref (h), .int (j), .int (a)].toArray s 0 0 (kA G)) (F0 m 21 ls [.int (nI (kb (isIn j (S.1 19 0) ∧ isIn a (S.1 15 0))))]) := by
    intro  H locs hV hS ls hl
    refine lv_istore_n (lv' := [(3, .int (nI (kb (isIn j (S.1 19 0) ∧ isIn a (S.1 15 0))))), (0, .ref (h)), (1, .int (j)), (2, .int (a))]) hx hb dX6_take_21 rfl hl (by decide) rfl (fun ls hl => ?_)
    refine lv_aload_n hx hb dX6_take_22 rfl (lv_at hl 1 rfl) ?_
    refine lv_iload_n hx hb dX6_take_23 rfl (lv_at hl 0 rfl) ?_
    refine kb_if_ne (tgt := 31) hx hb dX6_take_24 (by decide) (fun c24 => ?_) (fun c24 => ?_)
    · obtain ⟨jj, hjj, rfl⟩ := id c24.1
      obtain ⟨ja, hja, rfl⟩ := id c24.2
      have hA := hIL ja hja
      have hJ := hIJ jj hjj
      have tjj : tn (nI jj) = jj := tn_nI (by omega)
      have ta : tn (nI ja) = ja := tn_nI (by omega)
      refine lv_aload_n hx hb dX6_take_31 rfl (lv_at hl 1 rfl) ?_
      refine va_get (D := kD G) (ci := 7) (v := .ref (ad 16)) (C := RX6) (T := TX6) (N := 26) hx hb hts hinX6 hown hK hV.1 0 rfl rfl 16 (by decide) (hts (Cond.fieldLink RX6 47 "YarncourtModel" "holders" "[I") (List.mem_of_getElem? (i := 1) rfl)) (fun _ h9 => h9) rfl dX6_take_32 ?_
      refine lv_iload_n hx hb dX6_take_35 rfl (lv_at hl 3 rfl) ?_
      refine kn_iald (G := G) (n := 20) (g := S.1 16) (j := ja) hx hb hK hV 13 rfl (by omega) (by decide) dX6_take_36 ?_
      refine lv_aload_n hx hb dX6_take_37 rfl (lv_at hl 1 rfl) ?_
      refine va_get (D := kD G) (ci := 7) (v := .ref (ad 20)) (C := RX6) (T := TX6) (N := 26) hx hb hts hinX6 hown hK hV.1 0 rfl rfl 20 (by decide) (hts (Cond.fieldLink RX6 56 "YarncourtModel" "knitters" "[I") (List.mem_of_getElem? (i := 2) rfl)) (fun _ h9 => h9) rfl dX6_take_38 ?_
      refine lv_iload_n hx hb dX6_take_41 rfl (lv_at hl 2 rfl) ?_
      refine kn_iald (G := G) (n := 12) (g := S.1 20) (j := jj) hx hb hK hV 16 rfl (by omega) (by decide) dX6_take_42 ?_
      refine kn_ne (tgt := 50) hx hb (by omega) (by omega) dX6_take_43 (by decide) (fun c43 => ?_) (fun c43 => ?_)
      · refine lv_iconst (v := nI 2) hx hb dX6_take_50 (by decide) ?_
        refine kc_i (va_runV (As := [.int (nI (2))]) (rest := []) hF (c_X6_refused l G h ad rf rl rw S wr 2 (by omega)) (cwV 1 hts gX6_take_X6_refused rfl rfl rfl (by decide +kernel) ⟨Nat.le_of_ble_eq_true rfl, Nat.le_of_ble_eq_true rfl⟩) (kPreV hE hS hV 0 rfl rfl) rfl rfl hl.1 rfl (lv_room (Nat.le_of_ble_eq_true rfl)) dX6_take_51 ⟨Nat.le_of_ble_eq_true rfl, Nat.le_of_ble_eq_true rfl⟩) hS (fun r_3 u_2 H locs hp_1 hV hS => ?_)
        subst hp_1
        refine W.eq (g2 := F0 m 54 ls [.int (nI (1))]) (by rw [kb_t (by decide)]) ?_
        have hV : kV G (kM G h ad 2 rl rw S ++ wr) H := hV
        refine kn_if_eq_not hx hb (by decide) dX6_take_54 ?_ 59 (by decide)
        refine lv_iconst (v := nI 0) hx hb dX6_take_57 (by decide) ?_
        have hop : opTake S (nI jj) (nI ja) = (2, nI 0, S) := by
          unfold opTake
          rw [kif_f (fun z => z c24), ta, tjj, kif_t c43] <;> rfl
        exact W.iret (v := nI 0) hx hb hrt (fun t ht hW => ⟨⟨_, (rl, rw), rfl, by rw [hop], kV_eq ht (by rw [hop]; exact hV)⟩, hS.F ht⟩) hS.2.2 dX6_take_58
      · refine lv_iconst (v := nI 0) hx hb dX6_take_46 (by decide) ?_
        refine lv_goto (tgt := 51) hx hb dX6_take_47 (by decide) ?_
        refine kc_i (va_runV (As := [.int (nI (0))]) (rest := []) hF (c_X6_refused l G h ad rf rl rw S wr 0 (by omega)) (cwV 1 hts gX6_take_X6_refused rfl rfl rfl (by decide +kernel) ⟨Nat.le_of_ble_eq_true rfl, Nat.le_of_ble_eq_true rfl⟩) (kPreV hE hS hV 0 rfl rfl) rfl rfl hl.1 rfl (lv_room (Nat.le_of_ble_eq_true rfl)) dX6_take_51 ⟨Nat.le_of_ble_eq_true rfl, Nat.le_of_ble_eq_true rfl⟩) hS (fun r_6 u_5 H locs hp_4 hV hS => ?_)
        subst hp_4
        refine W.eq (g2 := F0 m 54 ls [.int (nI (0))]) (by rw [kb_f (by decide)]) ?_
        have hV : kV G (kM G h ad 0 rl rw S ++ wr) H := hV
        refine kn_if_eq_lit (tgt := 59) hx hb (by decide) dX6_take_54 (by decide) ?_
        refine lv_aload_n hx hb dX6_take_59 rfl (lv_at hl 1 rfl) ?_
        refine va_get (D := kD G) (ci := 7) (v := .ref (ad 22)) (C := RX6) (T := TX6) (N := 26) hx hb hts hinX6 hown hK hV.1 0 rfl rfl 22 (by decide) (hts (Cond.fieldLink RX6 62 "YarncourtModel" "projectLots" "[I") (List.mem_of_getElem? (i := 3) rfl)) (fun _ h9 => h9) rfl dX6_take_60 ?_
        refine lv_iload_n hx hb dX6_take_63 rfl (lv_at hl 2 rfl) ?_
        refine kn_iald (G := G) (n := 12) (g := S.1 22) (j := jj) hx hb hK hV 18 rfl (by omega) (by decide) dX6_take_64 ?_
        refine lv_istore (lv' := [(4, .int (nI (S.1 22 jj))), (3, .int (nI (kb (isIn (nI jj) (S.1 19 0) ∧ isIn (nI ja) (S.1 15 0))))), (0, .ref (h)), (1, .int (nI (jj))), (2, .int (nI (ja)))]) hx hb dX6_take_65 hl (by decide) rfl (fun ls hl => ?_)
        refine lv_aload_n hx hb dX6_take_67 rfl (lv_at hl 2 rfl) ?_
        refine va_get (D := kD G) (ci := 7) (v := .ref (ad 22)) (C := RX6) (T := TX6) (N := 26) hx hb hts hinX6 hown hK hV.1 0 rfl rfl 22 (by decide) (hts (Cond.fieldLink RX6 62 "YarncourtModel" "projectLots" "[I") (List.mem_of_getElem? (i := 3) rfl)) (fun _ h9 => h9) rfl dX6_take_68 ?_
        refine lv_iload_n hx hb dX6_take_71 rfl (lv_at hl 3 rfl) ?_
        refine lv_iload_n hx hb dX6_take_72 rfl (lv_at hl 4 rfl) ?_
        refine kn_iast (G := G) (n := 12) (g := S.1 22) (j := jj) (v := ja) hx hb hK hV hS 18 rfl (by omega) (by decide) dX6_take_73 (fun H locs hV hS => ?_)
        have hV : kV G (kM G h ad 0 rl rw (st S 22 jj ja) ++ wr) H := hV
        refine lv_iload hx hb dX6_take_74 (lv_at hl 0 rfl) ?_
        have hop : opTake S (nI jj) (nI ja) = (0, nI (S.1 22 jj), st S 22 jj ja) := by
          unfold opTake
          rw [kif_f (fun z => z c24), ta, tjj, kif_f (fun z => z c43)] <;> rfl
        exact W.iret (v := nI (S.1 22 jj)) hx hb hrt (fun t ht hW => ⟨⟨_, (rl, rw), rfl, by rw [hop], kV_eq ht (by rw [hop]; exact hV)⟩, hS.F ht⟩) hS.2.2 dX6_take_76
    · refine lv_iconst (v := nI 1) hx hb dX6_take_27 (by decide) ?_
      refine lv_goto (tgt := 51) hx hb dX6_take_28 (by decide) ?_
      refine kc_i (va_runV (As := [.int (nI (1))]) (rest := []) hF (c_X6_refused l G h ad rf rl rw S wr 1 (by omega)) (cwV 1 hts gX6_take_X6_refused rfl rfl rfl (by decide +kernel) ⟨Nat.le_of_ble_eq_true rfl, Nat.le_of_ble_eq_true rfl⟩) (kPreV hE hS hV 0 rfl rfl) rfl rfl hl.1 rfl (lv_room (Nat.le_of_ble_eq_true rfl)) dX6_take_51 ⟨Nat.le_of_ble_eq_true rfl, Nat.le_of_ble_eq_true rfl⟩) hS (fun r_9 u_8 H locs hp_7 hV hS => ?_)
      subst hp_7
      refine W.eq (g2 := F0 m 54 ls [.int (nI (1))]) (by rw [kb_t (by decide)]) ?_
      have hV : kV G (kM G h ad 1 rl rw S ++ wr) H := hV
      refine kn_if_eq_not hx hb (by decide) dX6_take_54 ?_ 59 (by decide)
      refine lv_iconst (v := nI 0) hx hb dX6_take_57 (by decide) ?_
      have hop : opTake S j a = (1, nI 0, S) := by
        unfold opTake
        rw [kif_t c24] <;> rfl
      exact W.iret (v := nI 0) hx hb hrt (fun t ht hW => ⟨⟨_, (rl, rw), rfl, by rw [hop], kV_eq ht (by rw [hop]; exact hV)⟩, hS.F ht⟩) hS.2.2 dX6_take_58
  refine lv_aload_n hx hb dX6_take_0 rfl (lv_at hl 0 rfl) ?_
  refine lv_iload_n hx hb dX6_take_1 rfl (lv_at hl 1 rfl) ?_
  refine kc_i (va_runV (As := [.int (j)]) (rest := []) hF (c_X6_isProject l G h ad rf rl rw S wr j (by omega)) (cwV 1 hts gX6_take_X6_isProject rfl rfl rfl (by decide +kernel) ⟨Nat.le_of_ble_eq_true rfl, Nat.le_of_ble_eq_true rfl⟩) (kPreV hE hS hV 0 rfl rfl) rfl rfl hl.1 rfl (lv_room (Nat.le_of_ble_eq_true rfl)) dX6_take_2 ⟨Nat.le_of_ble_eq_true rfl, Nat.le_of_ble_eq_true rfl⟩) hS (fun r_12 u_11 H locs hp_10 hV hS => ?_)
  subst hp_10
  have hV : kV G (kM G h ad rf rl rw S ++ wr) H := hV
  refine kb_if_eq (tgt := 20) hx hb dX6_take_5 (by decide) (fun c5 => ?_) (fun c5 => ?_)
  · refine lv_iconst (v := nI 0) hx hb dX6_take_20 (by decide) ?_
    refine W.eq (g2 := F0 m 21 ls [.int (nI (kb (isIn j (S.1 19 0) ∧ isIn a (S.1 15 0))))]) (by rw [kb_f (fun z => c5 z.1)]) ?_
    exact J21  _ _ hV hS ls (lv_sub hl [0, 1, 2] rfl)
  · refine lv_aload_n hx hb dX6_take_8 rfl (lv_at hl 0 rfl) ?_
    refine lv_iload_n hx hb dX6_take_9 rfl (lv_at hl 2 rfl) ?_
    refine kc_i (va_runV (As := [.int (a)]) (rest := []) hF (c_X6_isLot l G h ad rf rl rw S wr a (by omega)) (cwV 1 hts gX6_take_X6_isLot rfl rfl rfl (by decide +kernel) ⟨Nat.le_of_ble_eq_true rfl, Nat.le_of_ble_eq_true rfl⟩) (kPreV hE hS hV 0 rfl rfl) rfl rfl hl.1 rfl (lv_room (Nat.le_of_ble_eq_true rfl)) dX6_take_10 ⟨Nat.le_of_ble_eq_true rfl, Nat.le_of_ble_eq_true rfl⟩) hS (fun r_15 u_14 H locs hp_13 hV hS => ?_)
    subst hp_13
    have hV : kV G (kM G h ad rf rl rw S ++ wr) H := hV
    refine kb_if_eq (tgt := 20) hx hb dX6_take_13 (by decide) (fun c13 => ?_) (fun c13 => ?_)
    · refine lv_iconst (v := nI 0) hx hb dX6_take_20 (by decide) ?_
      refine W.eq (g2 := F0 m 21 ls [.int (nI (kb (isIn j (S.1 19 0) ∧ isIn a (S.1 15 0))))]) (by rw [kb_f (fun z => c13 z.2)]) ?_
      exact J21  _ _ hV hS ls (lv_sub hl [0, 1, 2] rfl)
    · refine lv_iconst (v := nI 1) hx hb dX6_take_16 (by decide) ?_
      refine lv_goto (tgt := 21) hx hb dX6_take_17 (by decide) ?_
      refine W.eq (g2 := F0 m 21 ls [.int (nI (kb (isIn j (S.1 19 0) ∧ isIn a (S.1 15 0))))]) (by rw [kb_t (⟨c5, c13⟩)]) ?_
      exact J21  _ _ hV hS ls (lv_sub hl [0, 1, 2] rfl)
set_option maxHeartbeats 4000000 in
set_option maxRecDepth 100000 in
theorem c_X6_progress (l : Launch) (G : kG) (h : Nat) (ad : Nat → Nat) (rf : Nat) (rl : Nat) (rw : Nat) (S : kS) (wr : va_W) (j : Int32) (hI : kInv S) : Met l yX6_progress wsX6_progress ({ frames := 2, cells := 0, slots := 0, locals := 43 } : Room) (kPc G [.ref (h), .int (j)] (kM G h ad rf rl rw S ++ wr)) (kQi G (S := Nat × Nat) (fun q _ => q = (opProgress S j).2.1) (fun uu => kM G h ad ((opProgress S j).1) uu.1 uu.2 ((opProgress S j).2.2) ++ wr)) 0 0 (kA G) := by
  refine Met.ofW (cc := cX6_progress) (maxL := 2) (ret := (some .int)) (by decide) rfl ?_
  intro pp ee s m args below meth cc0 s₁ B hml hv
  obtain ⟨rfl, hE, hV⟩ := hv
  have hK := hE.1
  have hx := B.exec
  have hb := B.bytes
  have hrt := B.returns
  have hts := atoms_spec (ws := wsX6_progress) B.pre
  have hown : s.vm.findClass RX6 = some m.cls := findClass_of_methodNamed B.named
  have hlocks := B.notSynchronized
  have hF : CallFix pp m cc0 cX6_progress 2 s _ wsX6_progress RX6 := ⟨hx, hb, hml, hown, hts⟩
  have hinX6 : ∀ w ∈ wsX60, w ∈ wsX6_progress := tb_of [16, 17, 18, 19, 20, 21, 22, 23, 24, 25, 26, 27, 28, 29, 30, 31, 32, 33, 34, 35, 36, 37, 38, 39, 40, 41] rfl
  have hS : va_S (kA G) s.heap s.heap [] := va_S.rf
  have hB0 := hE.2.1
  have hl := lv_entry ([.ref (h), .int (j)]) (n := 2) (Nat.le_of_ble_eq_true rfl)
  rw [lg_entry_eq]
  generalize (lg_sl ([.ref (h), .int (j)]) ++ List.replicate (2 - (lg_sl ([.ref (h), .int (j)])).length) Slot.unset).toArray = ls at hl ⊢
  have hl : lv_has ls 2 [(0, .ref (h)), (1, .int (j))] := hl
  obtain ⟨⟨hnp, hnl, hnj, hpu⟩, hIP, hIQ, hIL, hIJ, hIK, hIO⟩ := id hI
  refine lv_aload_n hx hb dX6_progress_0 rfl (lv_at hl 0 rfl) ?_
  refine lv_aload_n hx hb dX6_progress_1 rfl (lv_at hl 0 rfl) ?_
  refine lv_iload_n hx hb dX6_progress_2 rfl (lv_at hl 1 rfl) ?_
  refine kc_i (va_runV (As := [.int (j)]) (rest := [.ref (h)]) hF (c_X6_isProject l G h ad rf rl rw S wr j (by omega)) (cwV 1 hts gX6_progress_X6_isProject rfl rfl rfl (by decide +kernel) ⟨Nat.le_of_ble_eq_true rfl, Nat.le_of_ble_eq_true rfl⟩) (kPreV hE hS hV 0 rfl rfl) rfl rfl hl.1 rfl (lv_room (Nat.le_of_ble_eq_true rfl)) dX6_progress_3 ⟨Nat.le_of_ble_eq_true rfl, Nat.le_of_ble_eq_true rfl⟩) hS (fun r_3 u_2 H locs hp_1 hV hS => ?_)
  subst hp_1
  have hV : kV G (kM G h ad rf rl rw S ++ wr) H := hV
  refine kb_if_eq (tgt := 13) hx hb dX6_progress_6 (by decide) (fun c6 => ?_) (fun c6 => ?_)
  · refine lv_iconst (v := nI 1) hx hb dX6_progress_13 (by decide) ?_
    refine kc_i (va_runV (As := [.int (nI (1))]) (rest := []) hF (c_X6_refused l G h ad rf rl rw S wr 1 (by omega)) (cwV 1 hts gX6_progress_X6_refused rfl rfl rfl (by decide +kernel) ⟨Nat.le_of_ble_eq_true rfl, Nat.le_of_ble_eq_true rfl⟩) (kPreV hE hS hV 0 rfl rfl) rfl rfl hl.1 rfl (lv_room (Nat.le_of_ble_eq_true rfl)) dX6_progress_14 ⟨Nat.le_of_ble_eq_true rfl, Nat.le_of_ble_eq_true rfl⟩) hS (fun r_6 u_5 H locs hp_4 hV hS => ?_)
    subst hp_4
    refine W.eq (g2 := F0 m 17 ls [.int (nI (1))]) (by rw [kb_t (by decide)]) ?_
    have hV : kV G (kM G h ad 1 rl rw S ++ wr) H := hV
    refine kn_if_eq_not hx hb (by decide) dX6_progress_17 ?_ 24 (by decide)
    refine lv_iconst (v := nI 0) hx hb dX6_progress_20 (by decide) ?_
    refine lv_goto (tgt := 30) hx hb dX6_progress_21 (by decide) ?_
    have hop : opProgress S j = (1, nI 0, S) := by
      unfold opProgress
      rw [kif_t c6] <;> rfl
    exact W.iret (v := nI 0) hx hb hrt (fun t ht hW => ⟨⟨_, (rl, rw), rfl, by rw [hop], kV_eq ht (by rw [hop]; exact hV)⟩, hS.F ht⟩) hS.2.2 dX6_progress_30
  · refine lv_iconst (v := nI 0) hx hb dX6_progress_9 (by decide) ?_
    refine lv_goto (tgt := 14) hx hb dX6_progress_10 (by decide) ?_
    refine kc_i (va_runV (As := [.int (nI (0))]) (rest := []) hF (c_X6_refused l G h ad rf rl rw S wr 0 (by omega)) (cwV 1 hts gX6_progress_X6_refused rfl rfl rfl (by decide +kernel) ⟨Nat.le_of_ble_eq_true rfl, Nat.le_of_ble_eq_true rfl⟩) (kPreV hE hS hV 0 rfl rfl) rfl rfl hl.1 rfl (lv_room (Nat.le_of_ble_eq_true rfl)) dX6_progress_14 ⟨Nat.le_of_ble_eq_true rfl, Nat.le_of_ble_eq_true rfl⟩) hS (fun r_9 u_8 H locs hp_7 hV hS => ?_)
    subst hp_7
    refine W.eq (g2 := F0 m 17 ls [.int (nI (0))]) (by rw [kb_f (by decide)]) ?_
    have hV : kV G (kM G h ad 0 rl rw S ++ wr) H := hV
    refine kn_if_eq_lit (tgt := 24) hx hb (by decide) dX6_progress_17 (by decide) ?_
    obtain ⟨jj, hjj, rfl⟩ := id c6
    have tjj : tn (nI jj) = jj := tn_nI (by omega)
    refine lv_aload_n hx hb dX6_progress_24 rfl (lv_at hl 0 rfl) ?_
    refine va_get (D := kD G) (ci := 7) (v := .ref (ad 23)) (C := RX6) (T := TX6) (N := 26) hx hb hts hinX6 hown hK hV.1 0 rfl rfl 23 (by decide) (hts (Cond.fieldLink RX6 65 "YarncourtModel" "done" "[I") (List.mem_of_getElem? (i := 1) rfl)) (fun _ h9 => h9) rfl dX6_progress_25 ?_
    refine lv_iload_n hx hb dX6_progress_28 rfl (lv_at hl 1 rfl) ?_
    refine kn_iald (G := G) (n := 12) (g := S.1 23) (j := jj) hx hb hK hV 19 rfl (by omega) (by decide) dX6_progress_29 ?_
    have hop : opProgress S (nI jj) = (0, nI (S.1 23 jj), S) := by
      unfold opProgress
      rw [kif_f (fun z => z (isIn_nI hjj)), tjj] <;> rfl
    exact W.iret (v := nI (S.1 23 jj)) hx hb hrt (fun t ht hW => ⟨⟨_, (rl, rw), rfl, by rw [hop], kV_eq ht (by rw [hop]; exact hV)⟩, hS.F ht⟩) hS.2.2 dX6_progress_30
set_option maxHeartbeats 4000000 in
set_option maxRecDepth 100000 in
theorem c_X6_knitsRow (l : Launch) (G : kG) (h : Nat) (ad : Nat → Nat) (rf : Nat) (rl : Nat) (rw : Nat) (S : kS) (wr : va_W) (j : Nat) (hI : kInv S) (hj : j < S.1 19 0) : Met l yX6_knitsRow wsX6_knitsRow ({ frames := 2, cells := 0, slots := 0, locals := 50 } : Room) (kPc G [.ref (h), .int (nI (j))] (kM G h ad rf rl rw S ++ wr)) (kQi G (S := Nat × Nat) (fun q _ => q = nI (kb (knitCan S j))) (fun uu => kM G h ad rf uu.1 uu.2 (kif (knitCan S j) (knit1 S j) S) ++ wr)) 0 0 (kA G) := by
  refine Met.ofW (cc := cX6_knitsRow) (maxL := 6) (ret := (some .boolean)) (by decide) rfl ?_
  intro pp ee s m args below meth cc0 s₁ B hml hv
  obtain ⟨rfl, hE, hV⟩ := hv
  have hK := hE.1
  have hx := B.exec
  have hb := B.bytes
  have hrt := B.returns
  have hts := atoms_spec (ws := wsX6_knitsRow) B.pre
  have hown : s.vm.findClass RX6 = some m.cls := findClass_of_methodNamed B.named
  have hlocks := B.notSynchronized
  have hF : CallFix pp m cc0 cX6_knitsRow 6 s _ wsX6_knitsRow RX6 := ⟨hx, hb, hml, hown, hts⟩
  have hinX6 : ∀ w ∈ wsX60, w ∈ wsX6_knitsRow := tb_of [33, 34, 35, 36, 37, 38, 39, 40, 41, 42, 43, 44, 45, 46, 47, 48, 49, 50, 51, 52, 53, 54, 55, 56, 57, 58] rfl
  have hS : va_S (kA G) s.heap s.heap [] := va_S.rf
  have hB0 := hE.2.1
  have hl := lv_entry ([.ref (h), .int (nI (j))]) (n := 6) (Nat.le_of_ble_eq_true rfl)
  rw [lg_entry_eq]
  generalize (lg_sl ([.ref (h), .int (nI (j))]) ++ List.replicate (6 - (lg_sl ([.ref (h), .int (nI (j))])).length) Slot.unset).toArray = ls at hl ⊢
  have hl : lv_has ls 6 [(0, .ref (h)), (1, .int (nI (j)))] := hl
  obtain ⟨⟨hnp, hnl, hnj, hpu⟩, hIP, hIQ, hIL, hIJ, hIK, hIO⟩ := id hI
  obtain ⟨jk1, jk2, jk3, jk4, jk5⟩ := hIJ j hj
  obtain ⟨hokj, how, -⟩ := hIP _ jk2
  obtain ⟨jl1, jl2, jl3, jl4⟩ := hIL _ jk4
  have h40 := hokj.2.2.2.1
  have h6 := hokj.1
  refine lv_aload_n hx hb dX6_knitsRow_0 rfl (lv_at hl 0 rfl) ?_
  refine va_get (D := kD G) (ci := 7) (v := .ref (ad 21)) (C := RX6) (T := TX6) (N := 26) hx hb hts hinX6 hown hK hV.1 0 rfl rfl 21 (by decide) (hts (Cond.fieldLink RX6 59 "YarncourtModel" "projectPatterns" "[I") (List.mem_of_getElem? (i := 1) rfl)) (fun _ h9 => h9) rfl dX6_knitsRow_1 ?_
  refine lv_iload_n hx hb dX6_knitsRow_4 rfl (lv_at hl 1 rfl) ?_
  refine kn_iald (G := G) (n := 12) (g := S.1 21) (j := j) hx hb hK hV 17 rfl (by omega) (by decide) dX6_knitsRow_5 ?_
  refine lv_istore_n (lv' := [(2, .int (nI (S.1 21 j))), (0, .ref (h)), (1, .int (nI (j)))]) hx hb dX6_knitsRow_6 rfl hl (by decide) rfl (fun ls hl => ?_)
  refine lv_aload_n hx hb dX6_knitsRow_7 rfl (lv_at hl 1 rfl) ?_
  refine va_get (D := kD G) (ci := 7) (v := .ref (ad 22)) (C := RX6) (T := TX6) (N := 26) hx hb hts hinX6 hown hK hV.1 0 rfl rfl 22 (by decide) (hts (Cond.fieldLink RX6 62 "YarncourtModel" "projectLots" "[I") (List.mem_of_getElem? (i := 2) rfl)) (fun _ h9 => h9) rfl dX6_knitsRow_8 ?_
  refine lv_iload_n hx hb dX6_knitsRow_11 rfl (lv_at hl 2 rfl) ?_
  refine kn_iald (G := G) (n := 12) (g := S.1 22) (j := j) hx hb hK hV 18 rfl (by omega) (by decide) dX6_knitsRow_12 ?_
  refine lv_istore_n (lv' := [(3, .int (nI (S.1 22 j))), (2, .int (nI (S.1 21 j))), (0, .ref (h)), (1, .int (nI (j)))]) hx hb dX6_knitsRow_13 rfl hl (by decide) rfl (fun ls hl => ?_)
  refine lv_aload_n hx hb dX6_knitsRow_14 rfl (lv_at hl 2 rfl) ?_
  refine va_get (D := kD G) (ci := 7) (v := .ref (ad 16)) (C := RX6) (T := TX6) (N := 26) hx hb hts hinX6 hown hK hV.1 0 rfl rfl 16 (by decide) (hts (Cond.fieldLink RX6 47 "YarncourtModel" "holders" "[I") (List.mem_of_getElem? (i := 3) rfl)) (fun _ h9 => h9) rfl dX6_knitsRow_15 ?_
  refine lv_iload_n hx hb dX6_knitsRow_18 rfl (lv_at hl 0 rfl) ?_
  refine kn_iald (G := G) (n := 20) (g := S.1 16) (j := S.1 22 j) hx hb hK hV 13 rfl (by omega) (by decide) dX6_knitsRow_19 ?_
  refine lv_aload_n hx hb dX6_knitsRow_20 rfl (lv_at hl 2 rfl) ?_
  refine va_get (D := kD G) (ci := 7) (v := .ref (ad 20)) (C := RX6) (T := TX6) (N := 26) hx hb hts hinX6 hown hK hV.1 0 rfl rfl 20 (by decide) (hts (Cond.fieldLink RX6 56 "YarncourtModel" "knitters" "[I") (List.mem_of_getElem? (i := 4) rfl)) (fun _ h9 => h9) rfl dX6_knitsRow_21 ?_
  refine lv_iload_n hx hb dX6_knitsRow_24 rfl (lv_at hl 3 rfl) ?_
  refine kn_iald (G := G) (n := 12) (g := S.1 20) (j := j) hx hb hK hV 16 rfl (by omega) (by decide) dX6_knitsRow_25 ?_
  refine kn_ne (tgt := 43) hx hb (by omega) (by omega) dX6_knitsRow_26 (by decide) (fun c26 => ?_) (fun c26 => ?_)
  · refine lv_iconst (v := nI 0) hx hb dX6_knitsRow_43 (by decide) ?_
    have hc : ¬ knitCan S j := fun z => c26 z.1
    exact W.zret (v := nI 0) hx hb hrt (by decide) (fun t ht hW => ⟨⟨_, (rl, rw), rfl, by rw [kb_f hc], kV_eq ht (by rw [kif_f hc]; exact hV)⟩, hS.F ht⟩) hS.2.2 dX6_knitsRow_44
  · refine lv_aload_n hx hb dX6_knitsRow_29 rfl (lv_at hl 2 rfl) ?_
    refine va_get (D := kD G) (ci := 7) (v := .ref (ad 23)) (C := RX6) (T := TX6) (N := 26) hx hb hts hinX6 hown hK hV.1 0 rfl rfl 23 (by decide) (hts (Cond.fieldLink RX6 65 "YarncourtModel" "done" "[I") (List.mem_of_getElem? (i := 5) rfl)) (fun _ h9 => h9) rfl dX6_knitsRow_30 ?_
    refine lv_iload_n hx hb dX6_knitsRow_33 rfl (lv_at hl 3 rfl) ?_
    refine kn_iald (G := G) (n := 12) (g := S.1 23) (j := j) hx hb hK hV 19 rfl (by omega) (by decide) dX6_knitsRow_34 ?_
    refine lv_aload_n hx hb dX6_knitsRow_35 rfl (lv_at hl 2 rfl) ?_
    refine lv_iload_n hx hb dX6_knitsRow_36 rfl (lv_at hl 1 rfl) ?_
    refine kc_i (va_runV (As := [.int (nI (S.1 21 j))]) (rest := [.int (nI (S.1 23 j))]) hF (c_X6_rowsOf l G h ad rf rl rw S wr (S.1 21 j) (by omega) (by omega)) (cwV 1 hts gX6_knitsRow_X6_rowsOf rfl rfl rfl (by decide +kernel) ⟨Nat.le_of_ble_eq_true rfl, Nat.le_of_ble_eq_true rfl⟩) (kPreV hE hS hV 0 rfl rfl) rfl rfl hl.1 rfl (lv_room (Nat.le_of_ble_eq_true rfl)) dX6_knitsRow_37 ⟨Nat.le_of_ble_eq_true rfl, Nat.le_of_ble_eq_true rfl⟩) hS (fun r_3 u_2 H locs hp_1 hV hS => ?_)
    subst hp_1
    have hV : kV G (kM G h ad rf rl rw S ++ wr) H := hV
    refine kn_ne (tgt := 45) hx hb (by omega) (by omega) dX6_knitsRow_40 (by decide) (fun c40 => ?_) (fun c40 => ?_)
    · refine lv_aload_n hx hb dX6_knitsRow_45 rfl (lv_at hl 2 rfl) ?_
      refine lv_iload_n hx hb dX6_knitsRow_46 rfl (lv_at hl 1 rfl) ?_
      refine lv_aload_n hx hb dX6_knitsRow_47 rfl (lv_at hl 2 rfl) ?_
      refine va_get (D := kD G) (ci := 7) (v := .ref (ad 23)) (C := RX6) (T := TX6) (N := 26) hx hb hts hinX6 hown hK hV.1 0 rfl rfl 23 (by decide) (hts (Cond.fieldLink RX6 65 "YarncourtModel" "done" "[I") (List.mem_of_getElem? (i := 5) rfl)) (fun _ h9 => h9) rfl dX6_knitsRow_48 ?_
      refine lv_iload_n hx hb dX6_knitsRow_51 rfl (lv_at hl 3 rfl) ?_
      refine kn_iald (G := G) (n := 12) (g := S.1 23) (j := j) hx hb hK hV 19 rfl (by omega) (by decide) dX6_knitsRow_52 ?_
      refine lv_aload_n hx hb dX6_knitsRow_53 rfl (lv_at hl 2 rfl) ?_
      refine va_get (D := kD G) (ci := 7) (v := .ref (ad 17)) (C := RX6) (T := TX6) (N := 26) hx hb hts hinX6 hown hK hV.1 0 rfl rfl 17 (by decide) (hts (Cond.fieldLink RX6 50 "YarncourtModel" "gauges" "[I") (List.mem_of_getElem? (i := 6) rfl)) (fun _ h9 => h9) rfl dX6_knitsRow_54 ?_
      refine lv_iload_n hx hb dX6_knitsRow_57 rfl (lv_at hl 0 rfl) ?_
      refine kn_iald (G := G) (n := 20) (g := S.1 17) (j := S.1 22 j) hx hb hK hV 14 rfl (by omega) (by decide) dX6_knitsRow_58 ?_
      refine kc_i (va_runV (As := [.int (nI (S.1 21 j)), .int (nI (S.1 23 j)), .int (nI (S.1 17 (S.1 22 j)))]) (rest := []) hF (c_X6_rowNeed l G h ad rf rl rw S wr (S.1 21 j) (S.1 23 j) (S.1 17 (S.1 22 j)) (by omega) (by omega) (by omega)) (cwV 3 hts gX6_knitsRow_X6_rowNeed rfl rfl rfl (by decide +kernel) ⟨Nat.le_of_ble_eq_true rfl, Nat.le_of_ble_eq_true rfl⟩) (kPreV hE hS hV 0 rfl rfl) rfl rfl hl.1 rfl (lv_room (Nat.le_of_ble_eq_true rfl)) dX6_knitsRow_59 ⟨Nat.le_of_ble_eq_true rfl, Nat.le_of_ble_eq_true rfl⟩) hS (fun r_6 u_5 H locs hp_4 hV hS => ?_)
      subst hp_4
      have hV : kV G (kM G h ad rf (pL S (S.1 21 j) (S.1 23 j)) (pW S (S.1 21 j) (S.1 23 j)) S ++ wr) H := hV
      refine lv_istore (lv' := [(4, .int (nI ((S.1 17 (S.1 22 j)) * pYn S (S.1 21 j) (S.1 23 j)))), (3, .int (nI (S.1 22 j))), (2, .int (nI (S.1 21 j))), (0, .ref (h)), (1, .int (nI (j)))]) hx hb dX6_knitsRow_62 hl (by decide) rfl (fun ls hl => ?_)
      have hyn := pYn_le hokj (show S.1 23 j < pRows S (S.1 21 j) by omega)
      have hmu := Nat.mul_le_mul jl3 hyn
      refine lv_iload hx hb dX6_knitsRow_64 (lv_at hl 0 rfl) ?_
      refine lv_aload_n hx hb dX6_knitsRow_66 rfl (lv_at hl 3 rfl) ?_
      refine va_get (D := kD G) (ci := 7) (v := .ref (ad 18)) (C := RX6) (T := TX6) (N := 26) hx hb hts hinX6 hown hK hV.1 0 rfl rfl 18 (by decide) (hts (Cond.fieldLink RX6 53 "YarncourtModel" "yarns" "[I") (List.mem_of_getElem? (i := 7) rfl)) (fun _ h9 => h9) rfl dX6_knitsRow_67 ?_
      refine lv_iload_n hx hb dX6_knitsRow_70 rfl (lv_at hl 1 rfl) ?_
      refine kn_iald (G := G) (n := 20) (g := S.1 18) (j := S.1 22 j) hx hb hK hV 15 rfl (by omega) (by decide) dX6_knitsRow_71 ?_
      refine kn_gt (tgt := 79) hx hb (by omega) (by omega) dX6_knitsRow_72 (by decide) (fun c72 => ?_) (fun c72 => ?_)
      · refine lv_iconst (v := nI 0) hx hb dX6_knitsRow_79 (by decide) ?_
        refine lv_istore (lv' := [(5, .int (nI (0))), (4, .int (nI ((S.1 17 (S.1 22 j)) * pYn S (S.1 21 j) (S.1 23 j)))), (3, .int (nI (S.1 22 j))), (2, .int (nI (S.1 21 j))), (0, .ref (h)), (1, .int (nI (j)))]) hx hb dX6_knitsRow_80 hl (by decide) rfl (fun ls hl => ?_)
        refine lv_aload_n hx hb dX6_knitsRow_82 rfl (lv_at hl 4 rfl) ?_
        refine va_get (D := kD G) (ci := 7) (v := .ref (ad 18)) (C := RX6) (T := TX6) (N := 26) hx hb hts hinX6 hown hK hV.1 0 rfl rfl 18 (by decide) (hts (Cond.fieldLink RX6 53 "YarncourtModel" "yarns" "[I") (List.mem_of_getElem? (i := 7) rfl)) (fun _ h9 => h9) rfl dX6_knitsRow_83 ?_
        refine lv_iload_n hx hb dX6_knitsRow_86 rfl (lv_at hl 2 rfl) ?_
        refine lv_dup2_11 hx hb dX6_knitsRow_87 rfl rfl ?_
        refine kn_iald (G := G) (n := 20) (g := S.1 18) (j := S.1 22 j) hx hb hK hV 15 rfl (by omega) (by decide) dX6_knitsRow_88 ?_
        refine lv_iload hx hb dX6_knitsRow_89 (lv_at hl 0 rfl) ?_
        refine kn_if_eq_lit (tgt := 99) hx hb (by decide) dX6_knitsRow_91 (by decide) ?_
        refine lv_iconst (v := nI 0) hx hb dX6_knitsRow_99 (by decide) ?_
        refine kn_sub hx hb (by omega) dX6_knitsRow_100 ?_
        refine kn_iast (G := G) (n := 20) (g := S.1 18) (j := S.1 22 j) (v := (S.1 18 (S.1 22 j)) - 0) hx hb hK hV hS 15 rfl (by omega) (by decide) dX6_knitsRow_101 (fun H locs hV hS => ?_)
        have hV : kV G (kM G h ad rf (pL S (S.1 21 j) (S.1 23 j)) (pW S (S.1 21 j) (S.1 23 j)) (st S 18 (S.1 22 j) ((S.1 18 (S.1 22 j)) - 0)) ++ wr) H := hV
        refine lv_aload_n hx hb dX6_knitsRow_102 rfl (lv_at hl 4 rfl) ?_
        refine va_get (D := kD G) (ci := 7) (v := .ref (ad 23)) (C := RX6) (T := TX6) (N := 26) hx hb hts hinX6 hown hK hV.1 0 rfl rfl 23 (by decide) (hts (Cond.fieldLink RX6 65 "YarncourtModel" "done" "[I") (List.mem_of_getElem? (i := 5) rfl)) (fun _ h9 => h9) rfl dX6_knitsRow_103 ?_
        refine lv_iload_n hx hb dX6_knitsRow_106 rfl (lv_at hl 5 rfl) ?_
        refine lv_dup2_11 hx hb dX6_knitsRow_107 rfl rfl ?_
        refine kn_iald (G := G) (n := 12) (g := (st S 18 (S.1 22 j) ((S.1 18 (S.1 22 j)) - 0)).1 23) (j := j) hx hb hK hV 19 rfl (by omega) (by decide) dX6_knitsRow_108 ?_
        refine W.eq (g2 := F0 m 109 ls [.int (nI (S.1 23 j)), .int (nI (j)), .ref (ad 23)]) rfl ?_
        refine lv_iload hx hb dX6_knitsRow_109 (lv_at hl 0 rfl) ?_
        refine kn_if_eq_lit (tgt := 118) hx hb (by decide) dX6_knitsRow_111 (by decide) ?_
        refine lv_iconst (v := nI 0) hx hb dX6_knitsRow_118 (by decide) ?_
        refine kn_add hx hb dX6_knitsRow_119 ?_
        refine kn_iast (G := G) (n := 12) (g := (st S 18 (S.1 22 j) ((S.1 18 (S.1 22 j)) - 0)).1 23) (j := j) (v := (S.1 23 j) + 0) hx hb hK hV hS 19 rfl (by omega) (by decide) dX6_knitsRow_120 (fun H locs hV hS => ?_)
        have hV : kV G (kM G h ad rf (pL S (S.1 21 j) (S.1 23 j)) (pW S (S.1 21 j) (S.1 23 j)) (st (st S 18 (S.1 22 j) ((S.1 18 (S.1 22 j)) - 0)) 23 j ((S.1 23 j) + 0)) ++ wr) H := hV
        refine lv_iload hx hb dX6_knitsRow_121 (lv_at hl 0 rfl) ?_
        have hc : ¬ knitCan S j := fun z => by have z9 : S.1 17 (S.1 22 j) * pYn S (S.1 21 j) (S.1 23 j) ≤ S.1 18 (S.1 22 j) := z.2.2; omega
        have e9 : st (st S 18 (S.1 22 j) ((S.1 18 (S.1 22 j)) - 0)) 23 j ((S.1 23 j) + 0) = S := by
          rw [Nat.sub_zero, Nat.add_zero, st_same]; exact st_same S 23 j
        exact W.zret (v := nI 0) hx hb hrt (by decide) (fun t ht hW => ⟨⟨_, (pL S (S.1 21 j) (S.1 23 j), pW S (S.1 21 j) (S.1 23 j)), rfl, by rw [kb_f hc], kV_eq ht (by rw [kif_f hc]; rw [e9] at hV; exact hV)⟩, hS.F ht⟩) hS.2.2 dX6_knitsRow_123
      · refine lv_iconst (v := nI 1) hx hb dX6_knitsRow_75 (by decide) ?_
        refine lv_goto (tgt := 80) hx hb dX6_knitsRow_76 (by decide) ?_
        refine lv_istore (lv' := [(5, .int (nI (1))), (4, .int (nI ((S.1 17 (S.1 22 j)) * pYn S (S.1 21 j) (S.1 23 j)))), (3, .int (nI (S.1 22 j))), (2, .int (nI (S.1 21 j))), (0, .ref (h)), (1, .int (nI (j)))]) hx hb dX6_knitsRow_80 hl (by decide) rfl (fun ls hl => ?_)
        refine lv_aload_n hx hb dX6_knitsRow_82 rfl (lv_at hl 4 rfl) ?_
        refine va_get (D := kD G) (ci := 7) (v := .ref (ad 18)) (C := RX6) (T := TX6) (N := 26) hx hb hts hinX6 hown hK hV.1 0 rfl rfl 18 (by decide) (hts (Cond.fieldLink RX6 53 "YarncourtModel" "yarns" "[I") (List.mem_of_getElem? (i := 7) rfl)) (fun _ h9 => h9) rfl dX6_knitsRow_83 ?_
        refine lv_iload_n hx hb dX6_knitsRow_86 rfl (lv_at hl 2 rfl) ?_
        refine lv_dup2_11 hx hb dX6_knitsRow_87 rfl rfl ?_
        refine kn_iald (G := G) (n := 20) (g := S.1 18) (j := S.1 22 j) hx hb hK hV 15 rfl (by omega) (by decide) dX6_knitsRow_88 ?_
        refine lv_iload hx hb dX6_knitsRow_89 (lv_at hl 0 rfl) ?_
        refine kn_if_eq_not hx hb (by decide) dX6_knitsRow_91 ?_ 99 (by decide)
        refine lv_iload hx hb dX6_knitsRow_94 (lv_at hl 1 rfl) ?_
        refine lv_goto (tgt := 100) hx hb dX6_knitsRow_96 (by decide) ?_
        refine kn_sub hx hb (by omega) dX6_knitsRow_100 ?_
        refine kn_iast (G := G) (n := 20) (g := S.1 18) (j := S.1 22 j) (v := (S.1 18 (S.1 22 j)) - ((S.1 17 (S.1 22 j)) * pYn S (S.1 21 j) (S.1 23 j))) hx hb hK hV hS 15 rfl (by omega) (by decide) dX6_knitsRow_101 (fun H locs hV hS => ?_)
        have hV : kV G (kM G h ad rf (pL S (S.1 21 j) (S.1 23 j)) (pW S (S.1 21 j) (S.1 23 j)) (st S 18 (S.1 22 j) ((S.1 18 (S.1 22 j)) - ((S.1 17 (S.1 22 j)) * pYn S (S.1 21 j) (S.1 23 j)))) ++ wr) H := hV
        refine lv_aload_n hx hb dX6_knitsRow_102 rfl (lv_at hl 4 rfl) ?_
        refine va_get (D := kD G) (ci := 7) (v := .ref (ad 23)) (C := RX6) (T := TX6) (N := 26) hx hb hts hinX6 hown hK hV.1 0 rfl rfl 23 (by decide) (hts (Cond.fieldLink RX6 65 "YarncourtModel" "done" "[I") (List.mem_of_getElem? (i := 5) rfl)) (fun _ h9 => h9) rfl dX6_knitsRow_103 ?_
        refine lv_iload_n hx hb dX6_knitsRow_106 rfl (lv_at hl 5 rfl) ?_
        refine lv_dup2_11 hx hb dX6_knitsRow_107 rfl rfl ?_
        refine kn_iald (G := G) (n := 12) (g := (st S 18 (S.1 22 j) ((S.1 18 (S.1 22 j)) - ((S.1 17 (S.1 22 j)) * pYn S (S.1 21 j) (S.1 23 j)))).1 23) (j := j) hx hb hK hV 19 rfl (by omega) (by decide) dX6_knitsRow_108 ?_
        refine W.eq (g2 := F0 m 109 ls [.int (nI (S.1 23 j)), .int (nI (j)), .ref (ad 23)]) rfl ?_
        refine lv_iload hx hb dX6_knitsRow_109 (lv_at hl 0 rfl) ?_
        refine kn_if_eq_not hx hb (by decide) dX6_knitsRow_111 ?_ 118 (by decide)
        refine lv_iconst (v := nI 1) hx hb dX6_knitsRow_114 (by decide) ?_
        refine lv_goto (tgt := 119) hx hb dX6_knitsRow_115 (by decide) ?_
        refine kn_add hx hb dX6_knitsRow_119 ?_
        refine kn_iast (G := G) (n := 12) (g := (st S 18 (S.1 22 j) ((S.1 18 (S.1 22 j)) - ((S.1 17 (S.1 22 j)) * pYn S (S.1 21 j) (S.1 23 j)))).1 23) (j := j) (v := (S.1 23 j) + 1) hx hb hK hV hS 19 rfl (by omega) (by decide) dX6_knitsRow_120 (fun H locs hV hS => ?_)
        have hV : kV G (kM G h ad rf (pL S (S.1 21 j) (S.1 23 j)) (pW S (S.1 21 j) (S.1 23 j)) (st (st S 18 (S.1 22 j) ((S.1 18 (S.1 22 j)) - ((S.1 17 (S.1 22 j)) * pYn S (S.1 21 j) (S.1 23 j)))) 23 j ((S.1 23 j) + 1)) ++ wr) H := hV
        refine lv_iload hx hb dX6_knitsRow_121 (lv_at hl 0 rfl) ?_
        have hc : knitCan S j := ⟨c26, c40, c72⟩
        exact W.zret (v := nI 1) hx hb hrt (by decide) (fun t ht hW => ⟨⟨_, (pL S (S.1 21 j) (S.1 23 j), pW S (S.1 21 j) (S.1 23 j)), rfl, by rw [kb_t hc], kV_eq ht (by rw [kif_t hc]; exact hV)⟩, hS.F ht⟩) hS.2.2 dX6_knitsRow_123
    · refine lv_iconst (v := nI 0) hx hb dX6_knitsRow_43 (by decide) ?_
      have hc : ¬ knitCan S j := fun z => z.2.1 c40
      exact W.zret (v := nI 0) hx hb hrt (by decide) (fun t ht hW => ⟨⟨_, (rl, rw), rfl, by rw [kb_f hc], kV_eq ht (by rw [kif_f hc]; exact hV)⟩, hS.F ht⟩) hS.2.2 dX6_knitsRow_44
set_option maxHeartbeats 4000000 in
set_option maxRecDepth 100000 in
theorem c_X6_knit (l : Launch) (G : kG) (h : Nat) (ad : Nat → Nat) (rf : Nat) (rl : Nat) (rw : Nat) (S : kS) (wr : va_W) (j : Int32) (n : Int32) (hI : kInv S) : Met l yX6_knit wsX6_knit ({ frames := 3, cells := 0, slots := 0, locals := 75 } : Room) (kPc G [.ref (h), .int (j), .int (n)] (kM G h ad rf rl rw S ++ wr)) (kQi G (S := Nat × Nat) (fun q _ => q = (opKnit S j n).2.1) (fun uu => kM G h ad ((opKnit S j n).1) uu.1 uu.2 ((opKnit S j n).2.2) ++ wr)) 0 0 (kA G) := by
  refine Met.ofW (cc := cX6_knit) (maxL := 4) (ret := (some .int)) (by decide) rfl ?_
  intro pp ee s m args below meth cc0 s₁ B hml hv
  obtain ⟨rfl, hE, hV⟩ := hv
  have hK := hE.1
  have hx := B.exec
  have hb := B.bytes
  have hrt := B.returns
  have hts := atoms_spec (ws := wsX6_knit) B.pre
  have hown : s.vm.findClass RX6 = some m.cls := findClass_of_methodNamed B.named
  have hlocks := B.notSynchronized
  have hF : CallFix pp m cc0 cX6_knit 4 s _ wsX6_knit RX6 := ⟨hx, hb, hml, hown, hts⟩
  have hS : va_S (kA G) s.heap s.heap [] := va_S.rf
  have hB0 := hE.2.1
  have hl := lv_entry ([.ref (h), .int (j), .int (n)]) (n := 4) (Nat.le_of_ble_eq_true rfl)
  rw [lg_entry_eq]
  generalize (lg_sl ([.ref (h), .int (j), .int (n)]) ++ List.replicate (4 - (lg_sl ([.ref (h), .int (j), .int (n)])).length) Slot.unset).toArray = ls at hl ⊢
  have hl : lv_has ls 4 [(0, .ref (h)), (1, .int (j)), (2, .int (n))] := hl
  obtain ⟨⟨hnp, hnl, hnj, hpu⟩, hIP, hIQ, hIL, hIJ, hIK, hIO⟩ := id hI
  refine lv_aload_n hx hb dX6_knit_0 rfl (lv_at hl 0 rfl) ?_
  refine lv_aload_n hx hb dX6_knit_1 rfl (lv_at hl 0 rfl) ?_
  refine lv_iload_n hx hb dX6_knit_2 rfl (lv_at hl 1 rfl) ?_
  refine kc_i (va_runV (As := [.int (j)]) (rest := [.ref (h)]) hF (c_X6_isProject l G h ad rf rl rw S wr j (by omega)) (cwV 1 hts gX6_knit_X6_isProject rfl rfl rfl (by decide +kernel) ⟨Nat.le_of_ble_eq_true rfl, Nat.le_of_ble_eq_true rfl⟩) (kPreV hE hS hV 0 rfl rfl) rfl rfl hl.1 rfl (lv_room (Nat.le_of_ble_eq_true rfl)) dX6_knit_3 ⟨Nat.le_of_ble_eq_true rfl, Nat.le_of_ble_eq_true rfl⟩) hS (fun r_3 u_2 H locs hp_1 hV hS => ?_)
  subst hp_1
  have hV : kV G (kM G h ad rf rl rw S ++ wr) H := hV
  refine kb_if_ne (tgt := 13) hx hb dX6_knit_6 (by decide) (fun c6 => ?_) (fun c6 => ?_)
  · refine lv_iload_n hx hb dX6_knit_13 rfl (lv_at hl 2 rfl) ?_
    refine lv_iconst (v := nI 1) hx hb dX6_knit_14 (by decide) ?_
    refine lv_bipush (v := nI 40) hx hb dX6_knit_15 (by decide) ?_
    refine kc_i (va_runS (As := [.int (n), .int (nI (1)), .int (nI (40))]) (rest := [.ref (h)]) hF (c_X6_in l G n (nI 1) (nI 40) (kM G h ad rf rl rw S ++ wr)) (va_cwS 3 hts gX6_knit_X6_in rfl rfl rfl (by decide +kernel) ⟨Nat.le_of_ble_eq_true rfl, Nat.le_of_ble_eq_true rfl⟩) (kPreS hE hS hV) rfl rfl hl.1 rfl (lv_room (Nat.le_of_ble_eq_true rfl)) dX6_knit_17 ⟨Nat.le_of_ble_eq_true rfl, Nat.le_of_ble_eq_true rfl⟩) hS (fun r_6 u_5 H locs hp_4 hV hS => ?_)
    subst hp_4
    have hV : kV G (kM G h ad rf rl rw S ++ wr) H := hV
    refine kb_if_eq (tgt := 27) hx hb dX6_knit_20 (by decide) (fun c20 => ?_) (fun c20 => ?_)
    · refine lv_iconst (v := nI 2) hx hb dX6_knit_27 (by decide) ?_
      refine kc_i (va_runV (As := [.int (nI (2))]) (rest := []) hF (c_X6_refused l G h ad rf rl rw S wr 2 (by omega)) (cwV 1 hts gX6_knit_X6_refused rfl rfl rfl (by decide +kernel) ⟨Nat.le_of_ble_eq_true rfl, Nat.le_of_ble_eq_true rfl⟩) (kPreV hE hS hV 0 rfl rfl) rfl rfl hl.1 rfl (lv_room (Nat.le_of_ble_eq_true rfl)) dX6_knit_28 ⟨Nat.le_of_ble_eq_true rfl, Nat.le_of_ble_eq_true rfl⟩) hS (fun r_9 u_8 H locs hp_7 hV hS => ?_)
      subst hp_7
      refine W.eq (g2 := F0 m 31 ls [.int (nI (1))]) (by rw [kb_t (by decide)]) ?_
      have hV : kV G (kM G h ad 2 rl rw S ++ wr) H := hV
      refine kn_if_eq_not hx hb (by decide) dX6_knit_31 ?_ 36 (by decide)
      refine lv_iconst (v := nI 0) hx hb dX6_knit_34 (by decide) ?_
      have hop : opKnit S j n = (2, nI 0, S) := by
        unfold opKnit
        rw [kif_f (fun z => z c6), kif_t c20] <;> rfl
      exact W.iret (v := nI 0) hx hb hrt (fun t ht hW => ⟨⟨_, (rl, rw), rfl, by rw [hop], kV_eq ht (by rw [hop]; exact hV)⟩, hS.F ht⟩) hS.2.2 dX6_knit_35
    · refine lv_iconst (v := nI 0) hx hb dX6_knit_23 (by decide) ?_
      refine lv_goto (tgt := 28) hx hb dX6_knit_24 (by decide) ?_
      refine kc_i (va_runV (As := [.int (nI (0))]) (rest := []) hF (c_X6_refused l G h ad rf rl rw S wr 0 (by omega)) (cwV 1 hts gX6_knit_X6_refused rfl rfl rfl (by decide +kernel) ⟨Nat.le_of_ble_eq_true rfl, Nat.le_of_ble_eq_true rfl⟩) (kPreV hE hS hV 0 rfl rfl) rfl rfl hl.1 rfl (lv_room (Nat.le_of_ble_eq_true rfl)) dX6_knit_28 ⟨Nat.le_of_ble_eq_true rfl, Nat.le_of_ble_eq_true rfl⟩) hS (fun r_12 u_11 H locs hp_10 hV hS => ?_)
      subst hp_10
      refine W.eq (g2 := F0 m 31 ls [.int (nI (0))]) (by rw [kb_f (by decide)]) ?_
      have hV : kV G (kM G h ad 0 rl rw S ++ wr) H := hV
      refine kn_if_eq_lit (tgt := 36) hx hb (by decide) dX6_knit_31 (by decide) ?_
      obtain ⟨jj, hjj, rfl⟩ := id c6
      obtain ⟨jn, hjn1, hjn2, rfl⟩ := rng_nI c20 (by decide) (by decide)
      have tjj : tn (nI jj) = jj := tn_nI (by omega)
      refine lv_iconst (v := nI 0) hx hb dX6_knit_36 (by decide) ?_
      refine lv_istore_n (lv' := [(3, .int (nI (0))), (0, .ref (h)), (1, .int (nI (jj))), (2, .int (nI (jn)))]) hx hb dX6_knit_37 rfl hl (by decide) rfl (fun ls hl => ?_)
      have L38 : ∀ (nL38 : Nat) (i : Nat) (T : kS) (rl1 : Nat) (rw1 : Nat) (hi : i ≤ jn) (hT : kInv T) (hTj : jj < T.1 19 0) (hN : (knitN T jj (jn - i)).1 + i = (knitN S jj jn).1 ∧ (knitN T jj (jn - i)).2 = (knitN S jj jn).2) (hmL38 : jn - i < nL38) (H : Heap) (locs : List Loc), kV G (kM G h ad 0 rl1 rw1 T ++ wr) H → va_S (kA G) s.heap H locs → ∀ (ls : Array Slot), lv_has ls 4 [(0, .ref (h)), (1, .int (nI (jj))), (2, .int (nI (jn))), (3, .int (nI (i)))] → W pp l ee (headSpec wsX6_knit ({ frames := 3, cells := 0, slots := 0, locals := 75 } : Room)).room s m [.ref (h), .int (nI (jj)), .int (nI (jn))].toArray below meth cc0 H locs 0 0 (MQ below (kQi G (S := Nat × Nat) (fun q _ => q = (opKnit S (nI jj) (nI jn)).2.1) (fun uu => kM G h ad ((opKnit S (nI jj) (nI jn)).1) uu.1 uu.2 ((opKnit S (nI jj) (nI jn)).2.2) ++ wr)) [.ref (h), .int (nI (jj)), .int (nI (jn))].toArray s 0 0 (kA G)) (F0 m 38 ls []) := by
        intro nL38
        induction nL38 with
        | zero => intro i T rl1 rw1 hi hT hTj hN hmL38; exact absurd hmL38 (Nat.not_lt_zero _)
        | succ nL38 ihL38 =>
          intro i T rl1 rw1 hi hT hTj hN hmL38 H locs hV hS ls hl
          refine lv_iload_n hx hb dX6_knit_38 rfl (lv_at hl 3 rfl) ?_
          refine lv_iload_n hx hb dX6_knit_39 rfl (lv_at hl 2 rfl) ?_
          refine kn_ge (tgt := 57) hx hb (by omega) (by omega) dX6_knit_40 (by decide) (fun c40 => ?_) (fun c40 => ?_)
          · refine lv_iload_n hx hb dX6_knit_57 rfl (lv_at hl 3 rfl) ?_
            have hN2 := hN
            rw [show jn - i = 0 from by omega] at hN2
            obtain ⟨hN3, hN4⟩ := hN2
            have hN3 : 0 + i = (knitN S jj jn).1 := hN3
            have hN4 : T = (knitN S jj jn).2 := hN4
            have hop : opKnit S (nI jj) (nI jn) = (0, nI i, T) := by
              unfold opKnit
              rw [kif_f (fun z => z (isIn_nI hjj)), kif_f (fun z => z c20), tjj, tn_nI (j := jn) (by omega), ← hN3, ← hN4, Nat.zero_add] <;> rfl
            exact W.iret (v := nI i) hx hb hrt (fun t ht hW => ⟨⟨_, (rl1, rw1), rfl, by rw [hop], kV_eq ht (by rw [hop]; exact hV)⟩, hS.F ht⟩) hS.2.2 dX6_knit_58
          · refine lv_aload_n hx hb dX6_knit_43 rfl (lv_at hl 0 rfl) ?_
            refine lv_iload_n hx hb dX6_knit_44 rfl (lv_at hl 1 rfl) ?_
            refine kc_i (va_runV (As := [.int (nI (jj))]) (rest := []) hF (c_X6_knitsRow l G h ad 0 rl1 rw1 T wr jj (by omega) (by omega)) (cwV 1 hts gX6_knit_X6_knitsRow rfl rfl rfl (by decide +kernel) ⟨Nat.le_of_ble_eq_true rfl, Nat.le_of_ble_eq_true rfl⟩) (kPreV hE hS hV 0 rfl rfl) rfl rfl hl.1 rfl (lv_room (Nat.le_of_ble_eq_true rfl)) dX6_knit_45 ⟨Nat.le_of_ble_eq_true rfl, Nat.le_of_ble_eq_true rfl⟩) hS (fun r_15 u_14 H locs hp_13 hV hS => ?_)
            subst hp_13
            have hV : kV G (kM G h ad 0 u_14.1 u_14.2 (kif (knitCan T jj) (knit1 T jj) T) ++ wr) H := hV
            refine kb_if_eq (tgt := 57) hx hb dX6_knit_48 (by decide) (fun c48 => ?_) (fun c48 => ?_)
            · refine lv_iload_n hx hb dX6_knit_57 rfl (lv_at hl 3 rfl) ?_
              rw [kif_f c48] at hV
              have hN2 := hN
              rcases Nat.exists_eq_succ_of_ne_zero (show jn - i ≠ 0 by omega) with ⟨w9, hw9⟩
              rw [hw9] at hN2
              rw [knitN_s] at hN2
              rw [kif_f c48] at hN2
              obtain ⟨hN3, hN4⟩ := hN2
              dsimp only at hN3 hN4
              have hop : opKnit S (nI jj) (nI jn) = (0, nI i, T) := by
                unfold opKnit
                rw [kif_f (fun z => z (isIn_nI hjj)), kif_f (fun z => z c20), tjj, tn_nI (j := jn) (by omega), ← hN3, ← hN4, Nat.zero_add] <;> rfl
              exact W.iret (v := nI i) hx hb hrt (fun t ht hW => ⟨⟨_, (u_14.1, u_14.2), rfl, by rw [hop], kV_eq ht (by rw [hop]; exact hV)⟩, hS.F ht⟩) hS.2.2 dX6_knit_58
            · refine lv_iinc (lv' := [(3, .int (nI (i + 1))), (0, .ref (h)), (1, .int (nI (jj))), (2, .int (nI (jn)))]) hx hb dX6_knit_51 hl (k := 3) rfl (kn_iinc i 1) (by decide) rfl (fun ls hl => ?_)
              refine lv_goto (tgt := 38) hx hb dX6_knit_54 (by decide) ?_
              rw [kif_t c48] at hV
              have e1 : jn - i = (jn - (i + 1)) + 1 := by omega
              have hN2 := hN
              rw [e1] at hN2
              rw [knitN_s] at hN2
              rw [kif_t c48] at hN2
              exact ihL38 (i + 1) (knit1 T jj) u_14.1 u_14.2 (by omega) (kInv_knit1 hT hTj c48) hTj ⟨by have := hN2.1; dsimp only at this; omega, hN2.2⟩ (by omega) _ _ hV hS ls (lv_sub hl [1, 2, 3, 0] rfl)
      have eT : S = S := rfl
      exact L38 ((jn - 0) + 1) 0 S rl rw (by omega) hI hjj ⟨by rw [Nat.sub_zero]; rfl, by rw [Nat.sub_zero]⟩ (Nat.lt_succ_self _) _ _ hV hS ls (lv_sub hl [1, 2, 3, 0] rfl)
  · refine lv_iconst (v := nI 1) hx hb dX6_knit_9 (by decide) ?_
    refine lv_goto (tgt := 28) hx hb dX6_knit_10 (by decide) ?_
    refine kc_i (va_runV (As := [.int (nI (1))]) (rest := []) hF (c_X6_refused l G h ad rf rl rw S wr 1 (by omega)) (cwV 1 hts gX6_knit_X6_refused rfl rfl rfl (by decide +kernel) ⟨Nat.le_of_ble_eq_true rfl, Nat.le_of_ble_eq_true rfl⟩) (kPreV hE hS hV 0 rfl rfl) rfl rfl hl.1 rfl (lv_room (Nat.le_of_ble_eq_true rfl)) dX6_knit_28 ⟨Nat.le_of_ble_eq_true rfl, Nat.le_of_ble_eq_true rfl⟩) hS (fun r_18 u_17 H locs hp_16 hV hS => ?_)
    subst hp_16
    refine W.eq (g2 := F0 m 31 ls [.int (nI (1))]) (by rw [kb_t (by decide)]) ?_
    have hV : kV G (kM G h ad 1 rl rw S ++ wr) H := hV
    refine kn_if_eq_not hx hb (by decide) dX6_knit_31 ?_ 36 (by decide)
    refine lv_iconst (v := nI 0) hx hb dX6_knit_34 (by decide) ?_
    have hop : opKnit S j n = (1, nI 0, S) := by
      unfold opKnit
      rw [kif_t c6] <;> rfl
    exact W.iret (v := nI 0) hx hb hrt (fun t ht hW => ⟨⟨_, (rl, rw), rfl, by rw [hop], kV_eq ht (by rw [hop]; exact hV)⟩, hS.F ht⟩) hS.2.2 dX6_knit_35
set_option maxHeartbeats 4000000 in
set_option maxRecDepth 100000 in
theorem c_X6_init (l : Launch) (G : kG) (h : Nat) (wr : va_W) : Met l yX6_init wsX6_init ({ frames := 1, cells := 19, slots := 609, locals := 20 } : Room) (kPc G [.ref (h)] ([(h, .inr (7, [.int (nI (0)), .int (nI (0)), .null, .null, .null, .null, .null, .null, .null, .null, .null, .int (nI (0)), .null, .null, .null, .int (nI (0)), .null, .null, .null, .int (nI (0)), .null, .null, .null, .null, .int (nI (0)), .int (nI (0))]))] ++ wr)) (kQv G (S := Nat → Nat) (fun _ => True) (fun uu => kM G h uu 0 0 0 S0 ++ wr)) 19 609 (kA G) := by
  refine Met.ofW (cc := cX6_init) (maxL := 1) (ret := none) (by decide) rfl ?_
  intro pp ee s m args below meth cc0 s₁ B hml hv
  obtain ⟨rfl, hE, hV⟩ := hv
  have hK := hE.1
  have hx := B.exec
  have hb := B.bytes
  have hrt := B.returns
  have hts := atoms_spec (ws := wsX6_init) B.pre
  have hown : s.vm.findClass RX6 = some m.cls := findClass_of_methodNamed B.named
  have hlocks := B.notSynchronized
  have hin0 : meth.name = "<init>" := (name_of_methodNamed B.named B.method).1
  have hF : CallFix pp m cc0 cX6_init 1 s _ wsX6_init RX6 := ⟨hx, hb, hml, hown, hts⟩
  have hinX6 : ∀ w ∈ wsX60, w ∈ wsX6_init := tb_of [25, 26, 27, 28, 29, 30, 31, 32, 33, 34, 35, 36, 37, 38, 39, 40, 41, 42, 43, 44, 45, 46, 47, 48, 49, 50] rfl
  have hS : va_S (kA G) s.heap s.heap [] := va_S.rf
  have hB0 := hE.2.1
  have hl := lv_entry ([.ref (h)]) (n := 1) (Nat.le_of_ble_eq_true rfl)
  rw [lg_entry_eq]
  generalize (lg_sl ([.ref (h)]) ++ List.replicate (1 - (lg_sl ([.ref (h)])).length) Slot.unset).toArray = ls at hl ⊢
  have hl : lv_has ls 1 [(0, .ref (h))] := hl
  refine lv_aload_n hx hb dX6_init_0 rfl (lv_at hl 0 rfl) ?_
  refine W.objInit hx hb hown (hts (Cond.methodLink RX6 1 objectInit) (List.mem_of_getElem? (i := 1) rfl)) (hts (Cond.instanceMethod objectInit) (List.mem_of_getElem? (i := 2) rfl)) (hts (Cond.code objectInit ⟨#[0xb1]⟩ 1 none) (List.mem_of_getElem? (i := 3) rfl)) rfl (by rw [hml]; exact hl.1) rfl dX6_init_1 (Nat.le_of_ble_eq_true rfl) (Nat.le_of_ble_eq_true rfl) ?_
  refine W.eq (g2 := F0 m 4 ls []) rfl ?_
  refine lv_aload_n hx hb dX6_init_4 rfl (lv_at hl 0 rfl) ?_
  refine lv_bipush (v := nI 16) hx hb dX6_init_5 (by decide) ?_
  refine kn_newI (G := G) (a := [(h, .inr (7, [.int (nI (0)), .int (nI (0)), .null, .null, .null, .null, .null, .null, .null, .null, .null, .int (nI (0)), .null, .null, .null, .int (nI (0)), .null, .null, .null, .int (nI (0)), .null, .null, .null, .null, .int (nI (0)), .int (nI (0))]))]) (wr := wr) (n := 16) hx hb (hts (Cond.arrayClass .int) (List.mem_of_getElem? (i := 4) rfl)) hK hV hS hB0 (by decide) (Nat.le_of_ble_eq_true rfl) (Nat.le_of_ble_eq_true rfl) dX6_init_7 (fun q_1 H hV hS => ?_)
  have hV : kV G ([(h, .inr (7, [.int (nI (0)), .int (nI (0)), .null, .null, .null, .null, .null, .null, .null, .null, .null, .int (nI (0)), .null, .null, .null, .int (nI (0)), .null, .null, .null, .int (nI (0)), .null, .null, .null, .null, .int (nI (0)), .int (nI (0))])), (q_1, aN (kcI G) 16 ((fun _ => 0)))] ++ wr) H := hV
  refine va_putF (D := kD G) (ci := 7) (v := .ref (q_1)) (ty := (.array .int)) (C := RX6) (T := TX6) (N := 26) hx hb hts hinX6 tyX6 tyX6_ok nmX6 hown hK hV.1 hV.2 hS 0 rfl rfl 2 (by decide) (hts (Cond.fieldLink RX6 7 "YarncourtModel" "owners" "[I") (List.mem_of_getElem? (i := 5) rfl)) (fun _ h9 => h9) rfl hin0 rfl (by decide +kernel) rfl rfl (Nat.le_of_ble_eq_true rfl) dX6_init_9 (fun H locs hP hD hS => ?_)
  have hV : kV G ([(h, .inr (7, [.int (nI (0)), .int (nI (0)), .ref (q_1), .null, .null, .null, .null, .null, .null, .null, .null, .int (nI (0)), .null, .null, .null, .int (nI (0)), .null, .null, .null, .int (nI (0)), .null, .null, .null, .null, .int (nI (0)), .int (nI (0))])), (q_1, aN (kcI G) 16 ((fun _ => 0)))] ++ wr) H := ⟨hP, hD⟩
  refine lv_aload_n hx hb dX6_init_12 rfl (lv_at hl 0 rfl) ?_
  refine lv_bipush (v := nI 16) hx hb dX6_init_13 (by decide) ?_
  refine kn_newI (G := G) (a := [(h, .inr (7, [.int (nI (0)), .int (nI (0)), .ref (q_1), .null, .null, .null, .null, .null, .null, .null, .null, .int (nI (0)), .null, .null, .null, .int (nI (0)), .null, .null, .null, .int (nI (0)), .null, .null, .null, .null, .int (nI (0)), .int (nI (0))])), (q_1, aN (kcI G) 16 ((fun _ => 0)))]) (wr := wr) (n := 16) hx hb (hts (Cond.arrayClass .int) (List.mem_of_getElem? (i := 4) rfl)) hK hV hS hB0 (by decide) (Nat.le_of_ble_eq_true rfl) (Nat.le_of_ble_eq_true rfl) dX6_init_15 (fun q_2 H hV hS => ?_)
  have hV : kV G ([(h, .inr (7, [.int (nI (0)), .int (nI (0)), .ref (q_1), .null, .null, .null, .null, .null, .null, .null, .null, .int (nI (0)), .null, .null, .null, .int (nI (0)), .null, .null, .null, .int (nI (0)), .null, .null, .null, .null, .int (nI (0)), .int (nI (0))])), (q_1, aN (kcI G) 16 ((fun _ => 0))), (q_2, aN (kcI G) 16 ((fun _ => 0)))] ++ wr) H := hV
  refine va_putF (D := kD G) (ci := 7) (v := .ref (q_2)) (ty := (.array .int)) (C := RX6) (T := TX6) (N := 26) hx hb hts hinX6 tyX6 tyX6_ok nmX6 hown hK hV.1 hV.2 hS 0 rfl rfl 3 (by decide) (hts (Cond.fieldLink RX6 13 "YarncourtModel" "widths" "[I") (List.mem_of_getElem? (i := 6) rfl)) (fun _ h9 => h9) rfl hin0 rfl (by decide +kernel) rfl rfl (Nat.le_of_ble_eq_true rfl) dX6_init_17 (fun H locs hP hD hS => ?_)
  have hV : kV G ([(h, .inr (7, [.int (nI (0)), .int (nI (0)), .ref (q_1), .ref (q_2), .null, .null, .null, .null, .null, .null, .null, .int (nI (0)), .null, .null, .null, .int (nI (0)), .null, .null, .null, .int (nI (0)), .null, .null, .null, .null, .int (nI (0)), .int (nI (0))])), (q_1, aN (kcI G) 16 ((fun _ => 0))), (q_2, aN (kcI G) 16 ((fun _ => 0)))] ++ wr) H := ⟨hP, hD⟩
  refine lv_aload_n hx hb dX6_init_20 rfl (lv_at hl 0 rfl) ?_
  refine lv_bipush (v := nI 16) hx hb dX6_init_21 (by decide) ?_
  refine kn_newI (G := G) (a := [(h, .inr (7, [.int (nI (0)), .int (nI (0)), .ref (q_1), .ref (q_2), .null, .null, .null, .null, .null, .null, .null, .int (nI (0)), .null, .null, .null, .int (nI (0)), .null, .null, .null, .int (nI (0)), .null, .null, .null, .null, .int (nI (0)), .int (nI (0))])), (q_1, aN (kcI G) 16 ((fun _ => 0))), (q_2, aN (kcI G) 16 ((fun _ => 0)))]) (wr := wr) (n := 16) hx hb (hts (Cond.arrayClass .int) (List.mem_of_getElem? (i := 4) rfl)) hK hV hS hB0 (by decide) (Nat.le_of_ble_eq_true rfl) (Nat.le_of_ble_eq_true rfl) dX6_init_23 (fun q_3 H hV hS => ?_)
  have hV : kV G ([(h, .inr (7, [.int (nI (0)), .int (nI (0)), .ref (q_1), .ref (q_2), .null, .null, .null, .null, .null, .null, .null, .int (nI (0)), .null, .null, .null, .int (nI (0)), .null, .null, .null, .int (nI (0)), .null, .null, .null, .null, .int (nI (0)), .int (nI (0))])), (q_1, aN (kcI G) 16 ((fun _ => 0))), (q_2, aN (kcI G) 16 ((fun _ => 0))), (q_3, aN (kcI G) 16 ((fun _ => 0)))] ++ wr) H := hV
  refine va_putF (D := kD G) (ci := 7) (v := .ref (q_3)) (ty := (.array .int)) (C := RX6) (T := TX6) (N := 26) hx hb hts hinX6 tyX6 tyX6_ok nmX6 hown hK hV.1 hV.2 hS 0 rfl rfl 4 (by decide) (hts (Cond.fieldLink RX6 16 "YarncourtModel" "prices" "[I") (List.mem_of_getElem? (i := 7) rfl)) (fun _ h9 => h9) rfl hin0 rfl (by decide +kernel) rfl rfl (Nat.le_of_ble_eq_true rfl) dX6_init_25 (fun H locs hP hD hS => ?_)
  have hV : kV G ([(h, .inr (7, [.int (nI (0)), .int (nI (0)), .ref (q_1), .ref (q_2), .ref (q_3), .null, .null, .null, .null, .null, .null, .int (nI (0)), .null, .null, .null, .int (nI (0)), .null, .null, .null, .int (nI (0)), .null, .null, .null, .null, .int (nI (0)), .int (nI (0))])), (q_1, aN (kcI G) 16 ((fun _ => 0))), (q_2, aN (kcI G) 16 ((fun _ => 0))), (q_3, aN (kcI G) 16 ((fun _ => 0)))] ++ wr) H := ⟨hP, hD⟩
  refine lv_aload_n hx hb dX6_init_28 rfl (lv_at hl 0 rfl) ?_
  refine lv_bipush (v := nI 16) hx hb dX6_init_29 (by decide) ?_
  refine kn_newI (G := G) (a := [(h, .inr (7, [.int (nI (0)), .int (nI (0)), .ref (q_1), .ref (q_2), .ref (q_3), .null, .null, .null, .null, .null, .null, .int (nI (0)), .null, .null, .null, .int (nI (0)), .null, .null, .null, .int (nI (0)), .null, .null, .null, .null, .int (nI (0)), .int (nI (0))])), (q_1, aN (kcI G) 16 ((fun _ => 0))), (q_2, aN (kcI G) 16 ((fun _ => 0))), (q_3, aN (kcI G) 16 ((fun _ => 0)))]) (wr := wr) (n := 16) hx hb (hts (Cond.arrayClass .int) (List.mem_of_getElem? (i := 4) rfl)) hK hV hS hB0 (by decide) (Nat.le_of_ble_eq_true rfl) (Nat.le_of_ble_eq_true rfl) dX6_init_31 (fun q_4 H hV hS => ?_)
  have hV : kV G ([(h, .inr (7, [.int (nI (0)), .int (nI (0)), .ref (q_1), .ref (q_2), .ref (q_3), .null, .null, .null, .null, .null, .null, .int (nI (0)), .null, .null, .null, .int (nI (0)), .null, .null, .null, .int (nI (0)), .null, .null, .null, .null, .int (nI (0)), .int (nI (0))])), (q_1, aN (kcI G) 16 ((fun _ => 0))), (q_2, aN (kcI G) 16 ((fun _ => 0))), (q_3, aN (kcI G) 16 ((fun _ => 0))), (q_4, aN (kcI G) 16 ((fun _ => 0)))] ++ wr) H := hV
  refine va_putF (D := kD G) (ci := 7) (v := .ref (q_4)) (ty := (.array .int)) (C := RX6) (T := TX6) (N := 26) hx hb hts hinX6 tyX6 tyX6_ok nmX6 hown hK hV.1 hV.2 hS 0 rfl rfl 5 (by decide) (hts (Cond.fieldLink RX6 19 "YarncourtModel" "lines" "[I") (List.mem_of_getElem? (i := 8) rfl)) (fun _ h9 => h9) rfl hin0 rfl (by decide +kernel) rfl rfl (Nat.le_of_ble_eq_true rfl) dX6_init_33 (fun H locs hP hD hS => ?_)
  have hV : kV G ([(h, .inr (7, [.int (nI (0)), .int (nI (0)), .ref (q_1), .ref (q_2), .ref (q_3), .ref (q_4), .null, .null, .null, .null, .null, .int (nI (0)), .null, .null, .null, .int (nI (0)), .null, .null, .null, .int (nI (0)), .null, .null, .null, .null, .int (nI (0)), .int (nI (0))])), (q_1, aN (kcI G) 16 ((fun _ => 0))), (q_2, aN (kcI G) 16 ((fun _ => 0))), (q_3, aN (kcI G) 16 ((fun _ => 0))), (q_4, aN (kcI G) 16 ((fun _ => 0)))] ++ wr) H := ⟨hP, hD⟩
  refine lv_aload_n hx hb dX6_init_36 rfl (lv_at hl 0 rfl) ?_
  refine lv_bipush (v := nI 96) hx hb dX6_init_37 (by decide) ?_
  refine kn_newI (G := G) (a := [(h, .inr (7, [.int (nI (0)), .int (nI (0)), .ref (q_1), .ref (q_2), .ref (q_3), .ref (q_4), .null, .null, .null, .null, .null, .int (nI (0)), .null, .null, .null, .int (nI (0)), .null, .null, .null, .int (nI (0)), .null, .null, .null, .null, .int (nI (0)), .int (nI (0))])), (q_1, aN (kcI G) 16 ((fun _ => 0))), (q_2, aN (kcI G) 16 ((fun _ => 0))), (q_3, aN (kcI G) 16 ((fun _ => 0))), (q_4, aN (kcI G) 16 ((fun _ => 0)))]) (wr := wr) (n := 96) hx hb (hts (Cond.arrayClass .int) (List.mem_of_getElem? (i := 4) rfl)) hK hV hS hB0 (by decide) (Nat.le_of_ble_eq_true rfl) (Nat.le_of_ble_eq_true rfl) dX6_init_39 (fun q_5 H hV hS => ?_)
  have hV : kV G ([(h, .inr (7, [.int (nI (0)), .int (nI (0)), .ref (q_1), .ref (q_2), .ref (q_3), .ref (q_4), .null, .null, .null, .null, .null, .int (nI (0)), .null, .null, .null, .int (nI (0)), .null, .null, .null, .int (nI (0)), .null, .null, .null, .null, .int (nI (0)), .int (nI (0))])), (q_1, aN (kcI G) 16 ((fun _ => 0))), (q_2, aN (kcI G) 16 ((fun _ => 0))), (q_3, aN (kcI G) 16 ((fun _ => 0))), (q_4, aN (kcI G) 16 ((fun _ => 0))), (q_5, aN (kcI G) 96 ((fun _ => 0)))] ++ wr) H := hV
  refine va_putF (D := kD G) (ci := 7) (v := .ref (q_5)) (ty := (.array .int)) (C := RX6) (T := TX6) (N := 26) hx hb hts hinX6 tyX6 tyX6_ok nmX6 hown hK hV.1 hV.2 hS 0 rfl rfl 6 (by decide) (hts (Cond.fieldLink RX6 22 "YarncourtModel" "knits" "[I") (List.mem_of_getElem? (i := 9) rfl)) (fun _ h9 => h9) rfl hin0 rfl (by decide +kernel) rfl rfl (Nat.le_of_ble_eq_true rfl) dX6_init_41 (fun H locs hP hD hS => ?_)
  have hV : kV G ([(h, .inr (7, [.int (nI (0)), .int (nI (0)), .ref (q_1), .ref (q_2), .ref (q_3), .ref (q_4), .ref (q_5), .null, .null, .null, .null, .int (nI (0)), .null, .null, .null, .int (nI (0)), .null, .null, .null, .int (nI (0)), .null, .null, .null, .null, .int (nI (0)), .int (nI (0))])), (q_1, aN (kcI G) 16 ((fun _ => 0))), (q_2, aN (kcI G) 16 ((fun _ => 0))), (q_3, aN (kcI G) 16 ((fun _ => 0))), (q_4, aN (kcI G) 16 ((fun _ => 0))), (q_5, aN (kcI G) 96 ((fun _ => 0)))] ++ wr) H := ⟨hP, hD⟩
  refine lv_aload_n hx hb dX6_init_44 rfl (lv_at hl 0 rfl) ?_
  refine lv_bipush (v := nI 96) hx hb dX6_init_45 (by decide) ?_
  refine kn_newI (G := G) (a := [(h, .inr (7, [.int (nI (0)), .int (nI (0)), .ref (q_1), .ref (q_2), .ref (q_3), .ref (q_4), .ref (q_5), .null, .null, .null, .null, .int (nI (0)), .null, .null, .null, .int (nI (0)), .null, .null, .null, .int (nI (0)), .null, .null, .null, .null, .int (nI (0)), .int (nI (0))])), (q_1, aN (kcI G) 16 ((fun _ => 0))), (q_2, aN (kcI G) 16 ((fun _ => 0))), (q_3, aN (kcI G) 16 ((fun _ => 0))), (q_4, aN (kcI G) 16 ((fun _ => 0))), (q_5, aN (kcI G) 96 ((fun _ => 0)))]) (wr := wr) (n := 96) hx hb (hts (Cond.arrayClass .int) (List.mem_of_getElem? (i := 4) rfl)) hK hV hS hB0 (by decide) (Nat.le_of_ble_eq_true rfl) (Nat.le_of_ble_eq_true rfl) dX6_init_47 (fun q_6 H hV hS => ?_)
  have hV : kV G ([(h, .inr (7, [.int (nI (0)), .int (nI (0)), .ref (q_1), .ref (q_2), .ref (q_3), .ref (q_4), .ref (q_5), .null, .null, .null, .null, .int (nI (0)), .null, .null, .null, .int (nI (0)), .null, .null, .null, .int (nI (0)), .null, .null, .null, .null, .int (nI (0)), .int (nI (0))])), (q_1, aN (kcI G) 16 ((fun _ => 0))), (q_2, aN (kcI G) 16 ((fun _ => 0))), (q_3, aN (kcI G) 16 ((fun _ => 0))), (q_4, aN (kcI G) 16 ((fun _ => 0))), (q_5, aN (kcI G) 96 ((fun _ => 0))), (q_6, aN (kcI G) 96 ((fun _ => 0)))] ++ wr) H := hV
  refine va_putF (D := kD G) (ci := 7) (v := .ref (q_6)) (ty := (.array .int)) (C := RX6) (T := TX6) (N := 26) hx hb hts hinX6 tyX6 tyX6_ok nmX6 hown hK hV.1 hV.2 hS 0 rfl rfl 7 (by decide) (hts (Cond.fieldLink RX6 25 "YarncourtModel" "purls" "[I") (List.mem_of_getElem? (i := 10) rfl)) (fun _ h9 => h9) rfl hin0 rfl (by decide +kernel) rfl rfl (Nat.le_of_ble_eq_true rfl) dX6_init_49 (fun H locs hP hD hS => ?_)
  have hV : kV G ([(h, .inr (7, [.int (nI (0)), .int (nI (0)), .ref (q_1), .ref (q_2), .ref (q_3), .ref (q_4), .ref (q_5), .ref (q_6), .null, .null, .null, .int (nI (0)), .null, .null, .null, .int (nI (0)), .null, .null, .null, .int (nI (0)), .null, .null, .null, .null, .int (nI (0)), .int (nI (0))])), (q_1, aN (kcI G) 16 ((fun _ => 0))), (q_2, aN (kcI G) 16 ((fun _ => 0))), (q_3, aN (kcI G) 16 ((fun _ => 0))), (q_4, aN (kcI G) 16 ((fun _ => 0))), (q_5, aN (kcI G) 96 ((fun _ => 0))), (q_6, aN (kcI G) 96 ((fun _ => 0)))] ++ wr) H := ⟨hP, hD⟩
  refine lv_aload_n hx hb dX6_init_52 rfl (lv_at hl 0 rfl) ?_
  refine lv_bipush (v := nI 96) hx hb dX6_init_53 (by decide) ?_
  refine kn_newI (G := G) (a := [(h, .inr (7, [.int (nI (0)), .int (nI (0)), .ref (q_1), .ref (q_2), .ref (q_3), .ref (q_4), .ref (q_5), .ref (q_6), .null, .null, .null, .int (nI (0)), .null, .null, .null, .int (nI (0)), .null, .null, .null, .int (nI (0)), .null, .null, .null, .null, .int (nI (0)), .int (nI (0))])), (q_1, aN (kcI G) 16 ((fun _ => 0))), (q_2, aN (kcI G) 16 ((fun _ => 0))), (q_3, aN (kcI G) 16 ((fun _ => 0))), (q_4, aN (kcI G) 16 ((fun _ => 0))), (q_5, aN (kcI G) 96 ((fun _ => 0))), (q_6, aN (kcI G) 96 ((fun _ => 0)))]) (wr := wr) (n := 96) hx hb (hts (Cond.arrayClass .int) (List.mem_of_getElem? (i := 4) rfl)) hK hV hS hB0 (by decide) (Nat.le_of_ble_eq_true rfl) (Nat.le_of_ble_eq_true rfl) dX6_init_55 (fun q_7 H hV hS => ?_)
  have hV : kV G ([(h, .inr (7, [.int (nI (0)), .int (nI (0)), .ref (q_1), .ref (q_2), .ref (q_3), .ref (q_4), .ref (q_5), .ref (q_6), .null, .null, .null, .int (nI (0)), .null, .null, .null, .int (nI (0)), .null, .null, .null, .int (nI (0)), .null, .null, .null, .null, .int (nI (0)), .int (nI (0))])), (q_1, aN (kcI G) 16 ((fun _ => 0))), (q_2, aN (kcI G) 16 ((fun _ => 0))), (q_3, aN (kcI G) 16 ((fun _ => 0))), (q_4, aN (kcI G) 16 ((fun _ => 0))), (q_5, aN (kcI G) 96 ((fun _ => 0))), (q_6, aN (kcI G) 96 ((fun _ => 0))), (q_7, aZ (kcI G) 96 ((fun _ => 0)))] ++ wr) H := hV
  refine va_putF (D := kD G) (ci := 7) (v := .ref (q_7)) (ty := (.array .int)) (C := RX6) (T := TX6) (N := 26) hx hb hts hinX6 tyX6 tyX6_ok nmX6 hown hK hV.1 hV.2 hS 0 rfl rfl 8 (by decide) (hts (Cond.fieldLink RX6 28 "YarncourtModel" "shapings" "[I") (List.mem_of_getElem? (i := 11) rfl)) (fun _ h9 => h9) rfl hin0 rfl (by decide +kernel) rfl rfl (Nat.le_of_ble_eq_true rfl) dX6_init_57 (fun H locs hP hD hS => ?_)
  have hV : kV G ([(h, .inr (7, [.int (nI (0)), .int (nI (0)), .ref (q_1), .ref (q_2), .ref (q_3), .ref (q_4), .ref (q_5), .ref (q_6), .ref (q_7), .null, .null, .int (nI (0)), .null, .null, .null, .int (nI (0)), .null, .null, .null, .int (nI (0)), .null, .null, .null, .null, .int (nI (0)), .int (nI (0))])), (q_1, aN (kcI G) 16 ((fun _ => 0))), (q_2, aN (kcI G) 16 ((fun _ => 0))), (q_3, aN (kcI G) 16 ((fun _ => 0))), (q_4, aN (kcI G) 16 ((fun _ => 0))), (q_5, aN (kcI G) 96 ((fun _ => 0))), (q_6, aN (kcI G) 96 ((fun _ => 0))), (q_7, aZ (kcI G) 96 ((fun _ => 0)))] ++ wr) H := ⟨hP, hD⟩
  refine lv_aload_n hx hb dX6_init_60 rfl (lv_at hl 0 rfl) ?_
  refine lv_bipush (v := nI 96) hx hb dX6_init_61 (by decide) ?_
  refine kn_newI (G := G) (a := [(h, .inr (7, [.int (nI (0)), .int (nI (0)), .ref (q_1), .ref (q_2), .ref (q_3), .ref (q_4), .ref (q_5), .ref (q_6), .ref (q_7), .null, .null, .int (nI (0)), .null, .null, .null, .int (nI (0)), .null, .null, .null, .int (nI (0)), .null, .null, .null, .null, .int (nI (0)), .int (nI (0))])), (q_1, aN (kcI G) 16 ((fun _ => 0))), (q_2, aN (kcI G) 16 ((fun _ => 0))), (q_3, aN (kcI G) 16 ((fun _ => 0))), (q_4, aN (kcI G) 16 ((fun _ => 0))), (q_5, aN (kcI G) 96 ((fun _ => 0))), (q_6, aN (kcI G) 96 ((fun _ => 0))), (q_7, aZ (kcI G) 96 ((fun _ => 0)))]) (wr := wr) (n := 96) hx hb (hts (Cond.arrayClass .int) (List.mem_of_getElem? (i := 4) rfl)) hK hV hS hB0 (by decide) (Nat.le_of_ble_eq_true rfl) (Nat.le_of_ble_eq_true rfl) dX6_init_63 (fun q_8 H hV hS => ?_)
  have hV : kV G ([(h, .inr (7, [.int (nI (0)), .int (nI (0)), .ref (q_1), .ref (q_2), .ref (q_3), .ref (q_4), .ref (q_5), .ref (q_6), .ref (q_7), .null, .null, .int (nI (0)), .null, .null, .null, .int (nI (0)), .null, .null, .null, .int (nI (0)), .null, .null, .null, .null, .int (nI (0)), .int (nI (0))])), (q_1, aN (kcI G) 16 ((fun _ => 0))), (q_2, aN (kcI G) 16 ((fun _ => 0))), (q_3, aN (kcI G) 16 ((fun _ => 0))), (q_4, aN (kcI G) 16 ((fun _ => 0))), (q_5, aN (kcI G) 96 ((fun _ => 0))), (q_6, aN (kcI G) 96 ((fun _ => 0))), (q_7, aZ (kcI G) 96 ((fun _ => 0))), (q_8, aN (kcI G) 96 ((fun _ => 0)))] ++ wr) H := hV
  refine va_putF (D := kD G) (ci := 7) (v := .ref (q_8)) (ty := (.array .int)) (C := RX6) (T := TX6) (N := 26) hx hb hts hinX6 tyX6 tyX6_ok nmX6 hown hK hV.1 hV.2 hS 0 rfl rfl 9 (by decide) (hts (Cond.fieldLink RX6 31 "YarncourtModel" "times" "[I") (List.mem_of_getElem? (i := 12) rfl)) (fun _ h9 => h9) rfl hin0 rfl (by decide +kernel) rfl rfl (Nat.le_of_ble_eq_true rfl) dX6_init_65 (fun H locs hP hD hS => ?_)
  have hV : kV G ([(h, .inr (7, [.int (nI (0)), .int (nI (0)), .ref (q_1), .ref (q_2), .ref (q_3), .ref (q_4), .ref (q_5), .ref (q_6), .ref (q_7), .ref (q_8), .null, .int (nI (0)), .null, .null, .null, .int (nI (0)), .null, .null, .null, .int (nI (0)), .null, .null, .null, .null, .int (nI (0)), .int (nI (0))])), (q_1, aN (kcI G) 16 ((fun _ => 0))), (q_2, aN (kcI G) 16 ((fun _ => 0))), (q_3, aN (kcI G) 16 ((fun _ => 0))), (q_4, aN (kcI G) 16 ((fun _ => 0))), (q_5, aN (kcI G) 96 ((fun _ => 0))), (q_6, aN (kcI G) 96 ((fun _ => 0))), (q_7, aZ (kcI G) 96 ((fun _ => 0))), (q_8, aN (kcI G) 96 ((fun _ => 0)))] ++ wr) H := ⟨hP, hD⟩
  refine lv_aload_n hx hb dX6_init_68 rfl (lv_at hl 0 rfl) ?_
  refine lv_bipush (v := nI 16) hx hb dX6_init_69 (by decide) ?_
  refine kn_newI (G := G) (a := [(h, .inr (7, [.int (nI (0)), .int (nI (0)), .ref (q_1), .ref (q_2), .ref (q_3), .ref (q_4), .ref (q_5), .ref (q_6), .ref (q_7), .ref (q_8), .null, .int (nI (0)), .null, .null, .null, .int (nI (0)), .null, .null, .null, .int (nI (0)), .null, .null, .null, .null, .int (nI (0)), .int (nI (0))])), (q_1, aN (kcI G) 16 ((fun _ => 0))), (q_2, aN (kcI G) 16 ((fun _ => 0))), (q_3, aN (kcI G) 16 ((fun _ => 0))), (q_4, aN (kcI G) 16 ((fun _ => 0))), (q_5, aN (kcI G) 96 ((fun _ => 0))), (q_6, aN (kcI G) 96 ((fun _ => 0))), (q_7, aZ (kcI G) 96 ((fun _ => 0))), (q_8, aN (kcI G) 96 ((fun _ => 0)))]) (wr := wr) (n := 16) hx hb (hts (Cond.arrayClass .int) (List.mem_of_getElem? (i := 4) rfl)) hK hV hS hB0 (by decide) (Nat.le_of_ble_eq_true rfl) (Nat.le_of_ble_eq_true rfl) dX6_init_71 (fun q_9 H hV hS => ?_)
  have hV : kV G ([(h, .inr (7, [.int (nI (0)), .int (nI (0)), .ref (q_1), .ref (q_2), .ref (q_3), .ref (q_4), .ref (q_5), .ref (q_6), .ref (q_7), .ref (q_8), .null, .int (nI (0)), .null, .null, .null, .int (nI (0)), .null, .null, .null, .int (nI (0)), .null, .null, .null, .null, .int (nI (0)), .int (nI (0))])), (q_1, aN (kcI G) 16 ((fun _ => 0))), (q_2, aN (kcI G) 16 ((fun _ => 0))), (q_3, aN (kcI G) 16 ((fun _ => 0))), (q_4, aN (kcI G) 16 ((fun _ => 0))), (q_5, aN (kcI G) 96 ((fun _ => 0))), (q_6, aN (kcI G) 96 ((fun _ => 0))), (q_7, aZ (kcI G) 96 ((fun _ => 0))), (q_8, aN (kcI G) 96 ((fun _ => 0))), (q_9, aN (kcI G) 16 ((fun _ => 0)))] ++ wr) H := hV
  refine va_putF (D := kD G) (ci := 7) (v := .ref (q_9)) (ty := (.array .int)) (C := RX6) (T := TX6) (N := 26) hx hb hts hinX6 tyX6 tyX6_ok nmX6 hown hK hV.1 hV.2 hS 0 rfl rfl 10 (by decide) (hts (Cond.fieldLink RX6 34 "YarncourtModel" "orders" "[I") (List.mem_of_getElem? (i := 13) rfl)) (fun _ h9 => h9) rfl hin0 rfl (by decide +kernel) rfl rfl (Nat.le_of_ble_eq_true rfl) dX6_init_73 (fun H locs hP hD hS => ?_)
  have hV : kV G ([(h, .inr (7, [.int (nI (0)), .int (nI (0)), .ref (q_1), .ref (q_2), .ref (q_3), .ref (q_4), .ref (q_5), .ref (q_6), .ref (q_7), .ref (q_8), .ref (q_9), .int (nI (0)), .null, .null, .null, .int (nI (0)), .null, .null, .null, .int (nI (0)), .null, .null, .null, .null, .int (nI (0)), .int (nI (0))])), (q_1, aN (kcI G) 16 ((fun _ => 0))), (q_2, aN (kcI G) 16 ((fun _ => 0))), (q_3, aN (kcI G) 16 ((fun _ => 0))), (q_4, aN (kcI G) 16 ((fun _ => 0))), (q_5, aN (kcI G) 96 ((fun _ => 0))), (q_6, aN (kcI G) 96 ((fun _ => 0))), (q_7, aZ (kcI G) 96 ((fun _ => 0))), (q_8, aN (kcI G) 96 ((fun _ => 0))), (q_9, aN (kcI G) 16 ((fun _ => 0)))] ++ wr) H := ⟨hP, hD⟩
  refine lv_aload_n hx hb dX6_init_76 rfl (lv_at hl 0 rfl) ?_
  refine lv_bipush (v := nI 16) hx hb dX6_init_77 (by decide) ?_
  refine kn_newZ (G := G) (a := [(h, .inr (7, [.int (nI (0)), .int (nI (0)), .ref (q_1), .ref (q_2), .ref (q_3), .ref (q_4), .ref (q_5), .ref (q_6), .ref (q_7), .ref (q_8), .ref (q_9), .int (nI (0)), .null, .null, .null, .int (nI (0)), .null, .null, .null, .int (nI (0)), .null, .null, .null, .null, .int (nI (0)), .int (nI (0))])), (q_1, aN (kcI G) 16 ((fun _ => 0))), (q_2, aN (kcI G) 16 ((fun _ => 0))), (q_3, aN (kcI G) 16 ((fun _ => 0))), (q_4, aN (kcI G) 16 ((fun _ => 0))), (q_5, aN (kcI G) 96 ((fun _ => 0))), (q_6, aN (kcI G) 96 ((fun _ => 0))), (q_7, aZ (kcI G) 96 ((fun _ => 0))), (q_8, aN (kcI G) 96 ((fun _ => 0))), (q_9, aN (kcI G) 16 ((fun _ => 0)))]) (wr := wr) (n := 16) hx hb (hts (Cond.arrayClass .boolean) (List.mem_of_getElem? (i := 14) rfl)) hK hV hS hB0 (by decide) (Nat.le_of_ble_eq_true rfl) (Nat.le_of_ble_eq_true rfl) dX6_init_79 (fun q_10 H hV hS => ?_)
  have hV : kV G ([(h, .inr (7, [.int (nI (0)), .int (nI (0)), .ref (q_1), .ref (q_2), .ref (q_3), .ref (q_4), .ref (q_5), .ref (q_6), .ref (q_7), .ref (q_8), .ref (q_9), .int (nI (0)), .null, .null, .null, .int (nI (0)), .null, .null, .null, .int (nI (0)), .null, .null, .null, .null, .int (nI (0)), .int (nI (0))])), (q_1, aN (kcI G) 16 ((fun _ => 0))), (q_2, aN (kcI G) 16 ((fun _ => 0))), (q_3, aN (kcI G) 16 ((fun _ => 0))), (q_4, aN (kcI G) 16 ((fun _ => 0))), (q_5, aN (kcI G) 96 ((fun _ => 0))), (q_6, aN (kcI G) 96 ((fun _ => 0))), (q_7, aZ (kcI G) 96 ((fun _ => 0))), (q_8, aN (kcI G) 96 ((fun _ => 0))), (q_9, aN (kcI G) 16 ((fun _ => 0))), (q_10, aN (kcZ G) 16 ((fun _ => 0)))] ++ wr) H := hV
  refine va_putF (D := kD G) (ci := 7) (v := .ref (q_10)) (ty := (.array .boolean)) (C := RX6) (T := TX6) (N := 26) hx hb hts hinX6 tyX6 tyX6_ok nmX6 hown hK hV.1 hV.2 hS 0 rfl rfl 12 (by decide) (hts (Cond.fieldLink RX6 37 "YarncourtModel" "isBarred" "[Z") (List.mem_of_getElem? (i := 15) rfl)) (fun _ h9 => h9) rfl hin0 rfl (by decide +kernel) rfl rfl (Nat.le_of_ble_eq_true rfl) dX6_init_81 (fun H locs hP hD hS => ?_)
  have hV : kV G ([(h, .inr (7, [.int (nI (0)), .int (nI (0)), .ref (q_1), .ref (q_2), .ref (q_3), .ref (q_4), .ref (q_5), .ref (q_6), .ref (q_7), .ref (q_8), .ref (q_9), .int (nI (0)), .ref (q_10), .null, .null, .int (nI (0)), .null, .null, .null, .int (nI (0)), .null, .null, .null, .null, .int (nI (0)), .int (nI (0))])), (q_1, aN (kcI G) 16 ((fun _ => 0))), (q_2, aN (kcI G) 16 ((fun _ => 0))), (q_3, aN (kcI G) 16 ((fun _ => 0))), (q_4, aN (kcI G) 16 ((fun _ => 0))), (q_5, aN (kcI G) 96 ((fun _ => 0))), (q_6, aN (kcI G) 96 ((fun _ => 0))), (q_7, aZ (kcI G) 96 ((fun _ => 0))), (q_8, aN (kcI G) 96 ((fun _ => 0))), (q_9, aN (kcI G) 16 ((fun _ => 0))), (q_10, aN (kcZ G) 16 ((fun _ => 0)))] ++ wr) H := ⟨hP, hD⟩
  refine lv_aload_n hx hb dX6_init_84 rfl (lv_at hl 0 rfl) ?_
  refine lv_bipush (v := nI 16) hx hb dX6_init_85 (by decide) ?_
  refine kn_newI (G := G) (a := [(h, .inr (7, [.int (nI (0)), .int (nI (0)), .ref (q_1), .ref (q_2), .ref (q_3), .ref (q_4), .ref (q_5), .ref (q_6), .ref (q_7), .ref (q_8), .ref (q_9), .int (nI (0)), .ref (q_10), .null, .null, .int (nI (0)), .null, .null, .null, .int (nI (0)), .null, .null, .null, .null, .int (nI (0)), .int (nI (0))])), (q_1, aN (kcI G) 16 ((fun _ => 0))), (q_2, aN (kcI G) 16 ((fun _ => 0))), (q_3, aN (kcI G) 16 ((fun _ => 0))), (q_4, aN (kcI G) 16 ((fun _ => 0))), (q_5, aN (kcI G) 96 ((fun _ => 0))), (q_6, aN (kcI G) 96 ((fun _ => 0))), (q_7, aZ (kcI G) 96 ((fun _ => 0))), (q_8, aN (kcI G) 96 ((fun _ => 0))), (q_9, aN (kcI G) 16 ((fun _ => 0))), (q_10, aN (kcZ G) 16 ((fun _ => 0)))]) (wr := wr) (n := 16) hx hb (hts (Cond.arrayClass .int) (List.mem_of_getElem? (i := 4) rfl)) hK hV hS hB0 (by decide) (Nat.le_of_ble_eq_true rfl) (Nat.le_of_ble_eq_true rfl) dX6_init_87 (fun q_11 H hV hS => ?_)
  have hV : kV G ([(h, .inr (7, [.int (nI (0)), .int (nI (0)), .ref (q_1), .ref (q_2), .ref (q_3), .ref (q_4), .ref (q_5), .ref (q_6), .ref (q_7), .ref (q_8), .ref (q_9), .int (nI (0)), .ref (q_10), .null, .null, .int (nI (0)), .null, .null, .null, .int (nI (0)), .null, .null, .null, .null, .int (nI (0)), .int (nI (0))])), (q_1, aN (kcI G) 16 ((fun _ => 0))), (q_2, aN (kcI G) 16 ((fun _ => 0))), (q_3, aN (kcI G) 16 ((fun _ => 0))), (q_4, aN (kcI G) 16 ((fun _ => 0))), (q_5, aN (kcI G) 96 ((fun _ => 0))), (q_6, aN (kcI G) 96 ((fun _ => 0))), (q_7, aZ (kcI G) 96 ((fun _ => 0))), (q_8, aN (kcI G) 96 ((fun _ => 0))), (q_9, aN (kcI G) 16 ((fun _ => 0))), (q_10, aN (kcZ G) 16 ((fun _ => 0))), (q_11, aN (kcI G) 16 ((fun _ => 0)))] ++ wr) H := hV
  refine va_putF (D := kD G) (ci := 7) (v := .ref (q_11)) (ty := (.array .int)) (C := RX6) (T := TX6) (N := 26) hx hb hts hinX6 tyX6 tyX6_ok nmX6 hown hK hV.1 hV.2 hS 0 rfl rfl 13 (by decide) (hts (Cond.fieldLink RX6 41 "YarncourtModel" "buyers" "[I") (List.mem_of_getElem? (i := 16) rfl)) (fun _ h9 => h9) rfl hin0 rfl (by decide +kernel) rfl rfl (Nat.le_of_ble_eq_true rfl) dX6_init_89 (fun H locs hP hD hS => ?_)
  have hV : kV G ([(h, .inr (7, [.int (nI (0)), .int (nI (0)), .ref (q_1), .ref (q_2), .ref (q_3), .ref (q_4), .ref (q_5), .ref (q_6), .ref (q_7), .ref (q_8), .ref (q_9), .int (nI (0)), .ref (q_10), .ref (q_11), .null, .int (nI (0)), .null, .null, .null, .int (nI (0)), .null, .null, .null, .null, .int (nI (0)), .int (nI (0))])), (q_1, aN (kcI G) 16 ((fun _ => 0))), (q_2, aN (kcI G) 16 ((fun _ => 0))), (q_3, aN (kcI G) 16 ((fun _ => 0))), (q_4, aN (kcI G) 16 ((fun _ => 0))), (q_5, aN (kcI G) 96 ((fun _ => 0))), (q_6, aN (kcI G) 96 ((fun _ => 0))), (q_7, aZ (kcI G) 96 ((fun _ => 0))), (q_8, aN (kcI G) 96 ((fun _ => 0))), (q_9, aN (kcI G) 16 ((fun _ => 0))), (q_10, aN (kcZ G) 16 ((fun _ => 0))), (q_11, aN (kcI G) 16 ((fun _ => 0)))] ++ wr) H := ⟨hP, hD⟩
  refine lv_aload_n hx hb dX6_init_92 rfl (lv_at hl 0 rfl) ?_
  refine lv_iconst (v := nI 5) hx hb dX6_init_93 (by decide) ?_
  refine kn_newI (G := G) (a := [(h, .inr (7, [.int (nI (0)), .int (nI (0)), .ref (q_1), .ref (q_2), .ref (q_3), .ref (q_4), .ref (q_5), .ref (q_6), .ref (q_7), .ref (q_8), .ref (q_9), .int (nI (0)), .ref (q_10), .ref (q_11), .null, .int (nI (0)), .null, .null, .null, .int (nI (0)), .null, .null, .null, .null, .int (nI (0)), .int (nI (0))])), (q_1, aN (kcI G) 16 ((fun _ => 0))), (q_2, aN (kcI G) 16 ((fun _ => 0))), (q_3, aN (kcI G) 16 ((fun _ => 0))), (q_4, aN (kcI G) 16 ((fun _ => 0))), (q_5, aN (kcI G) 96 ((fun _ => 0))), (q_6, aN (kcI G) 96 ((fun _ => 0))), (q_7, aZ (kcI G) 96 ((fun _ => 0))), (q_8, aN (kcI G) 96 ((fun _ => 0))), (q_9, aN (kcI G) 16 ((fun _ => 0))), (q_10, aN (kcZ G) 16 ((fun _ => 0))), (q_11, aN (kcI G) 16 ((fun _ => 0)))]) (wr := wr) (n := 5) hx hb (hts (Cond.arrayClass .int) (List.mem_of_getElem? (i := 4) rfl)) hK hV hS hB0 (by decide) (Nat.le_of_ble_eq_true rfl) (Nat.le_of_ble_eq_true rfl) dX6_init_94 (fun q_12 H hV hS => ?_)
  have hV : kV G ([(h, .inr (7, [.int (nI (0)), .int (nI (0)), .ref (q_1), .ref (q_2), .ref (q_3), .ref (q_4), .ref (q_5), .ref (q_6), .ref (q_7), .ref (q_8), .ref (q_9), .int (nI (0)), .ref (q_10), .ref (q_11), .null, .int (nI (0)), .null, .null, .null, .int (nI (0)), .null, .null, .null, .null, .int (nI (0)), .int (nI (0))])), (q_1, aN (kcI G) 16 ((fun _ => 0))), (q_2, aN (kcI G) 16 ((fun _ => 0))), (q_3, aN (kcI G) 16 ((fun _ => 0))), (q_4, aN (kcI G) 16 ((fun _ => 0))), (q_5, aN (kcI G) 96 ((fun _ => 0))), (q_6, aN (kcI G) 96 ((fun _ => 0))), (q_7, aZ (kcI G) 96 ((fun _ => 0))), (q_8, aN (kcI G) 96 ((fun _ => 0))), (q_9, aN (kcI G) 16 ((fun _ => 0))), (q_10, aN (kcZ G) 16 ((fun _ => 0))), (q_11, aN (kcI G) 16 ((fun _ => 0))), (q_12, aR (kcI G) 5 ((fun _ => 0)))] ++ wr) H := hV
  refine va_putF (D := kD G) (ci := 7) (v := .ref (q_12)) (ty := (.array .int)) (C := RX6) (T := TX6) (N := 26) hx hb hts hinX6 tyX6 tyX6_ok nmX6 hown hK hV.1 hV.2 hS 0 rfl rfl 14 (by decide) (hts (Cond.fieldLink RX6 44 "YarncourtModel" "moneys" "[I") (List.mem_of_getElem? (i := 17) rfl)) (fun _ h9 => h9) rfl hin0 rfl (by decide +kernel) rfl rfl (Nat.le_of_ble_eq_true rfl) dX6_init_96 (fun H locs hP hD hS => ?_)
  have hV : kV G ([(h, .inr (7, [.int (nI (0)), .int (nI (0)), .ref (q_1), .ref (q_2), .ref (q_3), .ref (q_4), .ref (q_5), .ref (q_6), .ref (q_7), .ref (q_8), .ref (q_9), .int (nI (0)), .ref (q_10), .ref (q_11), .ref (q_12), .int (nI (0)), .null, .null, .null, .int (nI (0)), .null, .null, .null, .null, .int (nI (0)), .int (nI (0))])), (q_1, aN (kcI G) 16 ((fun _ => 0))), (q_2, aN (kcI G) 16 ((fun _ => 0))), (q_3, aN (kcI G) 16 ((fun _ => 0))), (q_4, aN (kcI G) 16 ((fun _ => 0))), (q_5, aN (kcI G) 96 ((fun _ => 0))), (q_6, aN (kcI G) 96 ((fun _ => 0))), (q_7, aZ (kcI G) 96 ((fun _ => 0))), (q_8, aN (kcI G) 96 ((fun _ => 0))), (q_9, aN (kcI G) 16 ((fun _ => 0))), (q_10, aN (kcZ G) 16 ((fun _ => 0))), (q_11, aN (kcI G) 16 ((fun _ => 0))), (q_12, aR (kcI G) 5 ((fun _ => 0)))] ++ wr) H := ⟨hP, hD⟩
  refine lv_aload_n hx hb dX6_init_99 rfl (lv_at hl 0 rfl) ?_
  refine lv_bipush (v := nI 20) hx hb dX6_init_100 (by decide) ?_
  refine kn_newI (G := G) (a := [(h, .inr (7, [.int (nI (0)), .int (nI (0)), .ref (q_1), .ref (q_2), .ref (q_3), .ref (q_4), .ref (q_5), .ref (q_6), .ref (q_7), .ref (q_8), .ref (q_9), .int (nI (0)), .ref (q_10), .ref (q_11), .ref (q_12), .int (nI (0)), .null, .null, .null, .int (nI (0)), .null, .null, .null, .null, .int (nI (0)), .int (nI (0))])), (q_1, aN (kcI G) 16 ((fun _ => 0))), (q_2, aN (kcI G) 16 ((fun _ => 0))), (q_3, aN (kcI G) 16 ((fun _ => 0))), (q_4, aN (kcI G) 16 ((fun _ => 0))), (q_5, aN (kcI G) 96 ((fun _ => 0))), (q_6, aN (kcI G) 96 ((fun _ => 0))), (q_7, aZ (kcI G) 96 ((fun _ => 0))), (q_8, aN (kcI G) 96 ((fun _ => 0))), (q_9, aN (kcI G) 16 ((fun _ => 0))), (q_10, aN (kcZ G) 16 ((fun _ => 0))), (q_11, aN (kcI G) 16 ((fun _ => 0))), (q_12, aR (kcI G) 5 ((fun _ => 0)))]) (wr := wr) (n := 20) hx hb (hts (Cond.arrayClass .int) (List.mem_of_getElem? (i := 4) rfl)) hK hV hS hB0 (by decide) (Nat.le_of_ble_eq_true rfl) (Nat.le_of_ble_eq_true rfl) dX6_init_102 (fun q_13 H hV hS => ?_)
  have hV : kV G ([(h, .inr (7, [.int (nI (0)), .int (nI (0)), .ref (q_1), .ref (q_2), .ref (q_3), .ref (q_4), .ref (q_5), .ref (q_6), .ref (q_7), .ref (q_8), .ref (q_9), .int (nI (0)), .ref (q_10), .ref (q_11), .ref (q_12), .int (nI (0)), .null, .null, .null, .int (nI (0)), .null, .null, .null, .null, .int (nI (0)), .int (nI (0))])), (q_1, aN (kcI G) 16 ((fun _ => 0))), (q_2, aN (kcI G) 16 ((fun _ => 0))), (q_3, aN (kcI G) 16 ((fun _ => 0))), (q_4, aN (kcI G) 16 ((fun _ => 0))), (q_5, aN (kcI G) 96 ((fun _ => 0))), (q_6, aN (kcI G) 96 ((fun _ => 0))), (q_7, aZ (kcI G) 96 ((fun _ => 0))), (q_8, aN (kcI G) 96 ((fun _ => 0))), (q_9, aN (kcI G) 16 ((fun _ => 0))), (q_10, aN (kcZ G) 16 ((fun _ => 0))), (q_11, aN (kcI G) 16 ((fun _ => 0))), (q_12, aR (kcI G) 5 ((fun _ => 0))), (q_13, aN (kcI G) 20 ((fun _ => 0)))] ++ wr) H := hV
  refine va_putF (D := kD G) (ci := 7) (v := .ref (q_13)) (ty := (.array .int)) (C := RX6) (T := TX6) (N := 26) hx hb hts hinX6 tyX6 tyX6_ok nmX6 hown hK hV.1 hV.2 hS 0 rfl rfl 16 (by decide) (hts (Cond.fieldLink RX6 47 "YarncourtModel" "holders" "[I") (List.mem_of_getElem? (i := 18) rfl)) (fun _ h9 => h9) rfl hin0 rfl (by decide +kernel) rfl rfl (Nat.le_of_ble_eq_true rfl) dX6_init_104 (fun H locs hP hD hS => ?_)
  have hV : kV G ([(h, .inr (7, [.int (nI (0)), .int (nI (0)), .ref (q_1), .ref (q_2), .ref (q_3), .ref (q_4), .ref (q_5), .ref (q_6), .ref (q_7), .ref (q_8), .ref (q_9), .int (nI (0)), .ref (q_10), .ref (q_11), .ref (q_12), .int (nI (0)), .ref (q_13), .null, .null, .int (nI (0)), .null, .null, .null, .null, .int (nI (0)), .int (nI (0))])), (q_1, aN (kcI G) 16 ((fun _ => 0))), (q_2, aN (kcI G) 16 ((fun _ => 0))), (q_3, aN (kcI G) 16 ((fun _ => 0))), (q_4, aN (kcI G) 16 ((fun _ => 0))), (q_5, aN (kcI G) 96 ((fun _ => 0))), (q_6, aN (kcI G) 96 ((fun _ => 0))), (q_7, aZ (kcI G) 96 ((fun _ => 0))), (q_8, aN (kcI G) 96 ((fun _ => 0))), (q_9, aN (kcI G) 16 ((fun _ => 0))), (q_10, aN (kcZ G) 16 ((fun _ => 0))), (q_11, aN (kcI G) 16 ((fun _ => 0))), (q_12, aR (kcI G) 5 ((fun _ => 0))), (q_13, aN (kcI G) 20 ((fun _ => 0)))] ++ wr) H := ⟨hP, hD⟩
  refine lv_aload_n hx hb dX6_init_107 rfl (lv_at hl 0 rfl) ?_
  refine lv_bipush (v := nI 20) hx hb dX6_init_108 (by decide) ?_
  refine kn_newI (G := G) (a := [(h, .inr (7, [.int (nI (0)), .int (nI (0)), .ref (q_1), .ref (q_2), .ref (q_3), .ref (q_4), .ref (q_5), .ref (q_6), .ref (q_7), .ref (q_8), .ref (q_9), .int (nI (0)), .ref (q_10), .ref (q_11), .ref (q_12), .int (nI (0)), .ref (q_13), .null, .null, .int (nI (0)), .null, .null, .null, .null, .int (nI (0)), .int (nI (0))])), (q_1, aN (kcI G) 16 ((fun _ => 0))), (q_2, aN (kcI G) 16 ((fun _ => 0))), (q_3, aN (kcI G) 16 ((fun _ => 0))), (q_4, aN (kcI G) 16 ((fun _ => 0))), (q_5, aN (kcI G) 96 ((fun _ => 0))), (q_6, aN (kcI G) 96 ((fun _ => 0))), (q_7, aZ (kcI G) 96 ((fun _ => 0))), (q_8, aN (kcI G) 96 ((fun _ => 0))), (q_9, aN (kcI G) 16 ((fun _ => 0))), (q_10, aN (kcZ G) 16 ((fun _ => 0))), (q_11, aN (kcI G) 16 ((fun _ => 0))), (q_12, aR (kcI G) 5 ((fun _ => 0))), (q_13, aN (kcI G) 20 ((fun _ => 0)))]) (wr := wr) (n := 20) hx hb (hts (Cond.arrayClass .int) (List.mem_of_getElem? (i := 4) rfl)) hK hV hS hB0 (by decide) (Nat.le_of_ble_eq_true rfl) (Nat.le_of_ble_eq_true rfl) dX6_init_110 (fun q_14 H hV hS => ?_)
  have hV : kV G ([(h, .inr (7, [.int (nI (0)), .int (nI (0)), .ref (q_1), .ref (q_2), .ref (q_3), .ref (q_4), .ref (q_5), .ref (q_6), .ref (q_7), .ref (q_8), .ref (q_9), .int (nI (0)), .ref (q_10), .ref (q_11), .ref (q_12), .int (nI (0)), .ref (q_13), .null, .null, .int (nI (0)), .null, .null, .null, .null, .int (nI (0)), .int (nI (0))])), (q_1, aN (kcI G) 16 ((fun _ => 0))), (q_2, aN (kcI G) 16 ((fun _ => 0))), (q_3, aN (kcI G) 16 ((fun _ => 0))), (q_4, aN (kcI G) 16 ((fun _ => 0))), (q_5, aN (kcI G) 96 ((fun _ => 0))), (q_6, aN (kcI G) 96 ((fun _ => 0))), (q_7, aZ (kcI G) 96 ((fun _ => 0))), (q_8, aN (kcI G) 96 ((fun _ => 0))), (q_9, aN (kcI G) 16 ((fun _ => 0))), (q_10, aN (kcZ G) 16 ((fun _ => 0))), (q_11, aN (kcI G) 16 ((fun _ => 0))), (q_12, aR (kcI G) 5 ((fun _ => 0))), (q_13, aN (kcI G) 20 ((fun _ => 0))), (q_14, aN (kcI G) 20 ((fun _ => 0)))] ++ wr) H := hV
  refine va_putF (D := kD G) (ci := 7) (v := .ref (q_14)) (ty := (.array .int)) (C := RX6) (T := TX6) (N := 26) hx hb hts hinX6 tyX6 tyX6_ok nmX6 hown hK hV.1 hV.2 hS 0 rfl rfl 17 (by decide) (hts (Cond.fieldLink RX6 50 "YarncourtModel" "gauges" "[I") (List.mem_of_getElem? (i := 19) rfl)) (fun _ h9 => h9) rfl hin0 rfl (by decide +kernel) rfl rfl (Nat.le_of_ble_eq_true rfl) dX6_init_112 (fun H locs hP hD hS => ?_)
  have hV : kV G ([(h, .inr (7, [.int (nI (0)), .int (nI (0)), .ref (q_1), .ref (q_2), .ref (q_3), .ref (q_4), .ref (q_5), .ref (q_6), .ref (q_7), .ref (q_8), .ref (q_9), .int (nI (0)), .ref (q_10), .ref (q_11), .ref (q_12), .int (nI (0)), .ref (q_13), .ref (q_14), .null, .int (nI (0)), .null, .null, .null, .null, .int (nI (0)), .int (nI (0))])), (q_1, aN (kcI G) 16 ((fun _ => 0))), (q_2, aN (kcI G) 16 ((fun _ => 0))), (q_3, aN (kcI G) 16 ((fun _ => 0))), (q_4, aN (kcI G) 16 ((fun _ => 0))), (q_5, aN (kcI G) 96 ((fun _ => 0))), (q_6, aN (kcI G) 96 ((fun _ => 0))), (q_7, aZ (kcI G) 96 ((fun _ => 0))), (q_8, aN (kcI G) 96 ((fun _ => 0))), (q_9, aN (kcI G) 16 ((fun _ => 0))), (q_10, aN (kcZ G) 16 ((fun _ => 0))), (q_11, aN (kcI G) 16 ((fun _ => 0))), (q_12, aR (kcI G) 5 ((fun _ => 0))), (q_13, aN (kcI G) 20 ((fun _ => 0))), (q_14, aN (kcI G) 20 ((fun _ => 0)))] ++ wr) H := ⟨hP, hD⟩
  refine lv_aload_n hx hb dX6_init_115 rfl (lv_at hl 0 rfl) ?_
  refine lv_bipush (v := nI 20) hx hb dX6_init_116 (by decide) ?_
  refine kn_newI (G := G) (a := [(h, .inr (7, [.int (nI (0)), .int (nI (0)), .ref (q_1), .ref (q_2), .ref (q_3), .ref (q_4), .ref (q_5), .ref (q_6), .ref (q_7), .ref (q_8), .ref (q_9), .int (nI (0)), .ref (q_10), .ref (q_11), .ref (q_12), .int (nI (0)), .ref (q_13), .ref (q_14), .null, .int (nI (0)), .null, .null, .null, .null, .int (nI (0)), .int (nI (0))])), (q_1, aN (kcI G) 16 ((fun _ => 0))), (q_2, aN (kcI G) 16 ((fun _ => 0))), (q_3, aN (kcI G) 16 ((fun _ => 0))), (q_4, aN (kcI G) 16 ((fun _ => 0))), (q_5, aN (kcI G) 96 ((fun _ => 0))), (q_6, aN (kcI G) 96 ((fun _ => 0))), (q_7, aZ (kcI G) 96 ((fun _ => 0))), (q_8, aN (kcI G) 96 ((fun _ => 0))), (q_9, aN (kcI G) 16 ((fun _ => 0))), (q_10, aN (kcZ G) 16 ((fun _ => 0))), (q_11, aN (kcI G) 16 ((fun _ => 0))), (q_12, aR (kcI G) 5 ((fun _ => 0))), (q_13, aN (kcI G) 20 ((fun _ => 0))), (q_14, aN (kcI G) 20 ((fun _ => 0)))]) (wr := wr) (n := 20) hx hb (hts (Cond.arrayClass .int) (List.mem_of_getElem? (i := 4) rfl)) hK hV hS hB0 (by decide) (Nat.le_of_ble_eq_true rfl) (Nat.le_of_ble_eq_true rfl) dX6_init_118 (fun q_15 H hV hS => ?_)
  have hV : kV G ([(h, .inr (7, [.int (nI (0)), .int (nI (0)), .ref (q_1), .ref (q_2), .ref (q_3), .ref (q_4), .ref (q_5), .ref (q_6), .ref (q_7), .ref (q_8), .ref (q_9), .int (nI (0)), .ref (q_10), .ref (q_11), .ref (q_12), .int (nI (0)), .ref (q_13), .ref (q_14), .null, .int (nI (0)), .null, .null, .null, .null, .int (nI (0)), .int (nI (0))])), (q_1, aN (kcI G) 16 ((fun _ => 0))), (q_2, aN (kcI G) 16 ((fun _ => 0))), (q_3, aN (kcI G) 16 ((fun _ => 0))), (q_4, aN (kcI G) 16 ((fun _ => 0))), (q_5, aN (kcI G) 96 ((fun _ => 0))), (q_6, aN (kcI G) 96 ((fun _ => 0))), (q_7, aZ (kcI G) 96 ((fun _ => 0))), (q_8, aN (kcI G) 96 ((fun _ => 0))), (q_9, aN (kcI G) 16 ((fun _ => 0))), (q_10, aN (kcZ G) 16 ((fun _ => 0))), (q_11, aN (kcI G) 16 ((fun _ => 0))), (q_12, aR (kcI G) 5 ((fun _ => 0))), (q_13, aN (kcI G) 20 ((fun _ => 0))), (q_14, aN (kcI G) 20 ((fun _ => 0))), (q_15, aN (kcI G) 20 ((fun _ => 0)))] ++ wr) H := hV
  refine va_putF (D := kD G) (ci := 7) (v := .ref (q_15)) (ty := (.array .int)) (C := RX6) (T := TX6) (N := 26) hx hb hts hinX6 tyX6 tyX6_ok nmX6 hown hK hV.1 hV.2 hS 0 rfl rfl 18 (by decide) (hts (Cond.fieldLink RX6 53 "YarncourtModel" "yarns" "[I") (List.mem_of_getElem? (i := 20) rfl)) (fun _ h9 => h9) rfl hin0 rfl (by decide +kernel) rfl rfl (Nat.le_of_ble_eq_true rfl) dX6_init_120 (fun H locs hP hD hS => ?_)
  have hV : kV G ([(h, .inr (7, [.int (nI (0)), .int (nI (0)), .ref (q_1), .ref (q_2), .ref (q_3), .ref (q_4), .ref (q_5), .ref (q_6), .ref (q_7), .ref (q_8), .ref (q_9), .int (nI (0)), .ref (q_10), .ref (q_11), .ref (q_12), .int (nI (0)), .ref (q_13), .ref (q_14), .ref (q_15), .int (nI (0)), .null, .null, .null, .null, .int (nI (0)), .int (nI (0))])), (q_1, aN (kcI G) 16 ((fun _ => 0))), (q_2, aN (kcI G) 16 ((fun _ => 0))), (q_3, aN (kcI G) 16 ((fun _ => 0))), (q_4, aN (kcI G) 16 ((fun _ => 0))), (q_5, aN (kcI G) 96 ((fun _ => 0))), (q_6, aN (kcI G) 96 ((fun _ => 0))), (q_7, aZ (kcI G) 96 ((fun _ => 0))), (q_8, aN (kcI G) 96 ((fun _ => 0))), (q_9, aN (kcI G) 16 ((fun _ => 0))), (q_10, aN (kcZ G) 16 ((fun _ => 0))), (q_11, aN (kcI G) 16 ((fun _ => 0))), (q_12, aR (kcI G) 5 ((fun _ => 0))), (q_13, aN (kcI G) 20 ((fun _ => 0))), (q_14, aN (kcI G) 20 ((fun _ => 0))), (q_15, aN (kcI G) 20 ((fun _ => 0)))] ++ wr) H := ⟨hP, hD⟩
  refine lv_aload_n hx hb dX6_init_123 rfl (lv_at hl 0 rfl) ?_
  refine lv_bipush (v := nI 12) hx hb dX6_init_124 (by decide) ?_
  refine kn_newI (G := G) (a := [(h, .inr (7, [.int (nI (0)), .int (nI (0)), .ref (q_1), .ref (q_2), .ref (q_3), .ref (q_4), .ref (q_5), .ref (q_6), .ref (q_7), .ref (q_8), .ref (q_9), .int (nI (0)), .ref (q_10), .ref (q_11), .ref (q_12), .int (nI (0)), .ref (q_13), .ref (q_14), .ref (q_15), .int (nI (0)), .null, .null, .null, .null, .int (nI (0)), .int (nI (0))])), (q_1, aN (kcI G) 16 ((fun _ => 0))), (q_2, aN (kcI G) 16 ((fun _ => 0))), (q_3, aN (kcI G) 16 ((fun _ => 0))), (q_4, aN (kcI G) 16 ((fun _ => 0))), (q_5, aN (kcI G) 96 ((fun _ => 0))), (q_6, aN (kcI G) 96 ((fun _ => 0))), (q_7, aZ (kcI G) 96 ((fun _ => 0))), (q_8, aN (kcI G) 96 ((fun _ => 0))), (q_9, aN (kcI G) 16 ((fun _ => 0))), (q_10, aN (kcZ G) 16 ((fun _ => 0))), (q_11, aN (kcI G) 16 ((fun _ => 0))), (q_12, aR (kcI G) 5 ((fun _ => 0))), (q_13, aN (kcI G) 20 ((fun _ => 0))), (q_14, aN (kcI G) 20 ((fun _ => 0))), (q_15, aN (kcI G) 20 ((fun _ => 0)))]) (wr := wr) (n := 12) hx hb (hts (Cond.arrayClass .int) (List.mem_of_getElem? (i := 4) rfl)) hK hV hS hB0 (by decide) (Nat.le_of_ble_eq_true rfl) (Nat.le_of_ble_eq_true rfl) dX6_init_126 (fun q_16 H hV hS => ?_)
  have hV : kV G ([(h, .inr (7, [.int (nI (0)), .int (nI (0)), .ref (q_1), .ref (q_2), .ref (q_3), .ref (q_4), .ref (q_5), .ref (q_6), .ref (q_7), .ref (q_8), .ref (q_9), .int (nI (0)), .ref (q_10), .ref (q_11), .ref (q_12), .int (nI (0)), .ref (q_13), .ref (q_14), .ref (q_15), .int (nI (0)), .null, .null, .null, .null, .int (nI (0)), .int (nI (0))])), (q_1, aN (kcI G) 16 ((fun _ => 0))), (q_2, aN (kcI G) 16 ((fun _ => 0))), (q_3, aN (kcI G) 16 ((fun _ => 0))), (q_4, aN (kcI G) 16 ((fun _ => 0))), (q_5, aN (kcI G) 96 ((fun _ => 0))), (q_6, aN (kcI G) 96 ((fun _ => 0))), (q_7, aZ (kcI G) 96 ((fun _ => 0))), (q_8, aN (kcI G) 96 ((fun _ => 0))), (q_9, aN (kcI G) 16 ((fun _ => 0))), (q_10, aN (kcZ G) 16 ((fun _ => 0))), (q_11, aN (kcI G) 16 ((fun _ => 0))), (q_12, aR (kcI G) 5 ((fun _ => 0))), (q_13, aN (kcI G) 20 ((fun _ => 0))), (q_14, aN (kcI G) 20 ((fun _ => 0))), (q_15, aN (kcI G) 20 ((fun _ => 0))), (q_16, aN (kcI G) 12 ((fun _ => 0)))] ++ wr) H := hV
  refine va_putF (D := kD G) (ci := 7) (v := .ref (q_16)) (ty := (.array .int)) (C := RX6) (T := TX6) (N := 26) hx hb hts hinX6 tyX6 tyX6_ok nmX6 hown hK hV.1 hV.2 hS 0 rfl rfl 20 (by decide) (hts (Cond.fieldLink RX6 56 "YarncourtModel" "knitters" "[I") (List.mem_of_getElem? (i := 21) rfl)) (fun _ h9 => h9) rfl hin0 rfl (by decide +kernel) rfl rfl (Nat.le_of_ble_eq_true rfl) dX6_init_128 (fun H locs hP hD hS => ?_)
  have hV : kV G ([(h, .inr (7, [.int (nI (0)), .int (nI (0)), .ref (q_1), .ref (q_2), .ref (q_3), .ref (q_4), .ref (q_5), .ref (q_6), .ref (q_7), .ref (q_8), .ref (q_9), .int (nI (0)), .ref (q_10), .ref (q_11), .ref (q_12), .int (nI (0)), .ref (q_13), .ref (q_14), .ref (q_15), .int (nI (0)), .ref (q_16), .null, .null, .null, .int (nI (0)), .int (nI (0))])), (q_1, aN (kcI G) 16 ((fun _ => 0))), (q_2, aN (kcI G) 16 ((fun _ => 0))), (q_3, aN (kcI G) 16 ((fun _ => 0))), (q_4, aN (kcI G) 16 ((fun _ => 0))), (q_5, aN (kcI G) 96 ((fun _ => 0))), (q_6, aN (kcI G) 96 ((fun _ => 0))), (q_7, aZ (kcI G) 96 ((fun _ => 0))), (q_8, aN (kcI G) 96 ((fun _ => 0))), (q_9, aN (kcI G) 16 ((fun _ => 0))), (q_10, aN (kcZ G) 16 ((fun _ => 0))), (q_11, aN (kcI G) 16 ((fun _ => 0))), (q_12, aR (kcI G) 5 ((fun _ => 0))), (q_13, aN (kcI G) 20 ((fun _ => 0))), (q_14, aN (kcI G) 20 ((fun _ => 0))), (q_15, aN (kcI G) 20 ((fun _ => 0))), (q_16, aN (kcI G) 12 ((fun _ => 0)))] ++ wr) H := ⟨hP, hD⟩
  refine lv_aload_n hx hb dX6_init_131 rfl (lv_at hl 0 rfl) ?_
  refine lv_bipush (v := nI 12) hx hb dX6_init_132 (by decide) ?_
  refine kn_newI (G := G) (a := [(h, .inr (7, [.int (nI (0)), .int (nI (0)), .ref (q_1), .ref (q_2), .ref (q_3), .ref (q_4), .ref (q_5), .ref (q_6), .ref (q_7), .ref (q_8), .ref (q_9), .int (nI (0)), .ref (q_10), .ref (q_11), .ref (q_12), .int (nI (0)), .ref (q_13), .ref (q_14), .ref (q_15), .int (nI (0)), .ref (q_16), .null, .null, .null, .int (nI (0)), .int (nI (0))])), (q_1, aN (kcI G) 16 ((fun _ => 0))), (q_2, aN (kcI G) 16 ((fun _ => 0))), (q_3, aN (kcI G) 16 ((fun _ => 0))), (q_4, aN (kcI G) 16 ((fun _ => 0))), (q_5, aN (kcI G) 96 ((fun _ => 0))), (q_6, aN (kcI G) 96 ((fun _ => 0))), (q_7, aZ (kcI G) 96 ((fun _ => 0))), (q_8, aN (kcI G) 96 ((fun _ => 0))), (q_9, aN (kcI G) 16 ((fun _ => 0))), (q_10, aN (kcZ G) 16 ((fun _ => 0))), (q_11, aN (kcI G) 16 ((fun _ => 0))), (q_12, aR (kcI G) 5 ((fun _ => 0))), (q_13, aN (kcI G) 20 ((fun _ => 0))), (q_14, aN (kcI G) 20 ((fun _ => 0))), (q_15, aN (kcI G) 20 ((fun _ => 0))), (q_16, aN (kcI G) 12 ((fun _ => 0)))]) (wr := wr) (n := 12) hx hb (hts (Cond.arrayClass .int) (List.mem_of_getElem? (i := 4) rfl)) hK hV hS hB0 (by decide) (Nat.le_of_ble_eq_true rfl) (Nat.le_of_ble_eq_true rfl) dX6_init_134 (fun q_17 H hV hS => ?_)
  have hV : kV G ([(h, .inr (7, [.int (nI (0)), .int (nI (0)), .ref (q_1), .ref (q_2), .ref (q_3), .ref (q_4), .ref (q_5), .ref (q_6), .ref (q_7), .ref (q_8), .ref (q_9), .int (nI (0)), .ref (q_10), .ref (q_11), .ref (q_12), .int (nI (0)), .ref (q_13), .ref (q_14), .ref (q_15), .int (nI (0)), .ref (q_16), .null, .null, .null, .int (nI (0)), .int (nI (0))])), (q_1, aN (kcI G) 16 ((fun _ => 0))), (q_2, aN (kcI G) 16 ((fun _ => 0))), (q_3, aN (kcI G) 16 ((fun _ => 0))), (q_4, aN (kcI G) 16 ((fun _ => 0))), (q_5, aN (kcI G) 96 ((fun _ => 0))), (q_6, aN (kcI G) 96 ((fun _ => 0))), (q_7, aZ (kcI G) 96 ((fun _ => 0))), (q_8, aN (kcI G) 96 ((fun _ => 0))), (q_9, aN (kcI G) 16 ((fun _ => 0))), (q_10, aN (kcZ G) 16 ((fun _ => 0))), (q_11, aN (kcI G) 16 ((fun _ => 0))), (q_12, aR (kcI G) 5 ((fun _ => 0))), (q_13, aN (kcI G) 20 ((fun _ => 0))), (q_14, aN (kcI G) 20 ((fun _ => 0))), (q_15, aN (kcI G) 20 ((fun _ => 0))), (q_16, aN (kcI G) 12 ((fun _ => 0))), (q_17, aN (kcI G) 12 ((fun _ => 0)))] ++ wr) H := hV
  refine va_putF (D := kD G) (ci := 7) (v := .ref (q_17)) (ty := (.array .int)) (C := RX6) (T := TX6) (N := 26) hx hb hts hinX6 tyX6 tyX6_ok nmX6 hown hK hV.1 hV.2 hS 0 rfl rfl 21 (by decide) (hts (Cond.fieldLink RX6 59 "YarncourtModel" "projectPatterns" "[I") (List.mem_of_getElem? (i := 22) rfl)) (fun _ h9 => h9) rfl hin0 rfl (by decide +kernel) rfl rfl (Nat.le_of_ble_eq_true rfl) dX6_init_136 (fun H locs hP hD hS => ?_)
  have hV : kV G ([(h, .inr (7, [.int (nI (0)), .int (nI (0)), .ref (q_1), .ref (q_2), .ref (q_3), .ref (q_4), .ref (q_5), .ref (q_6), .ref (q_7), .ref (q_8), .ref (q_9), .int (nI (0)), .ref (q_10), .ref (q_11), .ref (q_12), .int (nI (0)), .ref (q_13), .ref (q_14), .ref (q_15), .int (nI (0)), .ref (q_16), .ref (q_17), .null, .null, .int (nI (0)), .int (nI (0))])), (q_1, aN (kcI G) 16 ((fun _ => 0))), (q_2, aN (kcI G) 16 ((fun _ => 0))), (q_3, aN (kcI G) 16 ((fun _ => 0))), (q_4, aN (kcI G) 16 ((fun _ => 0))), (q_5, aN (kcI G) 96 ((fun _ => 0))), (q_6, aN (kcI G) 96 ((fun _ => 0))), (q_7, aZ (kcI G) 96 ((fun _ => 0))), (q_8, aN (kcI G) 96 ((fun _ => 0))), (q_9, aN (kcI G) 16 ((fun _ => 0))), (q_10, aN (kcZ G) 16 ((fun _ => 0))), (q_11, aN (kcI G) 16 ((fun _ => 0))), (q_12, aR (kcI G) 5 ((fun _ => 0))), (q_13, aN (kcI G) 20 ((fun _ => 0))), (q_14, aN (kcI G) 20 ((fun _ => 0))), (q_15, aN (kcI G) 20 ((fun _ => 0))), (q_16, aN (kcI G) 12 ((fun _ => 0))), (q_17, aN (kcI G) 12 ((fun _ => 0)))] ++ wr) H := ⟨hP, hD⟩
  refine lv_aload_n hx hb dX6_init_139 rfl (lv_at hl 0 rfl) ?_
  refine lv_bipush (v := nI 12) hx hb dX6_init_140 (by decide) ?_
  refine kn_newI (G := G) (a := [(h, .inr (7, [.int (nI (0)), .int (nI (0)), .ref (q_1), .ref (q_2), .ref (q_3), .ref (q_4), .ref (q_5), .ref (q_6), .ref (q_7), .ref (q_8), .ref (q_9), .int (nI (0)), .ref (q_10), .ref (q_11), .ref (q_12), .int (nI (0)), .ref (q_13), .ref (q_14), .ref (q_15), .int (nI (0)), .ref (q_16), .ref (q_17), .null, .null, .int (nI (0)), .int (nI (0))])), (q_1, aN (kcI G) 16 ((fun _ => 0))), (q_2, aN (kcI G) 16 ((fun _ => 0))), (q_3, aN (kcI G) 16 ((fun _ => 0))), (q_4, aN (kcI G) 16 ((fun _ => 0))), (q_5, aN (kcI G) 96 ((fun _ => 0))), (q_6, aN (kcI G) 96 ((fun _ => 0))), (q_7, aZ (kcI G) 96 ((fun _ => 0))), (q_8, aN (kcI G) 96 ((fun _ => 0))), (q_9, aN (kcI G) 16 ((fun _ => 0))), (q_10, aN (kcZ G) 16 ((fun _ => 0))), (q_11, aN (kcI G) 16 ((fun _ => 0))), (q_12, aR (kcI G) 5 ((fun _ => 0))), (q_13, aN (kcI G) 20 ((fun _ => 0))), (q_14, aN (kcI G) 20 ((fun _ => 0))), (q_15, aN (kcI G) 20 ((fun _ => 0))), (q_16, aN (kcI G) 12 ((fun _ => 0))), (q_17, aN (kcI G) 12 ((fun _ => 0)))]) (wr := wr) (n := 12) hx hb (hts (Cond.arrayClass .int) (List.mem_of_getElem? (i := 4) rfl)) hK hV hS hB0 (by decide) (Nat.le_of_ble_eq_true rfl) (Nat.le_of_ble_eq_true rfl) dX6_init_142 (fun q_18 H hV hS => ?_)
  have hV : kV G ([(h, .inr (7, [.int (nI (0)), .int (nI (0)), .ref (q_1), .ref (q_2), .ref (q_3), .ref (q_4), .ref (q_5), .ref (q_6), .ref (q_7), .ref (q_8), .ref (q_9), .int (nI (0)), .ref (q_10), .ref (q_11), .ref (q_12), .int (nI (0)), .ref (q_13), .ref (q_14), .ref (q_15), .int (nI (0)), .ref (q_16), .ref (q_17), .null, .null, .int (nI (0)), .int (nI (0))])), (q_1, aN (kcI G) 16 ((fun _ => 0))), (q_2, aN (kcI G) 16 ((fun _ => 0))), (q_3, aN (kcI G) 16 ((fun _ => 0))), (q_4, aN (kcI G) 16 ((fun _ => 0))), (q_5, aN (kcI G) 96 ((fun _ => 0))), (q_6, aN (kcI G) 96 ((fun _ => 0))), (q_7, aZ (kcI G) 96 ((fun _ => 0))), (q_8, aN (kcI G) 96 ((fun _ => 0))), (q_9, aN (kcI G) 16 ((fun _ => 0))), (q_10, aN (kcZ G) 16 ((fun _ => 0))), (q_11, aN (kcI G) 16 ((fun _ => 0))), (q_12, aR (kcI G) 5 ((fun _ => 0))), (q_13, aN (kcI G) 20 ((fun _ => 0))), (q_14, aN (kcI G) 20 ((fun _ => 0))), (q_15, aN (kcI G) 20 ((fun _ => 0))), (q_16, aN (kcI G) 12 ((fun _ => 0))), (q_17, aN (kcI G) 12 ((fun _ => 0))), (q_18, aN (kcI G) 12 ((fun _ => 0)))] ++ wr) H := hV
  refine va_putF (D := kD G) (ci := 7) (v := .ref (q_18)) (ty := (.array .int)) (C := RX6) (T := TX6) (N := 26) hx hb hts hinX6 tyX6 tyX6_ok nmX6 hown hK hV.1 hV.2 hS 0 rfl rfl 22 (by decide) (hts (Cond.fieldLink RX6 62 "YarncourtModel" "projectLots" "[I") (List.mem_of_getElem? (i := 23) rfl)) (fun _ h9 => h9) rfl hin0 rfl (by decide +kernel) rfl rfl (Nat.le_of_ble_eq_true rfl) dX6_init_144 (fun H locs hP hD hS => ?_)
  have hV : kV G ([(h, .inr (7, [.int (nI (0)), .int (nI (0)), .ref (q_1), .ref (q_2), .ref (q_3), .ref (q_4), .ref (q_5), .ref (q_6), .ref (q_7), .ref (q_8), .ref (q_9), .int (nI (0)), .ref (q_10), .ref (q_11), .ref (q_12), .int (nI (0)), .ref (q_13), .ref (q_14), .ref (q_15), .int (nI (0)), .ref (q_16), .ref (q_17), .ref (q_18), .null, .int (nI (0)), .int (nI (0))])), (q_1, aN (kcI G) 16 ((fun _ => 0))), (q_2, aN (kcI G) 16 ((fun _ => 0))), (q_3, aN (kcI G) 16 ((fun _ => 0))), (q_4, aN (kcI G) 16 ((fun _ => 0))), (q_5, aN (kcI G) 96 ((fun _ => 0))), (q_6, aN (kcI G) 96 ((fun _ => 0))), (q_7, aZ (kcI G) 96 ((fun _ => 0))), (q_8, aN (kcI G) 96 ((fun _ => 0))), (q_9, aN (kcI G) 16 ((fun _ => 0))), (q_10, aN (kcZ G) 16 ((fun _ => 0))), (q_11, aN (kcI G) 16 ((fun _ => 0))), (q_12, aR (kcI G) 5 ((fun _ => 0))), (q_13, aN (kcI G) 20 ((fun _ => 0))), (q_14, aN (kcI G) 20 ((fun _ => 0))), (q_15, aN (kcI G) 20 ((fun _ => 0))), (q_16, aN (kcI G) 12 ((fun _ => 0))), (q_17, aN (kcI G) 12 ((fun _ => 0))), (q_18, aN (kcI G) 12 ((fun _ => 0)))] ++ wr) H := ⟨hP, hD⟩
  refine lv_aload_n hx hb dX6_init_147 rfl (lv_at hl 0 rfl) ?_
  refine lv_bipush (v := nI 12) hx hb dX6_init_148 (by decide) ?_
  refine kn_newI (G := G) (a := [(h, .inr (7, [.int (nI (0)), .int (nI (0)), .ref (q_1), .ref (q_2), .ref (q_3), .ref (q_4), .ref (q_5), .ref (q_6), .ref (q_7), .ref (q_8), .ref (q_9), .int (nI (0)), .ref (q_10), .ref (q_11), .ref (q_12), .int (nI (0)), .ref (q_13), .ref (q_14), .ref (q_15), .int (nI (0)), .ref (q_16), .ref (q_17), .ref (q_18), .null, .int (nI (0)), .int (nI (0))])), (q_1, aN (kcI G) 16 ((fun _ => 0))), (q_2, aN (kcI G) 16 ((fun _ => 0))), (q_3, aN (kcI G) 16 ((fun _ => 0))), (q_4, aN (kcI G) 16 ((fun _ => 0))), (q_5, aN (kcI G) 96 ((fun _ => 0))), (q_6, aN (kcI G) 96 ((fun _ => 0))), (q_7, aZ (kcI G) 96 ((fun _ => 0))), (q_8, aN (kcI G) 96 ((fun _ => 0))), (q_9, aN (kcI G) 16 ((fun _ => 0))), (q_10, aN (kcZ G) 16 ((fun _ => 0))), (q_11, aN (kcI G) 16 ((fun _ => 0))), (q_12, aR (kcI G) 5 ((fun _ => 0))), (q_13, aN (kcI G) 20 ((fun _ => 0))), (q_14, aN (kcI G) 20 ((fun _ => 0))), (q_15, aN (kcI G) 20 ((fun _ => 0))), (q_16, aN (kcI G) 12 ((fun _ => 0))), (q_17, aN (kcI G) 12 ((fun _ => 0))), (q_18, aN (kcI G) 12 ((fun _ => 0)))]) (wr := wr) (n := 12) hx hb (hts (Cond.arrayClass .int) (List.mem_of_getElem? (i := 4) rfl)) hK hV hS hB0 (by decide) (Nat.le_of_ble_eq_true rfl) (Nat.le_of_ble_eq_true rfl) dX6_init_150 (fun q_19 H hV hS => ?_)
  have hV : kV G ([(h, .inr (7, [.int (nI (0)), .int (nI (0)), .ref (q_1), .ref (q_2), .ref (q_3), .ref (q_4), .ref (q_5), .ref (q_6), .ref (q_7), .ref (q_8), .ref (q_9), .int (nI (0)), .ref (q_10), .ref (q_11), .ref (q_12), .int (nI (0)), .ref (q_13), .ref (q_14), .ref (q_15), .int (nI (0)), .ref (q_16), .ref (q_17), .ref (q_18), .null, .int (nI (0)), .int (nI (0))])), (q_1, aN (kcI G) 16 ((fun _ => 0))), (q_2, aN (kcI G) 16 ((fun _ => 0))), (q_3, aN (kcI G) 16 ((fun _ => 0))), (q_4, aN (kcI G) 16 ((fun _ => 0))), (q_5, aN (kcI G) 96 ((fun _ => 0))), (q_6, aN (kcI G) 96 ((fun _ => 0))), (q_7, aZ (kcI G) 96 ((fun _ => 0))), (q_8, aN (kcI G) 96 ((fun _ => 0))), (q_9, aN (kcI G) 16 ((fun _ => 0))), (q_10, aN (kcZ G) 16 ((fun _ => 0))), (q_11, aN (kcI G) 16 ((fun _ => 0))), (q_12, aR (kcI G) 5 ((fun _ => 0))), (q_13, aN (kcI G) 20 ((fun _ => 0))), (q_14, aN (kcI G) 20 ((fun _ => 0))), (q_15, aN (kcI G) 20 ((fun _ => 0))), (q_16, aN (kcI G) 12 ((fun _ => 0))), (q_17, aN (kcI G) 12 ((fun _ => 0))), (q_18, aN (kcI G) 12 ((fun _ => 0))), (q_19, aN (kcI G) 12 ((fun _ => 0)))] ++ wr) H := hV
  refine va_putF (D := kD G) (ci := 7) (v := .ref (q_19)) (ty := (.array .int)) (C := RX6) (T := TX6) (N := 26) hx hb hts hinX6 tyX6 tyX6_ok nmX6 hown hK hV.1 hV.2 hS 0 rfl rfl 23 (by decide) (hts (Cond.fieldLink RX6 65 "YarncourtModel" "done" "[I") (List.mem_of_getElem? (i := 24) rfl)) (fun _ h9 => h9) rfl hin0 rfl (by decide +kernel) rfl rfl (Nat.le_of_ble_eq_true rfl) dX6_init_152 (fun H locs hP hD hS => ?_)
  have hV : kV G ([(h, .inr (7, [.int (nI (0)), .int (nI (0)), .ref (q_1), .ref (q_2), .ref (q_3), .ref (q_4), .ref (q_5), .ref (q_6), .ref (q_7), .ref (q_8), .ref (q_9), .int (nI (0)), .ref (q_10), .ref (q_11), .ref (q_12), .int (nI (0)), .ref (q_13), .ref (q_14), .ref (q_15), .int (nI (0)), .ref (q_16), .ref (q_17), .ref (q_18), .ref (q_19), .int (nI (0)), .int (nI (0))])), (q_1, aN (kcI G) 16 ((fun _ => 0))), (q_2, aN (kcI G) 16 ((fun _ => 0))), (q_3, aN (kcI G) 16 ((fun _ => 0))), (q_4, aN (kcI G) 16 ((fun _ => 0))), (q_5, aN (kcI G) 96 ((fun _ => 0))), (q_6, aN (kcI G) 96 ((fun _ => 0))), (q_7, aZ (kcI G) 96 ((fun _ => 0))), (q_8, aN (kcI G) 96 ((fun _ => 0))), (q_9, aN (kcI G) 16 ((fun _ => 0))), (q_10, aN (kcZ G) 16 ((fun _ => 0))), (q_11, aN (kcI G) 16 ((fun _ => 0))), (q_12, aR (kcI G) 5 ((fun _ => 0))), (q_13, aN (kcI G) 20 ((fun _ => 0))), (q_14, aN (kcI G) 20 ((fun _ => 0))), (q_15, aN (kcI G) 20 ((fun _ => 0))), (q_16, aN (kcI G) 12 ((fun _ => 0))), (q_17, aN (kcI G) 12 ((fun _ => 0))), (q_18, aN (kcI G) 12 ((fun _ => 0))), (q_19, aN (kcI G) 12 ((fun _ => 0)))] ++ wr) H := ⟨hP, hD⟩
  exact W.vret hx hb hrt (fun t ht hW => ⟨⟨kad [0, 0, q_1, q_2, q_3, q_4, q_5, q_6, q_7, q_8, q_9, 0, q_10, q_11, q_12, 0, q_13, q_14, q_15, 0, q_16, q_17, q_18, q_19, 0, 0], rfl, trivial, kV_eq ht hV⟩, hS.F ht⟩) hS.2.2 dX6_init_155
