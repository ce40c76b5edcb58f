set_option maxHeartbeats 4000000 in
set_option maxRecDepth 100000 in
theorem c_X6_anew (l : Launch) (G : kG) (h : Nat) (ad : Nat → Nat) (rf : Nat) (rl : Nat) (rw : Nat) (S : kS) (wr : va_W) (p : Int32) (g : Int32) (hI : kInv S) : Met l yX6_anew wsX6_anew ({ frames := 2, cells := 0, slots := 0, locals := 43 } : Room) (kPc G [.ref (h), .int (p), .int (g)] (kM G h ad rf rl rw S ++ wr)) (kQi G (S := Nat × Nat) (fun q _ => q = (opAnew S p g).2.1) (fun uu => kM G h ad ((opAnew S p g).1) uu.1 uu.2 ((opAnew S p g).2.2) ++ wr)) 0 0 (kA G) := by
  refine Met.ofW (cc := cX6_anew) (maxL := 9) (ret := (some .int)) (by decide) rfl ?_
  intro pp ee s m args below meth cc0 s₁ B hml hv
  obtain ⟨rfl, hE, hV⟩ := hv
  have hK := hE.1
  have hx := B.exec
  have hb := B.bytes
  have hrt := B.returns
  have hts := atoms_spec (ws := wsX6_anew) B.pre
  have hown : s.vm.findClass RX6 = some m.cls := findClass_of_methodNamed B.named
  have hlocks := B.notSynchronized
  have hF : CallFix pp m cc0 cX6_anew 9 s _ wsX6_anew RX6 := ⟨hx, hb, hml, hown, hts⟩
  have hinX6 : ∀ w ∈ wsX60, w ∈ wsX6_anew := tb_of [36, 37, 38, 39, 40, 41, 42, 43, 44, 45, 46, 47, 48, 49, 50, 51, 52, 53, 54, 55, 56, 57, 58, 59, 60, 61] rfl
  have hS : va_S (kA G) s.heap s.heap [] := va_S.rf
  have hB0 := hE.2.1
  have hl := lv_entry ([.ref (h), .int (p), .int (g)]) (n := 9) (Nat.le_of_ble_eq_true rfl)
  rw [lg_entry_eq]
  generalize (lg_sl ([.ref (h), .int (p), .int (g)]) ++ List.replicate (9 - (lg_sl ([.ref (h), .int (p), .int (g)])).length) Slot.unset).toArray = ls at hl ⊢
  have hl : lv_has ls 9 [(0, .ref (h)), (1, .int (p)), (2, .int (g))] := hl
  obtain ⟨⟨hnp, hnl, hnj, hpu⟩, hIP, hIQ, hIL, hIJ, hIK, hIO⟩ := id hI
  refine lv_iload_n hx hb dX6_anew_0 rfl (lv_at hl 2 rfl) ?_
  refine lv_iconst (v := nI 5) hx hb dX6_anew_1 (by decide) ?_
  refine lv_bipush (v := nI 20) hx hb dX6_anew_2 (by decide) ?_
  refine kc_i (va_runS (As := [.int (g), .int (nI (5)), .int (nI (20))]) (rest := []) hF (c_X6_in l G g (nI 5) (nI 20) (kM G h ad rf rl rw S ++ wr)) (va_cwS 3 hts gX6_anew_X6_in rfl rfl rfl (by decide +kernel) ⟨Nat.le_of_ble_eq_true rfl, Nat.le_of_ble_eq_true rfl⟩) (kPreS hE hS hV) rfl rfl hl.1 rfl (lv_room (Nat.le_of_ble_eq_true rfl)) dX6_anew_4 ⟨Nat.le_of_ble_eq_true rfl, Nat.le_of_ble_eq_true rfl⟩) hS (fun r_3 u_2 H locs hp_1 hV hS => ?_)
  subst hp_1
  have hV : kV G (kM G h ad rf rl rw S ++ wr) H := hV
  refine lv_istore_n (lv' := [(3, .int (nI (kb (nI 5 ≤ g ∧ g ≤ nI 20)))), (0, .ref (h)), (1, .int (p)), (2, .int (g))]) hx hb dX6_anew_7 rfl hl (by decide) rfl (fun ls hl => ?_)
  have J60 : ∀ (H : Heap) (locs : List Loc), kV G (kM G h ad rf rl rw S ++ wr) H → va_S (kA G) s.heap H locs → ∀ (ls : Array Slot), lv_has ls 9 [(0, .ref (h)), (1, .int (p)), (2, .int (g)), (3, .int (nI (kb (nI 5 ≤ g ∧ g ≤ nI 20)))), (4, .int (nI (kif (isIn p (S.1 1 0) ∧ inI g (nI 5) (nI 20)) (anewRows S (tn p) (tn g)) 0)))] → W pp l ee (headSpec wsX6_anew ({ frames := 2, cells := 0, slots := 0, locals := 43 } : Room)).room s m [.ref (h), .int (p), .int (g)].toArray below meth cc0 H locs 0 0 (MQ below (kQi G (S := Nat × Nat) (fun q _ => q = (opAnew S p g).2.1) (fun uu => kM G h ad ((opAnew S p g).1) uu.1 uu.2 ((opAnew S p g).2.2) ++ wr)) [.ref (h), .int (p), .int (g)].toArray s 0 0 (kA G)) (F0 m 60 ls []) := by
    intro  H locs hV hS ls hl
    refine lv_iload hx hb dX6_anew_60 (lv_at hl 4 rfl) ?_
    have hbd : kif (isIn p (S.1 1 0) ∧ inI g (nI 5) (nI 20)) (anewRows S (tn p) (tn g)) 0 ≤ 480 := by
      by_cases c0 : isIn p (S.1 1 0) ∧ inI g (nI 5) (nI 20)
      · rw [kif_t c0]
        obtain ⟨⟨j, hj, rfl⟩, hg0⟩ := c0
        obtain ⟨jg, hjg1, hjg2, rfl⟩ := rng_nI hg0 (by decide) (by decide)
        obtain ⟨hokj, -⟩ := hIP j hj
        rw [tn_nI (by omega), tn_nI (by omega)]
        have := sumN_bd (f := fun k => oftN (S.1 9 (6 * j + k)) jg) (c := 80) (n := S.1 5 j) (fun k hk => (oftN_in (hokj.2.2.2.2 k hk).2.2.2.2.1 hjg2).2)
        have := hokj.1
        unfold anewRows; omega
      · rw [kif_f c0]; omega
    have J86 : ∀ (H : Heap) (locs : List Loc), kV G (kM G h ad rf rl rw S ++ wr) H → va_S (kA G) s.heap H locs → ∀ (ls : Array Slot), lv_has ls 9 [(0, .ref (h)), (1, .int (p)), (2, .int (g)), (3, .int (nI (kb (nI 5 ≤ g ∧ g ≤ nI 20)))), (4, .int (nI (kif (isIn p (S.1 1 0) ∧ inI g (nI 5) (nI 20)) (anewRows S (tn p) (tn g)) 0)))] → W pp l ee (headSpec wsX6_anew ({ frames := 2, cells := 0, slots := 0, locals := 43 } : Room)).room s m [.ref (h), .int (p), .int (g)].toArray below meth cc0 H locs 0 0 (MQ below (kQi G (S := Nat × Nat) (fun q _ => q = (opAnew S p g).2.1) (fun uu => kM G h ad ((opAnew S p g).1) uu.1 uu.2 ((opAnew S p g).2.2) ++ wr)) [.ref (h), .int (p), .int (g)].toArray s 0 0 (kA G)) (F0 m 86 ls [.int (nI (kb (0 < kif (isIn p (S.1 1 0) ∧ inI g (nI 5) (nI 20)) (anewRows S (tn p) (tn g)) 0 ∧ kif (isIn p (S.1 1 0) ∧ inI g (nI 5) (nI 20)) (anewRows S (tn p) (tn g)) 0 ≤ 40 ∧ S.1 1 0 < 16)))]) := by
      intro  H locs hV hS ls hl
      refine lv_istore (lv' := [(5, .int (nI (kb (0 < kif (isIn p (S.1 1 0) ∧ inI g (nI 5) (nI 20)) (anewRows S (tn p) (tn g)) 0 ∧ kif (isIn p (S.1 1 0) ∧ inI g (nI 5) (nI 20)) (anewRows S (tn p) (tn g)) 0 ≤ 40 ∧ S.1 1 0 < 16)))), (0, .ref (h)), (1, .int (p)), (2, .int (g)), (3, .int (nI (kb (nI 5 ≤ g ∧ g ≤ nI 20)))), (4, .int (nI (kif (isIn p (S.1 1 0) ∧ inI g (nI 5) (nI 20)) (anewRows S (tn p) (tn g)) 0)))]) hx hb dX6_anew_86 hl (by decide) rfl (fun ls hl => ?_)
      refine lv_aload_n hx hb dX6_anew_88 rfl (lv_at hl 1 rfl) ?_
      refine lv_aload_n hx hb dX6_anew_89 rfl (lv_at hl 1 rfl) ?_
      refine lv_iload_n hx hb dX6_anew_90 rfl (lv_at hl 2 rfl) ?_
      refine kc_i (va_runV (As := [.int (p)]) (rest := [.ref (h)]) hF (c_X6_isPattern l G h ad rf rl rw S wr p (by omega)) (cwV 1 hts gX6_anew_X6_isPattern rfl rfl rfl (by decide +kernel) ⟨Nat.le_of_ble_eq_true rfl, Nat.le_of_ble_eq_true rfl⟩) (kPreV hE hS hV 0 rfl rfl) rfl rfl hl.1 rfl (lv_room (Nat.le_of_ble_eq_true rfl)) dX6_anew_91 ⟨Nat.le_of_ble_eq_true rfl, Nat.le_of_ble_eq_true rfl⟩) hS (fun r_6 u_5 H locs hp_4 hV hS => ?_)
      subst hp_4
      have hV : kV G (kM G h ad rf rl rw S ++ wr) H := hV
      refine kb_if_ne (tgt := 101) hx hb dX6_anew_94 (by decide) (fun c94 => ?_) (fun c94 => ?_)
      · refine lv_iload_n hx hb dX6_anew_101 rfl (lv_at hl 4 rfl) ?_
        refine kb_if_ne (tgt := 109) hx hb dX6_anew_102 (by decide) (fun c102 => ?_) (fun c102 => ?_)
        · refine lv_iload hx hb dX6_anew_109 (lv_at hl 0 rfl) ?_
          refine kb_if_eq (tgt := 118) hx hb dX6_anew_111 (by decide) (fun c111 => ?_) (fun c111 => ?_)
          · refine lv_iconst (v := nI 3) hx hb dX6_anew_118 (by decide) ?_
            refine kc_i (va_runV (As := [.int (nI (3))]) (rest := []) hF (c_X6_refused l G h ad rf rl rw S wr 3 (by omega)) (cwV 1 hts gX6_anew_X6_refused rfl rfl rfl (by decide +kernel) ⟨Nat.le_of_ble_eq_true rfl, Nat.le_of_ble_eq_true rfl⟩) (kPreV hE hS hV 0 rfl rfl) rfl rfl hl.1 rfl (lv_room (Nat.le_of_ble_eq_true rfl)) dX6_anew_119 ⟨Nat.le_of_ble_eq_true rfl, Nat.le_of_ble_eq_true rfl⟩) hS (fun r_9 u_8 H locs hp_7 hV hS => ?_)
            subst hp_7
            refine W.eq (g2 := F0 m 122 ls [.int (nI (1))]) (by rw [kb_t (by decide)]) ?_
            have hV : kV G (kM G h ad 3 rl rw S ++ wr) H := hV
            refine kn_if_eq_not hx hb (by decide) dX6_anew_122 ?_ 127 (by decide)
            refine lv_iconst (v := nI 0) hx hb dX6_anew_125 (by decide) ?_
            have hop : opAnew S p g = (3, nI 0, S) := by
              unfold opAnew
              rw [kif_f (fun z => z c94), kif_f (fun z => z c102), kif_t (fun z => c111 (by rw [kif_t ⟨c94, c102⟩]; exact z))] <;> rfl
            exact W.iret (v := nI 0) hx hb hrt (fun t ht hW => ⟨⟨_, (rl, rw), rfl, by rw [hop], kV_eq ht (by rw [hop]; exact hV)⟩, hS.F ht⟩) hS.2.2 dX6_anew_126
          · refine lv_iconst (v := nI 0) hx hb dX6_anew_114 (by decide) ?_
            refine lv_goto (tgt := 119) hx hb dX6_anew_115 (by decide) ?_
            refine kc_i (va_runV (As := [.int (nI (0))]) (rest := []) hF (c_X6_refused l G h ad rf rl rw S wr 0 (by omega)) (cwV 1 hts gX6_anew_X6_refused rfl rfl rfl (by decide +kernel) ⟨Nat.le_of_ble_eq_true rfl, Nat.le_of_ble_eq_true rfl⟩) (kPreV hE hS hV 0 rfl rfl) rfl rfl hl.1 rfl (lv_room (Nat.le_of_ble_eq_true rfl)) dX6_anew_119 ⟨Nat.le_of_ble_eq_true rfl, Nat.le_of_ble_eq_true rfl⟩) hS (fun r_12 u_11 H locs hp_10 hV hS => ?_)
            subst hp_10
            refine W.eq (g2 := F0 m 122 ls [.int (nI (0))]) (by rw [kb_f (by decide)]) ?_
            have hV : kV G (kM G h ad 0 rl rw S ++ wr) H := hV
            refine kn_if_eq_lit (tgt := 127) hx hb (by decide) dX6_anew_122 (by decide) ?_
            have hcan := c111
            obtain ⟨j, hj, rfl⟩ := id c94
            obtain ⟨jg, hjg1, hjg2, rfl⟩ := rng_nI c102 (by decide) (by decide)
            obtain ⟨hokj, howj, hprj, hodj, hlij, hbyj, hbaj⟩ := hIP j hj
            have h6 := hokj.1
            have tg : tn (nI jg) = jg := tn_nI (by omega)
            have tj : tn (nI j) = j := tn_nI (by omega)
            rw [kif_t ⟨isIn_nI hj, c102⟩, tj, tg] at hcan
            obtain ⟨hc1, hc2, hc3⟩ := hcan
            have h50 := (hIQ (S.1 1 0) (Nat.le_refl _) hc3).1
            have hm := Nat.mul_le_mul hokj.2.2.1 hjg2
            refine lv_aload_n hx hb dX6_anew_127 rfl (lv_at hl 1 rfl) ?_
            refine va_get (D := kD G) (ci := 7) (v := .ref (ad 3)) (C := RX6) (T := TX6) (N := 26) hx hb hts hinX6 hown hK hV.1 0 rfl rfl 3 (by decide) (hts (Cond.fieldLink RX6 13 "YarncourtModel" "widths" "[I") (List.mem_of_getElem? (i := 3) rfl)) (fun _ h9 => h9) rfl dX6_anew_128 ?_
            refine lv_iload_n hx hb dX6_anew_131 rfl (lv_at hl 2 rfl) ?_
            refine kn_iald (G := G) (n := 16) (g := S.1 3) (j := j) hx hb hK hV 2 rfl (by omega) (by decide) dX6_anew_132 ?_
            refine lv_iload_n hx hb dX6_anew_133 rfl (lv_at hl 3 rfl) ?_
            refine kn_mul hx hb dX6_anew_134 ?_
            refine lv_bipush (v := nI 10) hx hb dX6_anew_135 (by decide) ?_
            refine kn_div hx hb (by omega) (by omega) (by omega) dX6_anew_137 ?_
            refine lv_istore (lv' := [(6, .int (nI (((S.1 3 j) * jg) / 10))), (5, .int (nI (kb (0 < kif (isIn (nI j) (S.1 1 0) ∧ inI (nI jg) (nI 5) (nI 20)) (anewRows S (tn (nI j)) (tn (nI jg))) 0 ∧ kif (isIn (nI j) (S.1 1 0) ∧ inI (nI jg) (nI 5) (nI 20)) (anewRows S (tn (nI j)) (tn (nI jg))) 0 ≤ 40 ∧ S.1 1 0 < 16)))), (0, .ref (h)), (1, .int (nI (j))), (2, .int (nI (jg))), (3, .int (nI (kb (nI 5 ≤ (nI jg) ∧ (nI jg) ≤ nI 20)))), (4, .int (nI (kif (isIn (nI j) (S.1 1 0) ∧ inI (nI jg) (nI 5) (nI 20)) (anewRows S (tn (nI j)) (tn (nI jg))) 0)))]) hx hb dX6_anew_138 hl (by decide) rfl (fun ls hl => ?_)
            refine lv_aload_n hx hb dX6_anew_140 rfl (lv_at hl 2 rfl) ?_
            refine lv_aload_n hx hb dX6_anew_141 rfl (lv_at hl 2 rfl) ?_
            refine va_get (D := kD G) (ci := 7) (v := .ref (ad 2)) (C := RX6) (T := TX6) (N := 26) hx hb hts hinX6 hown hK hV.1 0 rfl rfl 2 (by decide) (hts (Cond.fieldLink RX6 7 "YarncourtModel" "owners" "[I") (List.mem_of_getElem? (i := 4) rfl)) (fun _ h9 => h9) rfl dX6_anew_142 ?_
            refine lv_iload_n hx hb dX6_anew_145 rfl (lv_at hl 3 rfl) ?_
            refine kn_iald (G := G) (n := 16) (g := S.1 2) (j := j) hx hb hK hV 1 rfl (by omega) (by decide) dX6_anew_146 ?_
            have J171 : ∀ (H : Heap) (locs : List Loc), kV G (kM G h ad 0 rl rw S ++ wr) H → va_S (kA G) s.heap H locs → ∀ (ls : Array Slot), lv_has ls 9 [(6, .int (nI (((S.1 3 j) * jg) / 10))), (5, .int (nI (kb (0 < kif (isIn (nI j) (S.1 1 0) ∧ inI (nI jg) (nI 5) (nI 20)) (anewRows S (tn (nI j)) (tn (nI jg))) 0 ∧ kif (isIn (nI j) (S.1 1 0) ∧ inI (nI jg) (nI 5) (nI 20)) (anewRows S (tn (nI j)) (tn (nI jg))) 0 ≤ 40 ∧ S.1 1 0 < 16)))), (0, .ref (h)), (1, .int (nI (j))), (2, .int (nI (jg))), (3, .int (nI (kb (nI 5 ≤ (nI jg) ∧ (nI jg) ≤ nI 20)))), (4, .int (nI (kif (isIn (nI j) (S.1 1 0) ∧ inI (nI jg) (nI 5) (nI 20)) (anewRows S (tn (nI j)) (tn (nI jg))) 0)))] → W pp l ee (headSpec wsX6_anew ({ frames := 2, cells := 0, slots := 0, locals := 43 } : Room)).room s m [.ref (h), .int (nI (j)), .int (nI (jg))].toArray below meth cc0 H locs 0 0 (MQ below (kQi G (S := Nat × Nat) (fun q _ => q = (opAnew S (nI j) (nI jg)).2.1) (fun uu => kM G h ad ((opAnew S (nI j) (nI jg)).1) uu.1 uu.2 ((opAnew S (nI j) (nI jg)).2.2) ++ wr)) [.ref (h), .int (nI (j)), .int (nI (jg))].toArray s 0 0 (kA G)) (F0 m 171 ls [.int (nI (clampF (S.1 3 j * jg / 10))), .int (nI (S.1 2 j)), .ref (h)]) := by
              intro  H locs hV hS ls hl
              refine lv_aload_n hx hb dX6_anew_171 rfl (lv_at hl 2 rfl) ?_
              refine va_get (D := kD G) (ci := 7) (v := .ref (ad 4)) (C := RX6) (T := TX6) (N := 26) hx hb hts hinX6 hown hK hV.1 0 rfl rfl 4 (by decide) (hts (Cond.fieldLink RX6 16 "YarncourtModel" "prices" "[I") (List.mem_of_getElem? (i := 5) rfl)) (fun _ h9 => h9) rfl dX6_anew_172 ?_
              refine lv_iload_n hx hb dX6_anew_175 rfl (lv_at hl 3 rfl) ?_
              refine kn_iald (G := G) (n := 16) (g := S.1 4) (j := j) hx hb hK hV 3 rfl (by omega) (by decide) dX6_anew_176 ?_
              refine kc_i (va_runV (As := [.int (nI (S.1 2 j)), .int (nI (clampF (S.1 3 j * jg / 10))), .int (nI (S.1 4 j))]) (rest := []) hF (c_X6_added l G h ad 0 rl rw S wr (S.1 2 j) (clampF (S.1 3 j * jg / 10)) (S.1 4 j) (by omega)) (cwV 3 hts gX6_anew_X6_added rfl rfl rfl (by decide +kernel) ⟨Nat.le_of_ble_eq_true rfl, Nat.le_of_ble_eq_true rfl⟩) (kPreV hE hS hV 0 rfl rfl) rfl rfl hl.1 rfl (lv_room (Nat.le_of_ble_eq_true rfl)) dX6_anew_177 ⟨Nat.le_of_ble_eq_true rfl, Nat.le_of_ble_eq_true rfl⟩) hS (fun r_15 u_14 H locs hp_13 hV hS => ?_)
              subst hp_13
              have hV : kV G (kM G h ad 0 rl rw (addS S (S.1 2 j) (clampF (S.1 3 j * jg / 10)) (S.1 4 j)) ++ wr) H := hV
              refine lv_istore (lv' := [(7, .int (nI (S.1 1 0))), (6, .int (nI (((S.1 3 j) * jg) / 10))), (5, .int (nI (kb (0 < kif (isIn (nI j) (S.1 1 0) ∧ inI (nI jg) (nI 5) (nI 20)) (anewRows S (tn (nI j)) (tn (nI jg))) 0 ∧ kif (isIn (nI j) (S.1 1 0) ∧ inI (nI jg) (nI 5) (nI 20)) (anewRows S (tn (nI j)) (tn (nI jg))) 0 ≤ 40 ∧ S.1 1 0 < 16)))), (0, .ref (h)), (1, .int (nI (j))), (2, .int (nI (jg))), (3, .int (nI (kb (nI 5 ≤ (nI jg) ∧ (nI jg) ≤ nI 20)))), (4, .int (nI (kif (isIn (nI j) (S.1 1 0) ∧ inI (nI jg) (nI 5) (nI 20)) (anewRows S (tn (nI j)) (tn (nI jg))) 0)))]) hx hb dX6_anew_180 hl (by decide) rfl (fun ls hl => ?_)
              refine lv_bipush (v := nI 6) hx hb dX6_anew_182 (by decide) ?_
              refine lv_iload_n hx hb dX6_anew_184 rfl (lv_at hl 4 rfl) ?_
              refine kn_mul hx hb dX6_anew_185 ?_
              refine lv_istore (lv' := [(8, .int (nI (6 * j))), (7, .int (nI (S.1 1 0))), (6, .int (nI (((S.1 3 j) * jg) / 10))), (5, .int (nI (kb (0 < kif (isIn (nI j) (S.1 1 0) ∧ inI (nI jg) (nI 5) (nI 20)) (anewRows S (tn (nI j)) (tn (nI jg))) 0 ∧ kif (isIn (nI j) (S.1 1 0) ∧ inI (nI jg) (nI 5) (nI 20)) (anewRows S (tn (nI j)) (tn (nI jg))) 0 ≤ 40 ∧ S.1 1 0 < 16)))), (0, .ref (h)), (1, .int (nI (j))), (2, .int (nI (jg))), (3, .int (nI (kb (nI 5 ≤ (nI jg) ∧ (nI jg) ≤ nI 20)))), (4, .int (nI (kif (isIn (nI j) (S.1 1 0) ∧ inI (nI jg) (nI 5) (nI 20)) (anewRows S (tn (nI j)) (tn (nI jg))) 0)))]) hx hb dX6_anew_186 hl (by decide) rfl (fun ls hl => ?_)
              have L188 : ∀ (nL188 : Nat) (i : Nat) (hi : i ≤ S.1 5 j) (hmL188 : S.1 5 j - i < nL188) (H : Heap) (locs : List Loc), kV G (kM G h ad 0 rl rw (anewN S j jg i) ++ wr) H → va_S (kA G) s.heap H locs → ∀ (ls : Array Slot), lv_has ls 9 [(0, .ref (h)), (1, .int (nI (j))), (2, .int (nI (jg))), (7, .int (nI (S.1 1 0))), (8, .int (nI (6 * j + i)))] → W pp l ee (headSpec wsX6_anew ({ frames := 2, cells := 0, slots := 0, locals := 43 } : Room)).room s m [.ref (h), .int (nI (j)), .int (nI (jg))].toArray below meth cc0 H locs 0 0 (MQ below (kQi G (S := Nat × Nat) (fun q _ => q = (opAnew S (nI j) (nI jg)).2.1) (fun uu => kM G h ad ((opAnew S (nI j) (nI jg)).1) uu.1 uu.2 ((opAnew S (nI j) (nI jg)).2.2) ++ wr)) [.ref (h), .int (nI (j)), .int (nI (jg))].toArray s 0 0 (kA G)) (F0 m 188 ls []) := by
                intro nL188
                induction nL188 with
                | zero => intro i hi hmL188; exact absurd hmL188 (Nat.not_lt_zero _)
                | succ nL188 ihL188 =>
                  intro i hi hmL188 H locs hV hS ls hl
                  obtain ⟨b5, b5p, b1, b6⟩ := anewN_at (g := jg) hj h6 h50 i hi
                  refine lv_iload hx hb dX6_anew_188 (lv_at hl 4 rfl) ?_
                  refine lv_bipush (v := nI 6) hx hb dX6_anew_190 (by decide) ?_
                  refine lv_iload_n hx hb dX6_anew_192 rfl (lv_at hl 1 rfl) ?_
                  refine kn_mul hx hb dX6_anew_193 ?_
                  refine lv_aload_n hx hb dX6_anew_194 rfl (lv_at hl 0 rfl) ?_
                  refine va_get (D := kD G) (ci := 7) (v := .ref (ad 5)) (C := RX6) (T := TX6) (N := 26) hx hb hts hinX6 hown hK hV.1 0 rfl rfl 5 (by decide) (hts (Cond.fieldLink RX6 19 "YarncourtModel" "lines" "[I") (List.mem_of_getElem? (i := 1) rfl)) (fun _ h9 => h9) rfl dX6_anew_195 ?_
                  refine lv_iload_n hx hb dX6_anew_198 rfl (lv_at hl 1 rfl) ?_
                  refine kn_iald (G := G) (n := 16) (g := (anewN S j jg i).1 5) (j := j) hx hb hK hV 4 rfl (by omega) (by decide) dX6_anew_199 ?_
                  refine kn_add hx hb dX6_anew_200 ?_
                  refine kn_ge (tgt := 244) hx hb (by omega) (by omega) dX6_anew_201 (by decide) (fun c201 => ?_) (fun c201 => ?_)
                  · refine lv_iload hx hb dX6_anew_244 (lv_at hl 3 rfl) ?_
                    have hop : opAnew S (nI j) (nI jg) = (0, nI (S.1 1 0), anewN S j jg i) := by
                      unfold opAnew
                      rw [kif_f (fun z => z (isIn_nI hj)), kif_f (fun z => z c102), kif_f (fun z => z (by rw [tj, tg]; exact ⟨hc1, hc2, hc3⟩)), tj, tg, show i = S.1 5 j from by omega] <;> rfl
                    exact W.iret (v := nI (S.1 1 0)) hx hb hrt (fun t ht hW => ⟨⟨_, (rl, rw), rfl, by rw [hop], kV_eq ht (by rw [hop]; exact hV)⟩, hS.F ht⟩) hS.2.2 dX6_anew_246
                  · obtain ⟨d6, d7, dz, d9⟩ := b6 i (by omega)
                    have h9 := (hokj.2.2.2.2 i (by omega)).2.2.2.2.1
                    rw [← d9] at h9
                    refine lv_aload_n hx hb dX6_anew_204 rfl (lv_at hl 0 rfl) ?_
                    refine lv_iload hx hb dX6_anew_205 (lv_at hl 3 rfl) ?_
                    refine lv_aload_n hx hb dX6_anew_207 rfl (lv_at hl 0 rfl) ?_
                    refine va_get (D := kD G) (ci := 7) (v := .ref (ad 6)) (C := RX6) (T := TX6) (N := 26) hx hb hts hinX6 hown hK hV.1 0 rfl rfl 6 (by decide) (hts (Cond.fieldLink RX6 22 "YarncourtModel" "knits" "[I") (List.mem_of_getElem? (i := 6) rfl)) (fun _ h9 => h9) rfl dX6_anew_208 ?_
                    refine lv_iload hx hb dX6_anew_211 (lv_at hl 4 rfl) ?_
                    refine kn_iald (G := G) (n := 96) (g := (anewN S j jg i).1 6) (j := 6 * j + i) hx hb hK hV 5 rfl (by omega) (by decide) dX6_anew_213 ?_
                    refine lv_aload_n hx hb dX6_anew_214 rfl (lv_at hl 0 rfl) ?_
                    refine va_get (D := kD G) (ci := 7) (v := .ref (ad 7)) (C := RX6) (T := TX6) (N := 26) hx hb hts hinX6 hown hK hV.1 0 rfl rfl 7 (by decide) (hts (Cond.fieldLink RX6 25 "YarncourtModel" "purls" "[I") (List.mem_of_getElem? (i := 7) rfl)) (fun _ h9 => h9) rfl dX6_anew_215 ?_
                    refine lv_iload hx hb dX6_anew_218 (lv_at hl 4 rfl) ?_
                    refine kn_iald (G := G) (n := 96) (g := (anewN S j jg i).1 7) (j := 6 * j + i) hx hb hK hV 6 rfl (by omega) (by decide) dX6_anew_220 ?_
                    refine lv_aload_n hx hb dX6_anew_221 rfl (lv_at hl 0 rfl) ?_
                    refine va_get (D := kD G) (ci := 7) (v := .ref (ad 8)) (C := RX6) (T := TX6) (N := 26) hx hb hts hinX6 hown hK hV.1 0 rfl rfl 8 (by decide) (hts (Cond.fieldLink RX6 28 "YarncourtModel" "shapings" "[I") (List.mem_of_getElem? (i := 8) rfl)) (fun _ h9 => h9) rfl dX6_anew_222 ?_
                    refine lv_iload hx hb dX6_anew_225 (lv_at hl 4 rfl) ?_
                    refine kz_iald (G := G) (n := 96) (g := (anewN S j jg i).2.1) (j := 6 * j + i) hx hb hK hV 7 rfl (by omega) (by decide) dX6_anew_227 ?_
                    refine lv_aload_n hx hb dX6_anew_228 rfl (lv_at hl 0 rfl) ?_
                    refine lv_iload hx hb dX6_anew_229 (lv_at hl 4 rfl) ?_
                    refine lv_iload_n hx hb dX6_anew_231 rfl (lv_at hl 2 rfl) ?_
                    refine kc_i (va_runV (As := [.int (nI (6 * j + i)), .int (nI (jg))]) (rest := [.int (zI ((anewN S j jg i).2.1 (6 * j + i))), .int (nI ((anewN S j jg i).1 7 (6 * j + i))), .int (nI ((anewN S j jg i).1 6 (6 * j + i))), .int (nI (S.1 1 0)), .ref (h)]) hF (c_X6_oftenAnew l G h ad 0 rl rw (anewN S j jg i) wr (6 * j + i) jg (by omega) (by omega) (by omega)) (cwV 2 hts gX6_anew_X6_oftenAnew rfl rfl rfl (by decide +kernel) ⟨Nat.le_of_ble_eq_true rfl, Nat.le_of_ble_eq_true rfl⟩) (kPreV hE hS hV 0 rfl rfl) rfl rfl hl.1 rfl (lv_room (Nat.le_of_ble_eq_true rfl)) dX6_anew_232 ⟨Nat.le_of_ble_eq_true rfl, Nat.le_of_ble_eq_true rfl⟩) hS (fun r_18 u_17 H locs hp_16 hV hS => ?_)
                    subst hp_16
                    have hV : kV G (kM G h ad 0 rl rw (anewN S j jg i) ++ wr) H := hV
                    refine kc_v (va_runV (As := [.int (nI (S.1 1 0)), .int (nI ((anewN S j jg i).1 6 (6 * j + i))), .int (nI ((anewN S j jg i).1 7 (6 * j + i))), .int (zI ((anewN S j jg i).2.1 (6 * j + i))), .int (nI (oftN ((anewN S j jg i).1 9 (6 * j + i)) jg))]) (rest := []) hF (c_X6_put l G h ad 0 rl rw (anewN S j jg i) wr (S.1 1 0) ((anewN S j jg i).1 6 (6 * j + i)) ((anewN S j jg i).1 7 (6 * j + i)) ((anewN S j jg i).2.1 (6 * j + i)) (oftN ((anewN S j jg i).1 9 (6 * j + i)) jg) (by omega) (by rw [b5]; omega)) (cwV 5 hts gX6_anew_X6_put rfl rfl rfl (by decide +kernel) ⟨Nat.le_of_ble_eq_true rfl, Nat.le_of_ble_eq_true rfl⟩) (kPreV hE hS hV 0 rfl rfl) rfl rfl hl.1 rfl (lv_room (Nat.le_of_ble_eq_true rfl)) dX6_anew_235 ⟨Nat.le_of_ble_eq_true rfl, Nat.le_of_ble_eq_true rfl⟩) hS (fun u_20 H locs hp_19 hV hS => ?_)
                    have hV : kV G (kM G h ad 0 rl rw (putS (anewN S j jg i) (S.1 1 0) ((anewN S j jg i).1 6 (6 * j + i)) ((anewN S j jg i).1 7 (6 * j + i)) ((anewN S j jg i).2.1 (6 * j + i)) (oftN ((anewN S j jg i).1 9 (6 * j + i)) jg)) ++ wr) H := hV
                    refine lv_iinc (lv' := [(8, .int (nI (6 * j + i + 1))), (0, .ref (h)), (1, .int (nI (j))), (2, .int (nI (jg))), (7, .int (nI (S.1 1 0)))]) hx hb dX6_anew_238 hl (k := 4) rfl (kn_iinc (6 * j + i) 1) (by decide) rfl (fun ls hl => ?_)
                    refine lv_goto (tgt := 188) hx hb dX6_anew_241 (by decide) ?_
                    exact ihL188 (i + 1) (by omega) (by omega) _ _ (by rw [show anewN S j jg (i + 1) = putS (anewN S j jg i) (S.1 1 0) ((anewN S j jg i).1 6 (6 * j + i)) ((anewN S j jg i).1 7 (6 * j + i)) ((anewN S j jg i).2.1 (6 * j + i)) (oftN ((anewN S j jg i).1 9 (6 * j + i)) jg) from by rw [d6, d7, dz, d9]; rfl]; exact hV) hS ls (lv_sub hl [1, 2, 3, 4, 0] rfl)
              exact L188 ((S.1 5 j - 0) + 1) 0 (by omega) (Nat.lt_succ_self _) _ _ hV hS ls (lv_sub hl [4, 5, 6, 1, 0] rfl)
            refine lv_iload hx hb dX6_anew_147 (lv_at hl 0 rfl) ?_
            refine lv_iconst (v := nI 1) hx hb dX6_anew_149 (by decide) ?_
            refine kn_ge (tgt := 157) hx hb (by omega) (by decide) dX6_anew_150 (by decide) (fun c150 => ?_) (fun c150 => ?_)
            · refine lv_iload hx hb dX6_anew_157 (lv_at hl 0 rfl) ?_
              refine lv_bipush (v := nI 20) hx hb dX6_anew_159 (by decide) ?_
              refine kn_le (tgt := 169) hx hb (by omega) (by decide) dX6_anew_161 (by decide) (fun c161 => ?_) (fun c161 => ?_)
              · refine lv_iload hx hb dX6_anew_169 (lv_at hl 0 rfl) ?_
                refine W.eq (g2 := F0 m 171 ls [.int (nI (clampF (S.1 3 j * jg / 10))), .int (nI (S.1 2 j)), .ref h]) (by unfold clampF; rw [if_neg (by omega), if_neg (by omega)]) ?_
                exact J171  _ _ hV hS ls (lv_sub hl [0, 1, 2, 3, 4, 5, 6] rfl)
              · refine lv_bipush (v := nI 20) hx hb dX6_anew_164 (by decide) ?_
                refine lv_goto (tgt := 171) hx hb dX6_anew_166 (by decide) ?_
                refine W.eq (g2 := F0 m 171 ls [.int (nI (clampF (S.1 3 j * jg / 10))), .int (nI (S.1 2 j)), .ref h]) (by unfold clampF; rw [if_neg (by omega), if_pos c161]) ?_
                exact J171  _ _ hV hS ls (lv_sub hl [0, 1, 2, 3, 4, 5, 6] rfl)
            · refine lv_iconst (v := nI 1) hx hb dX6_anew_153 (by decide) ?_
              refine lv_goto (tgt := 171) hx hb dX6_anew_154 (by decide) ?_
              refine W.eq (g2 := F0 m 171 ls [.int (nI (clampF (S.1 3 j * jg / 10))), .int (nI (S.1 2 j)), .ref h]) (by unfold clampF; rw [if_pos c150]) ?_
              exact J171  _ _ hV hS ls (lv_sub hl [0, 1, 2, 3, 4, 5, 6] rfl)
        · refine lv_iconst (v := nI 2) hx hb dX6_anew_105 (by decide) ?_
          refine lv_goto (tgt := 119) hx hb dX6_anew_106 (by decide) ?_
          refine kc_i (va_runV (As := [.int (nI (2))]) (rest := []) hF (c_X6_refused l G h ad rf rl rw S wr 2 (by omega)) (cwV 1 hts gX6_anew_X6_refused rfl rfl rfl (by decide +kernel) ⟨Nat.le_of_ble_eq_true rfl, Nat.le_of_ble_eq_true rfl⟩) (kPreV hE hS hV 0 rfl rfl) rfl rfl hl.1 rfl (lv_room (Nat.le_of_ble_eq_true rfl)) dX6_anew_119 ⟨Nat.le_of_ble_eq_true rfl, Nat.le_of_ble_eq_true rfl⟩) hS (fun r_24 u_23 H locs hp_22 hV hS => ?_)
          subst hp_22
          refine W.eq (g2 := F0 m 122 ls [.int (nI (1))]) (by rw [kb_t (by decide)]) ?_
          have hV : kV G (kM G h ad 2 rl rw S ++ wr) H := hV
          refine kn_if_eq_not hx hb (by decide) dX6_anew_122 ?_ 127 (by decide)
          refine lv_iconst (v := nI 0) hx hb dX6_anew_125 (by decide) ?_
          have hop : opAnew S p g = (2, nI 0, S) := by
            unfold opAnew
            rw [kif_f (fun z => z c94), kif_t c102] <;> rfl
          exact W.iret (v := nI 0) hx hb hrt (fun t ht hW => ⟨⟨_, (rl, rw), rfl, by rw [hop], kV_eq ht (by rw [hop]; exact hV)⟩, hS.F ht⟩) hS.2.2 dX6_anew_126
      · refine lv_iconst (v := nI 1) hx hb dX6_anew_97 (by decide) ?_
        refine lv_goto (tgt := 119) hx hb dX6_anew_98 (by decide) ?_
        refine kc_i (va_runV (As := [.int (nI (1))]) (rest := []) hF (c_X6_refused l G h ad rf rl rw S wr 1 (by omega)) (cwV 1 hts gX6_anew_X6_refused rfl rfl rfl (by decide +kernel) ⟨Nat.le_of_ble_eq_true rfl, Nat.le_of_ble_eq_true rfl⟩) (kPreV hE hS hV 0 rfl rfl) rfl rfl hl.1 rfl (lv_room (Nat.le_of_ble_eq_true rfl)) dX6_anew_119 ⟨Nat.le_of_ble_eq_true rfl, Nat.le_of_ble_eq_true rfl⟩) hS (fun r_27 u_26 H locs hp_25 hV hS => ?_)
        subst hp_25
        refine W.eq (g2 := F0 m 122 ls [.int (nI (1))]) (by rw [kb_t (by decide)]) ?_
        have hV : kV G (kM G h ad 1 rl rw S ++ wr) H := hV
        refine kn_if_eq_not hx hb (by decide) dX6_anew_122 ?_ 127 (by decide)
        refine lv_iconst (v := nI 0) hx hb dX6_anew_125 (by decide) ?_
        have hop : opAnew S p g = (1, nI 0, S) := by
          unfold opAnew
          rw [kif_t c94] <;> rfl
        exact W.iret (v := nI 0) hx hb hrt (fun t ht hW => ⟨⟨_, (rl, rw), rfl, by rw [hop], kV_eq ht (by rw [hop]; exact hV)⟩, hS.F ht⟩) hS.2.2 dX6_anew_126
    refine kn_if_le (tgt := 85) hx hb (by omega) dX6_anew_62 (by decide) (fun c62 => ?_) (fun c62 => ?_)
    · refine lv_iconst (v := nI 0) hx hb dX6_anew_85 (by decide) ?_
      refine W.eq (g2 := F0 m 86 ls [.int (nI (kb (0 < kif (isIn p (S.1 1 0) ∧ inI g (nI 5) (nI 20)) (anewRows S (tn p) (tn g)) 0 ∧ kif (isIn p (S.1 1 0) ∧ inI g (nI 5) (nI 20)) (anewRows S (tn p) (tn g)) 0 ≤ 40 ∧ S.1 1 0 < 16)))]) (by rw [kb_f (fun z => by have := z.1; omega)]) ?_
      exact J86  _ _ hV hS ls (lv_sub hl [0, 1, 2, 3, 4] rfl)
    · refine lv_iload hx hb dX6_anew_65 (lv_at hl 4 rfl) ?_
      refine lv_bipush (v := nI 40) hx hb dX6_anew_67 (by decide) ?_
      refine kn_gt (tgt := 85) hx hb (by omega) (by decide) dX6_anew_69 (by decide) (fun c69 => ?_) (fun c69 => ?_)
      · refine lv_iconst (v := nI 0) hx hb dX6_anew_85 (by decide) ?_
        refine W.eq (g2 := F0 m 86 ls [.int (nI (kb (0 < kif (isIn p (S.1 1 0) ∧ inI g (nI 5) (nI 20)) (anewRows S (tn p) (tn g)) 0 ∧ kif (isIn p (S.1 1 0) ∧ inI g (nI 5) (nI 20)) (anewRows S (tn p) (tn g)) 0 ≤ 40 ∧ S.1 1 0 < 16)))]) (by rw [kb_f (fun z => by have := z.2.1; omega)]) ?_
        exact J86  _ _ hV hS ls (lv_sub hl [0, 1, 2, 3, 4] rfl)
      · refine lv_aload_n hx hb dX6_anew_72 rfl (lv_at hl 0 rfl) ?_
        refine va_get (D := kD G) (ci := 7) (v := .int (nI (S.1 1 0))) (C := RX6) (T := TX6) (N := 26) hx hb hts hinX6 hown hK hV.1 0 rfl rfl 1 (by decide) (hts (Cond.fieldLink RX6 76 "YarncourtModel" "patterns" "I") (List.mem_of_getElem? (i := 2) rfl)) (fun _ h9 => h9) rfl dX6_anew_73 ?_
        refine lv_bipush (v := nI 16) hx hb dX6_anew_76 (by decide) ?_
        refine kn_ge (tgt := 85) hx hb (by omega) (by decide) dX6_anew_78 (by decide) (fun c78 => ?_) (fun c78 => ?_)
        · refine lv_iconst (v := nI 0) hx hb dX6_anew_85 (by decide) ?_
          refine W.eq (g2 := F0 m 86 ls [.int (nI (kb (0 < kif (isIn p (S.1 1 0) ∧ inI g (nI 5) (nI 20)) (anewRows S (tn p) (tn g)) 0 ∧ kif (isIn p (S.1 1 0) ∧ inI g (nI 5) (nI 20)) (anewRows S (tn p) (tn g)) 0 ≤ 40 ∧ S.1 1 0 < 16)))]) (by rw [kb_f (fun z => by have := z.2.2; omega)]) ?_
          exact J86  _ _ hV hS ls (lv_sub hl [0, 1, 2, 3, 4] rfl)
        · refine lv_iconst (v := nI 1) hx hb dX6_anew_81 (by decide) ?_
          refine lv_goto (tgt := 86) hx hb dX6_anew_82 (by decide) ?_
          refine W.eq (g2 := F0 m 86 ls [.int (nI (kb (0 < kif (isIn p (S.1 1 0) ∧ inI g (nI 5) (nI 20)) (anewRows S (tn p) (tn g)) 0 ∧ kif (isIn p (S.1 1 0) ∧ inI g (nI 5) (nI 20)) (anewRows S (tn p) (tn g)) 0 ≤ 40 ∧ S.1 1 0 < 16)))]) (by rw [kb_t (⟨c62, c69, c78⟩)]) ?_
          exact J86  _ _ hV hS ls (lv_sub hl [0, 1, 2, 3, 4] rfl)
  refine lv_iconst (v := nI 0) hx hb dX6_anew_8 (by decide) ?_
  refine lv_istore (lv' := [(4, .int (nI (0))), (3, .int (nI (kb (nI 5 ≤ g ∧ g ≤ nI 20)))), (0, .ref (h)), (1, .int (p)), (2, .int (g))]) hx hb dX6_anew_9 hl (by decide) rfl (fun ls hl => ?_)
  refine lv_iconst (v := nI 0) hx hb dX6_anew_11 (by decide) ?_
  refine lv_istore (lv' := [(5, .int (nI (0))), (4, .int (nI (0))), (3, .int (nI (kb (nI 5 ≤ g ∧ g ≤ nI 20)))), (0, .ref (h)), (1, .int (p)), (2, .int (g))]) hx hb dX6_anew_12 hl (by decide) rfl (fun ls hl => ?_)
  have L14 : ∀ (nL14 : Nat) (i : Nat) (hi : i = 0 ∨ (isIn p (S.1 1 0) ∧ inI g (nI 5) (nI 20) ∧ i ≤ S.1 5 (tn p))) (hmL14 : S.1 5 (tn p) - i < nL14) (H : Heap) (locs : List Loc), kV G (kM G h ad rf rl rw S ++ wr) H → va_S (kA G) s.heap H locs → ∀ (ls : Array Slot), lv_has ls 9 [(0, .ref (h)), (1, .int (p)), (2, .int (g)), (3, .int (nI (kb (nI 5 ≤ g ∧ g ≤ nI 20)))), (4, .int (nI (sumN (fun k => oftN (S.1 9 (6 * tn p + k)) (tn g)) i))), (5, .int (nI (i)))] → W pp l ee (headSpec wsX6_anew ({ frames := 2, cells := 0, slots := 0, locals := 43 } : Room)).room s m [.ref (h), .int (p), .int (g)].toArray below meth cc0 H locs 0 0 (MQ below (kQi G (S := Nat × Nat) (fun q _ => q = (opAnew S p g).2.1) (fun uu => kM G h ad ((opAnew S p g).1) uu.1 uu.2 ((opAnew S p g).2.2) ++ wr)) [.ref (h), .int (p), .int (g)].toArray s 0 0 (kA G)) (F0 m 14 ls []) := by
    intro nL14
    induction nL14 with
    | zero => intro i hi hmL14; exact absurd hmL14 (Nat.not_lt_zero _)
    | succ nL14 ihL14 =>
      intro i hi hmL14 H locs hV hS ls hl
      refine lv_aload_n hx hb dX6_anew_14 rfl (lv_at hl 0 rfl) ?_
      refine lv_iload_n hx hb dX6_anew_15 rfl (lv_at hl 1 rfl) ?_
      refine kc_i (va_runV (As := [.int (p)]) (rest := []) hF (c_X6_isPattern l G h ad rf rl rw S wr p (by omega)) (cwV 1 hts gX6_anew_X6_isPattern rfl rfl rfl (by decide +kernel) ⟨Nat.le_of_ble_eq_true rfl, Nat.le_of_ble_eq_true rfl⟩) (kPreV hE hS hV 0 rfl rfl) rfl rfl hl.1 rfl (lv_room (Nat.le_of_ble_eq_true rfl)) dX6_anew_16 ⟨Nat.le_of_ble_eq_true rfl, Nat.le_of_ble_eq_true rfl⟩) hS (fun r_30 u_29 H locs hp_28 hV hS => ?_)
      subst hp_28
      have hV : kV G (kM G h ad rf rl rw S ++ wr) H := hV
      refine kb_if_eq (tgt := 60) hx hb dX6_anew_19 (by decide) (fun c19 => ?_) (fun c19 => ?_)
      · have e0 : i = 0 := hi.resolve_right (fun z => c19 z.1)
        subst e0
        exact J60  _ _ hV hS ls (by rw [kif_f (fun z => c19 z.1)]; exact lv_sub hl [0, 1, 2, 3, 4] rfl)
      · refine lv_iload_n hx hb dX6_anew_22 rfl (lv_at hl 3 rfl) ?_
        refine kb_if_eq (tgt := 60) hx hb dX6_anew_23 (by decide) (fun c23 => ?_) (fun c23 => ?_)
        · have e0 : i = 0 := hi.resolve_right (fun z => c23 z.2.1)
          subst e0
          exact J60  _ _ hV hS ls (by rw [kif_f (fun z => c23 z.2)]; exact lv_sub hl [0, 1, 2, 3, 4] rfl)
        · obtain ⟨j, hj, rfl⟩ := id c19
          obtain ⟨jg, hjg1, hjg2, rfl⟩ := rng_nI c23 (by decide) (by decide)
          obtain ⟨hokj, howj, hprj, hodj, hlij, hbyj, hbaj⟩ := hIP j hj
          have h6 := hokj.1
          have tg : tn (nI jg) = jg := tn_nI (by omega)
          have tj : tn (nI j) = j := tn_nI (by omega)
          rw [tj] at hi hmL14
          have hi6 : i ≤ 6 := by
            rcases hi with z | z
            · omega
            · have := z.2.2; omega
          refine lv_iload hx hb dX6_anew_26 (lv_at hl 5 rfl) ?_
          refine lv_aload_n hx hb dX6_anew_28 rfl (lv_at hl 0 rfl) ?_
          refine va_get (D := kD G) (ci := 7) (v := .ref (ad 5)) (C := RX6) (T := TX6) (N := 26) hx hb hts hinX6 hown hK hV.1 0 rfl rfl 5 (by decide) (hts (Cond.fieldLink RX6 19 "YarncourtModel" "lines" "[I") (List.mem_of_getElem? (i := 1) rfl)) (fun _ h9 => h9) rfl dX6_anew_29 ?_
          refine lv_iload_n hx hb dX6_anew_32 rfl (lv_at hl 1 rfl) ?_
          refine kn_iald (G := G) (n := 16) (g := S.1 5) (j := j) hx hb hK hV 4 rfl (by omega) (by decide) dX6_anew_33 ?_
          refine kn_ge (tgt := 60) hx hb (by omega) (by omega) dX6_anew_34 (by decide) (fun c34 => ?_) (fun c34 => ?_)
          · have e0 : i = S.1 5 j := by
              rcases hi with z | z
              · omega
              · have := z.2.2; omega
            exact J60  _ _ hV hS ls (by rw [show kif (isIn (nI j) (S.1 1 0) ∧ inI (nI jg) (nI 5) (nI 20)) (anewRows S (tn (nI j)) (tn (nI jg))) 0 = sumN (fun k => oftN (S.1 9 (6 * tn (nI j) + k)) (tn (nI jg))) i from by rw [kif_t ⟨isIn_nI hj, c23⟩, e0]; unfold anewRows; rw [tj]]; exact lv_sub hl [0, 1, 2, 3, 4] rfl)
          · refine lv_iload hx hb dX6_anew_37 (lv_at hl 4 rfl) ?_
            refine lv_aload_n hx hb dX6_anew_39 rfl (lv_at hl 0 rfl) ?_
            refine lv_bipush (v := nI 6) hx hb dX6_anew_40 (by decide) ?_
            refine lv_iload_n hx hb dX6_anew_42 rfl (lv_at hl 1 rfl) ?_
            refine kn_mul hx hb dX6_anew_43 ?_
            refine lv_iload hx hb dX6_anew_44 (lv_at hl 5 rfl) ?_
            refine kn_add hx hb dX6_anew_46 ?_
            refine lv_iload_n hx hb dX6_anew_47 rfl (lv_at hl 2 rfl) ?_
            have h9 := (hokj.2.2.2.2 i (by omega)).2.2.2.2.1
            refine kc_i (va_runV (As := [.int (nI ((6 * j) + i)), .int (nI (jg))]) (rest := [.int (nI (sumN (fun k => oftN (S.1 9 (6 * tn (nI j) + k)) (tn (nI jg))) i))]) hF (c_X6_oftenAnew l G h ad rf rl rw S wr ((6 * j) + i) jg (by omega) (by omega) (by omega)) (cwV 2 hts gX6_anew_X6_oftenAnew rfl rfl rfl (by decide +kernel) ⟨Nat.le_of_ble_eq_true rfl, Nat.le_of_ble_eq_true rfl⟩) (kPreV hE hS hV 0 rfl rfl) rfl rfl hl.1 rfl (lv_room (Nat.le_of_ble_eq_true rfl)) dX6_anew_48 ⟨Nat.le_of_ble_eq_true rfl, Nat.le_of_ble_eq_true rfl⟩) hS (fun r_33 u_32 H locs hp_31 hV hS => ?_)
            subst hp_31
            have hV : kV G (kM G h ad rf rl rw S ++ wr) H := hV
            refine kn_add hx hb dX6_anew_51 ?_
            refine lv_istore (lv' := [(4, .int (nI ((sumN (fun k => oftN (S.1 9 (6 * tn (nI j) + k)) (tn (nI jg))) i) + (oftN (S.1 9 ((6 * j) + i)) jg)))), (0, .ref (h)), (1, .int (nI (j))), (2, .int (nI (jg))), (3, .int (nI (kb (nI 5 ≤ (nI jg) ∧ (nI jg) ≤ nI 20)))), (5, .int (nI (i)))]) hx hb dX6_anew_52 hl (by decide) rfl (fun ls hl => ?_)
            refine lv_iinc (lv' := [(5, .int (nI (i + 1))), (4, .int (nI ((sumN (fun k => oftN (S.1 9 (6 * tn (nI j) + k)) (tn (nI jg))) i) + (oftN (S.1 9 ((6 * j) + i)) jg)))), (0, .ref (h)), (1, .int (nI (j))), (2, .int (nI (jg))), (3, .int (nI (kb (nI 5 ≤ (nI jg) ∧ (nI jg) ≤ nI 20))))]) hx hb dX6_anew_54 hl (k := 5) rfl (kn_iinc i 1) (by decide) rfl (fun ls hl => ?_)
            refine lv_goto (tgt := 14) hx hb dX6_anew_57 (by decide) ?_
            exact ihL14 (i + 1) (Or.inr ⟨isIn_nI hj, c23, by rw [tj]; omega⟩) (by rw [tj]; omega) _ _ hV hS ls (by rw [show sumN (fun k => oftN (S.1 9 (6 * tn (nI j) + k)) (tn (nI jg))) (i + 1) = sumN (fun k => oftN (S.1 9 (6 * tn (nI j) + k)) (tn (nI jg))) i + oftN (S.1 9 (6 * j + i)) jg from by rw [tj, tg]; rfl]; exact lv_sub hl [2, 3, 4, 5, 1, 0] rfl)
  exact L14 ((S.1 5 (tn p) - 0) + 1) 0 (Or.inl rfl) (Nat.lt_succ_self _) _ _ hV hS ls (lv_sub hl [3, 4, 5, 2, 1, 0] rfl)
set_option maxHeartbeats 4000000 in
set_option maxRecDepth 100000 in
theorem c_X6_publish (l : Launch) (G : kG) (h : Nat) (ad : Nat → Nat) (rf : Nat) (rl : Nat) (rw : Nat) (S : kS) (wr : va_W) (p : Int32) (hI : kInv S) : Met l yX6_publish wsX6_publish ({ frames := 4, cells := 0, slots := 0, locals := 96 } : Room) (kPc G [.ref (h), .int (p)] (kM G h ad rf rl rw S ++ wr)) (kQi G (S := Nat × Nat) (fun q _ => q = (opPublish S p).2.1) (fun uu => kM G h ad ((opPublish S p).1) uu.1 uu.2 ((opPublish S p).2.2) ++ wr)) 0 0 (kA G) := by
  refine Met.ofW (cc := cX6_publish) (maxL := 3) (ret := (some .int)) (by decide) rfl ?_
  intro pp ee s m args below meth cc0 s₁ B hml hv
  obtain ⟨rfl, hE, hV⟩ := hv
  have hK := hE.1
  have hx := B.exec
  have hb := B.bytes
  have hrt := B.returns
  have hts := atoms_spec (ws := wsX6_publish) B.pre
  have hown : s.vm.findClass RX6 = some m.cls := findClass_of_methodNamed B.named
  have hlocks := B.notSynchronized
  have hF : CallFix pp m cc0 cX6_publish 3 s _ wsX6_publish RX6 := ⟨hx, hb, hml, hown, hts⟩
  have hinX6 : ∀ w ∈ wsX60, w ∈ wsX6_publish := tb_of [53, 54, 55, 56, 57, 58, 59, 60, 61, 62, 63, 64, 65, 66, 67, 68, 69, 70, 71, 72, 73, 74, 75, 76, 77, 78] rfl
  have hS : va_S (kA G) s.heap s.heap [] := va_S.rf
  have hB0 := hE.2.1
  have hl := lv_entry ([.ref (h), .int (p)]) (n := 3) (Nat.le_of_ble_eq_true rfl)
  rw [lg_entry_eq]
  generalize (lg_sl ([.ref (h), .int (p)]) ++ List.replicate (3 - (lg_sl ([.ref (h), .int (p)])).length) Slot.unset).toArray = ls at hl ⊢
  have hl : lv_has ls 3 [(0, .ref (h)), (1, .int (p))] := hl
  obtain ⟨⟨hnp, hnl, hnj, hpu⟩, hIP, hIQ, hIL, hIJ, hIK, hIO⟩ := id hI
  have J30 : ∀ (H : Heap) (locs : List Loc), kV G (kM G h ad rf rl rw S ++ wr) H → va_S (kA G) s.heap H locs → ∀ (ls : Array Slot), lv_has ls 3 [(0, .ref (h)), (1, .int (p))] → W pp l ee (headSpec wsX6_publish ({ frames := 4, cells := 0, slots := 0, locals := 96 } : Room)).room s m [.ref (h), .int (p)].toArray below meth cc0 H locs 0 0 (MQ below (kQi G (S := Nat × Nat) (fun q _ => q = (opPublish S p).2.1) (fun uu => kM G h ad ((opPublish S p).1) uu.1 uu.2 ((opPublish S p).2.2) ++ wr)) [.ref (h), .int (p)].toArray s 0 0 (kA G)) (F0 m 30 ls [.int (nI (kb (isIn p (S.1 1 0) ∧ S.1 10 (tn p) = 99 ∧ 0 < S.1 5 (tn p))))]) := by
    intro  H locs hV hS ls hl
    refine lv_istore_n (lv' := [(2, .int (nI (kb (isIn p (S.1 1 0) ∧ S.1 10 (tn p) = 99 ∧ 0 < S.1 5 (tn p))))), (0, .ref (h)), (1, .int (p))]) hx hb dX6_publish_30 rfl hl (by decide) rfl (fun ls hl => ?_)
    refine lv_aload_n hx hb dX6_publish_31 rfl (lv_at hl 1 rfl) ?_
    refine lv_aload_n hx hb dX6_publish_32 rfl (lv_at hl 1 rfl) ?_
    refine lv_iload_n hx hb dX6_publish_33 rfl (lv_at hl 2 rfl) ?_
    refine kc_i (va_runV (As := [.int (p)]) (rest := [.ref (h)]) hF (c_X6_isPattern l G h ad rf rl rw S wr p (by omega)) (cwV 1 hts gX6_publish_X6_isPattern rfl rfl rfl (by decide +kernel) ⟨Nat.le_of_ble_eq_true rfl, Nat.le_of_ble_eq_true rfl⟩) (kPreV hE hS hV 0 rfl rfl) rfl rfl hl.1 rfl (lv_room (Nat.le_of_ble_eq_true rfl)) dX6_publish_34 ⟨Nat.le_of_ble_eq_true rfl, Nat.le_of_ble_eq_true rfl⟩) hS (fun r_3 u_2 H locs hp_1 hV hS => ?_)
    subst hp_1
    have hV : kV G (kM G h ad rf rl rw S ++ wr) H := hV
    refine kb_if_ne (tgt := 44) hx hb dX6_publish_37 (by decide) (fun c37 => ?_) (fun c37 => ?_)
    · refine lv_iload_n hx hb dX6_publish_44 rfl (lv_at hl 0 rfl) ?_
      refine kb_if_eq (tgt := 52) hx hb dX6_publish_45 (by decide) (fun c45 => ?_) (fun c45 => ?_)
      · refine lv_iconst (v := nI 2) hx hb dX6_publish_52 (by decide) ?_
        refine kc_i (va_runV (As := [.int (nI (2))]) (rest := []) hF (c_X6_refused l G h ad rf rl rw S wr 2 (by omega)) (cwV 1 hts gX6_publish_X6_refused rfl rfl rfl (by decide +kernel) ⟨Nat.le_of_ble_eq_true rfl, Nat.le_of_ble_eq_true rfl⟩) (kPreV hE hS hV 0 rfl rfl) rfl rfl hl.1 rfl (lv_room (Nat.le_of_ble_eq_true rfl)) dX6_publish_53 ⟨Nat.le_of_ble_eq_true rfl, Nat.le_of_ble_eq_true rfl⟩) hS (fun r_6 u_5 H locs hp_4 hV hS => ?_)
        subst hp_4
        refine W.eq (g2 := F0 m 56 ls [.int (nI (1))]) (by rw [kb_t (by decide)]) ?_
        have hV : kV G (kM G h ad 2 rl rw S ++ wr) H := hV
        refine kn_if_eq_not hx hb (by decide) dX6_publish_56 ?_ 61 (by decide)
        refine lv_iconst (v := nI 0) hx hb dX6_publish_59 (by decide) ?_
        have hop : opPublish S p = (2, nI 0, S) := by
          unfold opPublish
          rw [kif_f (fun z => z c37), kif_t (fun z => c45 ⟨c37, z⟩)] <;> rfl
        exact W.iret (v := nI 0) hx hb hrt (fun t ht hW => ⟨⟨_, (rl, rw), rfl, by rw [hop], kV_eq ht (by rw [hop]; exact hV)⟩, hS.F ht⟩) hS.2.2 dX6_publish_60
      · refine lv_iconst (v := nI 0) hx hb dX6_publish_48 (by decide) ?_
        refine lv_goto (tgt := 53) hx hb dX6_publish_49 (by decide) ?_
        refine kc_i (va_runV (As := [.int (nI (0))]) (rest := []) hF (c_X6_refused l G h ad rf rl rw S wr 0 (by omega)) (cwV 1 hts gX6_publish_X6_refused rfl rfl rfl (by decide +kernel) ⟨Nat.le_of_ble_eq_true rfl, Nat.le_of_ble_eq_true rfl⟩) (kPreV hE hS hV 0 rfl rfl) rfl rfl hl.1 rfl (lv_room (Nat.le_of_ble_eq_true rfl)) dX6_publish_53 ⟨Nat.le_of_ble_eq_true rfl, Nat.le_of_ble_eq_true rfl⟩) hS (fun r_9 u_8 H locs hp_7 hV hS => ?_)
        subst hp_7
        refine W.eq (g2 := F0 m 56 ls [.int (nI (0))]) (by rw [kb_f (by decide)]) ?_
        have hV : kV G (kM G h ad 0 rl rw S ++ wr) H := hV
        refine kn_if_eq_lit (tgt := 61) hx hb (by decide) dX6_publish_56 (by decide) ?_
        obtain ⟨j, hj, rfl⟩ := id c45.1
        obtain ⟨hokj, howj, hprj, hodj, hlij, hbyj, hbaj⟩ := hIP j hj
        have tj : tn (nI j) = j := tn_nI (by omega)
        have hcan := c45.2
        rw [tj] at hcan
        refine lv_aload_n hx hb dX6_publish_61 rfl (lv_at hl 1 rfl) ?_
        refine va_get (D := kD G) (ci := 7) (v := .ref (ad 10)) (C := RX6) (T := TX6) (N := 26) hx hb hts hinX6 hown hK hV.1 0 rfl rfl 10 (by decide) (hts (Cond.fieldLink RX6 34 "YarncourtModel" "orders" "[I") (List.mem_of_getElem? (i := 2) rfl)) (fun _ h9 => h9) rfl dX6_publish_62 ?_
        refine lv_iload_n hx hb dX6_publish_65 rfl (lv_at hl 2 rfl) ?_
        refine lv_aload_n hx hb dX6_publish_66 rfl (lv_at hl 1 rfl) ?_
        refine va_get (D := kD G) (ci := 7) (v := .int (nI (S.1 11 0))) (C := RX6) (T := TX6) (N := 26) hx hb hts hinX6 hown hK hV.1 0 rfl rfl 11 (by decide) (hts (Cond.fieldLink RX6 134 "YarncourtModel" "published" "I") (List.mem_of_getElem? (i := 3) rfl)) (fun _ h9 => h9) rfl dX6_publish_67 ?_
        refine kn_iast (G := G) (n := 16) (g := S.1 10) (j := j) (v := S.1 11 0) hx hb hK hV hS 9 rfl (by omega) (by decide) dX6_publish_70 (fun H locs hV hS => ?_)
        have hV : kV G (kM G h ad 0 rl rw (st S 10 j (S.1 11 0)) ++ wr) H := hV
        refine lv_aload_n hx hb dX6_publish_71 rfl (lv_at hl 1 rfl) ?_
        refine lv_dup hx hb dX6_publish_72 rfl ?_
        refine va_get (D := kD G) (ci := 7) (v := .int (nI (S.1 11 0))) (C := RX6) (T := TX6) (N := 26) hx hb hts hinX6 hown hK hV.1 0 rfl rfl 11 (by decide) (hts (Cond.fieldLink RX6 134 "YarncourtModel" "published" "I") (List.mem_of_getElem? (i := 3) rfl)) (fun _ h9 => h9) rfl dX6_publish_73 ?_
        refine lv_iconst (v := nI 1) hx hb dX6_publish_76 (by decide) ?_
        refine kn_add hx hb dX6_publish_77 ?_
        refine va_put (D := kD G) (ci := 7) (v := .int (nI ((S.1 11 0) + 1))) (ty := .int) (C := RX6) (T := TX6) (N := 26) hx hb hts hinX6 tyX6 tyX6_ok nmX6 hown hK hV.1 hV.2 hS 0 rfl rfl 11 (by decide) (hts (Cond.fieldLink RX6 134 "YarncourtModel" "published" "I") (List.mem_of_getElem? (i := 3) rfl)) (fun _ h9 => h9) rfl (by decide +kernel) rfl rfl (Nat.le_of_ble_eq_true rfl) dX6_publish_78 (fun H locs hP hD hS => ?_)
        have hV : kV G (kM G h ad 0 rl rw (st (st S 10 j (S.1 11 0)) 11 0 ((S.1 11 0) + 1)) ++ wr) H := ⟨hP, hD⟩
        refine lv_aload_n hx hb dX6_publish_81 rfl (lv_at hl 1 rfl) ?_
        refine lv_iload_n hx hb dX6_publish_82 rfl (lv_at hl 2 rfl) ?_
        refine kc_i (va_runV (As := [.int (nI (j))]) (rest := []) hF (c_X6_originalOf l G h ad 0 rl rw (st (st S 10 j (S.1 11 0)) 11 0 ((S.1 11 0) + 1)) wr j hj hnp (fun q hq => (hIP q hq).1) (fun q hq => by have e := pubS_10 S j q; have := kInv_od hI hq; show (pubS S j).1 10 q < 2 ^ 31; rw [e]; split <;> omega)) (cwV 1 hts gX6_publish_X6_originalOf rfl rfl rfl (by decide +kernel) ⟨Nat.le_of_ble_eq_true rfl, Nat.le_of_ble_eq_true rfl⟩) (kPreV hE hS hV 0 rfl rfl) rfl rfl hl.1 rfl (lv_room (Nat.le_of_ble_eq_true rfl)) dX6_publish_83 ⟨Nat.le_of_ble_eq_true rfl, Nat.le_of_ble_eq_true rfl⟩) hS (fun r_12 u_11 H locs hp_10 hV hS => ?_)
        subst hp_10
        have hV : kV G (kM G h ad 0 u_11.1 u_11.2 (st (st S 10 j (S.1 11 0)) 11 0 ((S.1 11 0) + 1)) ++ wr) H := hV
        have hop : opPublish S (nI j) = (0, nI (pOrig (st (st S 10 j (S.1 11 0)) 11 0 ((S.1 11 0) + 1)) j), st (st S 10 j (S.1 11 0)) 11 0 ((S.1 11 0) + 1)) := by
          unfold opPublish
          rw [kif_f (fun z => z (isIn_nI hj)), kif_f (fun z => z c45.2), tj] <;> rfl
        exact W.iret (v := nI (pOrig (st (st S 10 j (S.1 11 0)) 11 0 ((S.1 11 0) + 1)) j)) hx hb hrt (fun t ht hW => ⟨⟨_, (u_11.1, u_11.2), rfl, by rw [hop], kV_eq ht (by rw [hop]; exact hV)⟩, hS.F ht⟩) hS.2.2 dX6_publish_86
    · refine lv_iconst (v := nI 1) hx hb dX6_publish_40 (by decide) ?_
      refine lv_goto (tgt := 53) hx hb dX6_publish_41 (by decide) ?_
      refine kc_i (va_runV (As := [.int (nI (1))]) (rest := []) hF (c_X6_refused l G h ad rf rl rw S wr 1 (by omega)) (cwV 1 hts gX6_publish_X6_refused rfl rfl rfl (by decide +kernel) ⟨Nat.le_of_ble_eq_true rfl, Nat.le_of_ble_eq_true rfl⟩) (kPreV hE hS hV 0 rfl rfl) rfl rfl hl.1 rfl (lv_room (Nat.le_of_ble_eq_true rfl)) dX6_publish_53 ⟨Nat.le_of_ble_eq_true rfl, Nat.le_of_ble_eq_true rfl⟩) hS (fun r_15 u_14 H locs hp_13 hV hS => ?_)
      subst hp_13
      refine W.eq (g2 := F0 m 56 ls [.int (nI (1))]) (by rw [kb_t (by decide)]) ?_
      have hV : kV G (kM G h ad 1 rl rw S ++ wr) H := hV
      refine kn_if_eq_not hx hb (by decide) dX6_publish_56 ?_ 61 (by decide)
      refine lv_iconst (v := nI 0) hx hb dX6_publish_59 (by decide) ?_
      have hop : opPublish S p = (1, nI 0, S) := by
        unfold opPublish
        rw [kif_t c37] <;> rfl
      exact W.iret (v := nI 0) hx hb hrt (fun t ht hW => ⟨⟨_, (rl, rw), rfl, by rw [hop], kV_eq ht (by rw [hop]; exact hV)⟩, hS.F ht⟩) hS.2.2 dX6_publish_60
  refine lv_aload_n hx hb dX6_publish_0 rfl (lv_at hl 0 rfl) ?_
  refine lv_iload_n hx hb dX6_publish_1 rfl (lv_at hl 1 rfl) ?_
  refine kc_i (va_runV (As := [.int (p)]) (rest := []) hF (c_X6_isPattern l G h ad rf rl rw S wr p (by omega)) (cwV 1 hts gX6_publish_X6_isPattern rfl rfl rfl (by decide +kernel) ⟨Nat.le_of_ble_eq_true rfl, Nat.le_of_ble_eq_true rfl⟩) (kPreV hE hS hV 0 rfl rfl) rfl rfl hl.1 rfl (lv_room (Nat.le_of_ble_eq_true rfl)) dX6_publish_2 ⟨Nat.le_of_ble_eq_true rfl, Nat.le_of_ble_eq_true rfl⟩) hS (fun r_18 u_17 H locs hp_16 hV hS => ?_)
  subst hp_16
  have hV : kV G (kM G h ad rf rl rw S ++ wr) H := hV
  refine kb_if_eq (tgt := 29) hx hb dX6_publish_5 (by decide) (fun c5 => ?_) (fun c5 => ?_)
  · refine lv_iconst (v := nI 0) hx hb dX6_publish_29 (by decide) ?_
    refine W.eq (g2 := F0 m 30 ls [.int (nI (kb (isIn p (S.1 1 0) ∧ S.1 10 (tn p) = 99 ∧ 0 < S.1 5 (tn p))))]) (by rw [kb_f (fun z => c5 z.1)]) ?_
    exact J30  _ _ hV hS ls (lv_sub hl [0, 1] rfl)
  · obtain ⟨j, hj, rfl⟩ := id c5
    obtain ⟨hokj, howj, hprj, hodj, hlij, hbyj, hbaj⟩ := hIP j hj
    have h6 := hokj.1
    have ho := kInv_od hI hj
    have tj : tn (nI j) = j := tn_nI (by omega)
    refine lv_aload_n hx hb dX6_publish_8 rfl (lv_at hl 0 rfl) ?_
    refine lv_iload_n hx hb dX6_publish_9 rfl (lv_at hl 1 rfl) ?_
    refine kc_i (va_runV (As := [.int (nI (j))]) (rest := []) hF (c_X6_isPublished l G h ad rf rl rw S wr j (by omega) (by omega)) (cwV 1 hts gX6_publish_X6_isPublished rfl rfl rfl (by decide +kernel) ⟨Nat.le_of_ble_eq_true rfl, Nat.le_of_ble_eq_true rfl⟩) (kPreV hE hS hV 0 rfl rfl) rfl rfl hl.1 rfl (lv_room (Nat.le_of_ble_eq_true rfl)) dX6_publish_10 ⟨Nat.le_of_ble_eq_true rfl, Nat.le_of_ble_eq_true rfl⟩) hS (fun r_21 u_20 H locs hp_19 hV hS => ?_)
    subst hp_19
    have hV : kV G (kM G h ad rf rl rw S ++ wr) H := hV
    refine kb_if_ne (tgt := 29) hx hb dX6_publish_13 (by decide) (fun c13 => ?_) (fun c13 => ?_)
    · refine lv_iconst (v := nI 0) hx hb dX6_publish_29 (by decide) ?_
      refine W.eq (g2 := F0 m 30 ls [.int (nI (kb (isIn (nI j) (S.1 1 0) ∧ S.1 10 (tn (nI j)) = 99 ∧ 0 < S.1 5 (tn (nI j)))))]) (by rw [kb_f (fun z => by have h9 := z.2; rw [tj] at h9; exact c13 h9.1)]) ?_
      exact J30  _ _ hV hS ls (lv_sub hl [0, 1] rfl)
    · refine lv_aload_n hx hb dX6_publish_16 rfl (lv_at hl 0 rfl) ?_
      refine va_get (D := kD G) (ci := 7) (v := .ref (ad 5)) (C := RX6) (T := TX6) (N := 26) hx hb hts hinX6 hown hK hV.1 0 rfl rfl 5 (by decide) (hts (Cond.fieldLink RX6 19 "YarncourtModel" "lines" "[I") (List.mem_of_getElem? (i := 1) rfl)) (fun _ h9 => h9) rfl dX6_publish_17 ?_
      refine lv_iload_n hx hb dX6_publish_20 rfl (lv_at hl 1 rfl) ?_
      refine kn_iald (G := G) (n := 16) (g := S.1 5) (j := j) hx hb hK hV 4 rfl (by omega) (by decide) dX6_publish_21 ?_
      refine kn_if_le (tgt := 29) hx hb (by omega) dX6_publish_22 (by decide) (fun c22 => ?_) (fun c22 => ?_)
      · refine lv_iconst (v := nI 0) hx hb dX6_publish_29 (by decide) ?_
        refine W.eq (g2 := F0 m 30 ls [.int (nI (kb (isIn (nI j) (S.1 1 0) ∧ S.1 10 (tn (nI j)) = 99 ∧ 0 < S.1 5 (tn (nI j)))))]) (by rw [kb_f (fun z => by have h9 := z.2; rw [tj] at h9; have := h9.2; omega)]) ?_
        exact J30  _ _ hV hS ls (lv_sub hl [0, 1] rfl)
      · refine lv_iconst (v := nI 1) hx hb dX6_publish_25 (by decide) ?_
        refine lv_goto (tgt := 30) hx hb dX6_publish_26 (by decide) ?_
        refine W.eq (g2 := F0 m 30 ls [.int (nI (kb (isIn (nI j) (S.1 1 0) ∧ S.1 10 (tn (nI j)) = 99 ∧ 0 < S.1 5 (tn (nI j)))))]) (by rw [kb_t (⟨c5, by rw [tj]; exact ⟨Classical.not_not.mp c13, c22⟩⟩)]) ?_
        exact J30  _ _ hV hS ls (lv_sub hl [0, 1] rfl)
set_option maxHeartbeats 4000000 in
set_option maxRecDepth 100000 in
theorem c_X6_original (l : Launch) (G : kG) (h : Nat) (ad : Nat → Nat) (rf : Nat) (rl : Nat) (rw : Nat) (S : kS) (wr : va_W) (p : Int32) (hI : kInv S) : Met l yX6_original wsX6_original ({ frames := 4, cells := 0, slots := 0, locals := 96 } : Room) (kPc G [.ref (h), .int (p)] (kM G h ad rf rl rw S ++ wr)) (kQi G (S := Nat × Nat) (fun q _ => q = (opOriginal S p).2.1) (fun uu => kM G h ad ((opOriginal S p).1) uu.1 uu.2 ((opOriginal S p).2.2) ++ wr)) 0 0 (kA G) := by
  refine Met.ofW (cc := cX6_original) (maxL := 2) (ret := (some .int)) (by decide) rfl ?_
  intro pp ee s m args below meth cc0 s₁ B hml hv
  obtain ⟨rfl, hE, hV⟩ := hv
  have hK := hE.1
  have hx := B.exec
  have hb := B.bytes
  have hrt := B.returns
  have hts := atoms_spec (ws := wsX6_original) B.pre
  have hown : s.vm.findClass RX6 = some m.cls := findClass_of_methodNamed B.named
  have hlocks := B.notSynchronized
  have hF : CallFix pp m cc0 cX6_original 2 s _ wsX6_original RX6 := ⟨hx, hb, hml, hown, hts⟩
  have hS : va_S (kA G) s.heap s.heap [] := va_S.rf
  have hB0 := hE.2.1
  have hl := lv_entry ([.ref (h), .int (p)]) (n := 2) (Nat.le_of_ble_eq_true rfl)
  rw [lg_entry_eq]
  generalize (lg_sl ([.ref (h), .int (p)]) ++ List.replicate (2 - (lg_sl ([.ref (h), .int (p)])).length) Slot.unset).toArray = ls at hl ⊢
  have hl : lv_has ls 2 [(0, .ref (h)), (1, .int (p))] := hl
  obtain ⟨⟨hnp, hnl, hnj, hpu⟩, hIP, hIQ, hIL, hIJ, hIK, hIO⟩ := id hI
  refine lv_aload_n hx hb dX6_original_0 rfl (lv_at hl 0 rfl) ?_
  refine lv_iload_n hx hb dX6_original_1 rfl (lv_at hl 1 rfl) ?_
  refine kc_i (va_runV (As := [.int (p)]) (rest := []) hF (c_X6_noPattern l G h ad rf rl rw S wr p (by omega)) (cwV 1 hts gX6_original_X6_noPattern rfl rfl rfl (by decide +kernel) ⟨Nat.le_of_ble_eq_true rfl, Nat.le_of_ble_eq_true rfl⟩) (kPreV hE hS hV 0 rfl rfl) rfl rfl hl.1 rfl (lv_room (Nat.le_of_ble_eq_true rfl)) dX6_original_2 ⟨Nat.le_of_ble_eq_true rfl, Nat.le_of_ble_eq_true rfl⟩) hS (fun r_3 u_2 H locs hp_1 hV hS => ?_)
  subst hp_1
  have hV : kV G (kM G h ad (kb (¬ isIn p (S.1 1 0))) rl rw S ++ wr) H := hV
  refine kb_if_eq (tgt := 12) hx hb dX6_original_5 (by decide) (fun c5 => ?_) (fun c5 => ?_)
  · obtain ⟨j, hj, rfl⟩ := Classical.not_not.mp c5
    obtain ⟨hokj, howj, hprj, hodj, hlij, hbyj, hbaj⟩ := hIP j hj
    have h6 := hokj.1
    have ho := kInv_od hI hj
    have tj : tn (nI j) = j := tn_nI (by omega)
    refine lv_aload_n hx hb dX6_original_12 rfl (lv_at hl 0 rfl) ?_
    refine lv_iload_n hx hb dX6_original_13 rfl (lv_at hl 1 rfl) ?_
    refine kc_i (va_runV (As := [.int (nI (j))]) (rest := []) hF (c_X6_isPublished l G h ad (kb (¬ isIn (nI j) (S.1 1 0))) rl rw S wr j (by omega) (by omega)) (cwV 1 hts gX6_original_X6_isPublished rfl rfl rfl (by decide +kernel) ⟨Nat.le_of_ble_eq_true rfl, Nat.le_of_ble_eq_true rfl⟩) (kPreV hE hS hV 0 rfl rfl) rfl rfl hl.1 rfl (lv_room (Nat.le_of_ble_eq_true rfl)) dX6_original_14 ⟨Nat.le_of_ble_eq_true rfl, Nat.le_of_ble_eq_true rfl⟩) hS (fun r_6 u_5 H locs hp_4 hV hS => ?_)
    subst hp_4
    have hV : kV G (kM G h ad (kb (¬ isIn (nI j) (S.1 1 0))) rl rw S ++ wr) H := hV
    refine kb_if_eq (tgt := 28) hx hb dX6_original_17 (by decide) (fun c17 => ?_) (fun c17 => ?_)
    · refine lv_iconst (v := -1) hx hb dX6_original_28 (by decide) ?_
      have hop : opOriginal S (nI j) = (kb (¬ isIn (nI j) (S.1 1 0)), (-1), S) := by
        unfold opOriginal
        rw [kif_f (fun z => z (isIn_nI hj)), kb_f (fun z => z (isIn_nI hj)), tj, kif_f c17] <;> rfl
      exact W.iret (v := (-1)) hx hb hrt (fun t ht hW => ⟨⟨_, (rl, rw), rfl, by rw [hop], kV_eq ht (by rw [hop]; exact hV)⟩, hS.F ht⟩) hS.2.2 dX6_original_29
    · refine lv_aload_n hx hb dX6_original_20 rfl (lv_at hl 0 rfl) ?_
      refine lv_iload_n hx hb dX6_original_21 rfl (lv_at hl 1 rfl) ?_
      refine kc_i (va_runV (As := [.int (nI (j))]) (rest := []) hF (c_X6_originalOf l G h ad (kb (¬ isIn (nI j) (S.1 1 0))) rl rw S wr j (by omega) (by omega) (fun q hq => (hIP q hq).1) (fun q hq => Nat.lt_of_le_of_lt (kInv_od hI hq) (by decide))) (cwV 1 hts gX6_original_X6_originalOf rfl rfl rfl (by decide +kernel) ⟨Nat.le_of_ble_eq_true rfl, Nat.le_of_ble_eq_true rfl⟩) (kPreV hE hS hV 0 rfl rfl) rfl rfl hl.1 rfl (lv_room (Nat.le_of_ble_eq_true rfl)) dX6_original_22 ⟨Nat.le_of_ble_eq_true rfl, Nat.le_of_ble_eq_true rfl⟩) hS (fun r_9 u_8 H locs hp_7 hV hS => ?_)
      subst hp_7
      have hV : kV G (kM G h ad (kb (¬ isIn (nI j) (S.1 1 0))) u_8.1 u_8.2 S ++ wr) H := hV
      refine lv_goto (tgt := 29) hx hb dX6_original_25 (by decide) ?_
      have hop : opOriginal S (nI j) = (kb (¬ isIn (nI j) (S.1 1 0)), nI (pOrig S j), S) := by
        unfold opOriginal
        rw [kif_f (fun z => z (isIn_nI hj)), kb_f (fun z => z (isIn_nI hj)), tj, kif_t c17] <;> rfl
      exact W.iret (v := nI (pOrig S j)) hx hb hrt (fun t ht hW => ⟨⟨_, (u_8.1, u_8.2), rfl, by rw [hop], kV_eq ht (by rw [hop]; exact hV)⟩, hS.F ht⟩) hS.2.2 dX6_original_29
  · refine lv_iconst (v := nI 0) hx hb dX6_original_8 (by decide) ?_
    refine lv_goto (tgt := 29) hx hb dX6_original_9 (by decide) ?_
    have hop : opOriginal S p = (kb (¬ isIn p (S.1 1 0)), nI 0, S) := by
      unfold opOriginal
      rw [kif_t c5, kb_t c5] <;> rfl
    exact W.iret (v := nI 0) hx hb hrt (fun t ht hW => ⟨⟨_, (rl, rw), rfl, by rw [hop], kV_eq ht (by rw [hop]; exact hV)⟩, hS.F ht⟩) hS.2.2 dX6_original_29
set_option maxHeartbeats 4000000 in
set_option maxRecDepth 100000 in
theorem c_X6_rows (l : Launch) (G : kG) (h : Nat) (ad : Nat → Nat) (rf : Nat) (rl : Nat) (rw : Nat) (S : kS) (wr : va_W) (p : Int32) (hI : kInv S) : Met l yX6_rows wsX6_rows ({ frames := 3, cells := 0, slots := 0, locals := 64 } : Room) (kPc G [.ref (h), .int (p)] (kM G h ad rf rl rw S ++ wr)) (kQi G (S := Nat × Nat) (fun q _ => q = (opRows S p).2.1) (fun uu => kM G h ad ((opRows S p).1) uu.1 uu.2 ((opRows S p).2.2) ++ wr)) 0 0 (kA G) := by
  refine Met.ofW (cc := cX6_rows) (maxL := 2) (ret := (some .int)) (by decide) rfl ?_
  intro pp ee s m args below meth cc0 s₁ B hml hv
  obtain ⟨rfl, hE, hV⟩ := hv
  have hK := hE.1
  have hx := B.exec
  have hb := B.bytes
  have hrt := B.returns
  have hts := atoms_spec (ws := wsX6_rows) B.pre
  have hown : s.vm.findClass RX6 = some m.cls := findClass_of_methodNamed B.named
  have hlocks := B.notSynchronized
  have hF : CallFix pp m cc0 cX6_rows 2 s _ wsX6_rows RX6 := ⟨hx, hb, hml, hown, hts⟩
  have hS : va_S (kA G) s.heap s.heap [] := va_S.rf
  have hB0 := hE.2.1
  have hl := lv_entry ([.ref (h), .int (p)]) (n := 2) (Nat.le_of_ble_eq_true rfl)
  rw [lg_entry_eq]
  generalize (lg_sl ([.ref (h), .int (p)]) ++ List.replicate (2 - (lg_sl ([.ref (h), .int (p)])).length) Slot.unset).toArray = ls at hl ⊢
  have hl : lv_has ls 2 [(0, .ref (h)), (1, .int (p))] := hl
  obtain ⟨⟨hnp, hnl, hnj, hpu⟩, hIP, hIQ, hIL, hIJ, hIK, hIO⟩ := id hI
  refine lv_aload_n hx hb dX6_rows_0 rfl (lv_at hl 0 rfl) ?_
  refine lv_iload_n hx hb dX6_rows_1 rfl (lv_at hl 1 rfl) ?_
  refine kc_i (va_runV (As := [.int (p)]) (rest := []) hF (c_X6_noPattern l G h ad rf rl rw S wr p (by omega)) (cwV 1 hts gX6_rows_X6_noPattern rfl rfl rfl (by decide +kernel) ⟨Nat.le_of_ble_eq_true rfl, Nat.le_of_ble_eq_true rfl⟩) (kPreV hE hS hV 0 rfl rfl) rfl rfl hl.1 rfl (lv_room (Nat.le_of_ble_eq_true rfl)) dX6_rows_2 ⟨Nat.le_of_ble_eq_true rfl, Nat.le_of_ble_eq_true rfl⟩) hS (fun r_3 u_2 H locs hp_1 hV hS => ?_)
  subst hp_1
  have hV : kV G (kM G h ad (kb (¬ isIn p (S.1 1 0))) rl rw S ++ wr) H := hV
  refine kb_if_eq (tgt := 12) hx hb dX6_rows_5 (by decide) (fun c5 => ?_) (fun c5 => ?_)
  · obtain ⟨j, hj, rfl⟩ := Classical.not_not.mp c5
    obtain ⟨hokj, howj, hprj, hodj, hlij, hbyj, hbaj⟩ := hIP j hj
    have h6 := hokj.1
    have ho := kInv_od hI hj
    have tj : tn (nI j) = j := tn_nI (by omega)
    refine lv_aload_n hx hb dX6_rows_12 rfl (lv_at hl 0 rfl) ?_
    refine lv_iload_n hx hb dX6_rows_13 rfl (lv_at hl 1 rfl) ?_
    refine kc_i (va_runV (As := [.int (nI (j))]) (rest := []) hF (c_X6_rowsOf l G h ad (kb (¬ isIn (nI j) (S.1 1 0))) rl rw S wr j (by omega) (by omega)) (cwV 1 hts gX6_rows_X6_rowsOf rfl rfl rfl (by decide +kernel) ⟨Nat.le_of_ble_eq_true rfl, Nat.le_of_ble_eq_true rfl⟩) (kPreV hE hS hV 0 rfl rfl) rfl rfl hl.1 rfl (lv_room (Nat.le_of_ble_eq_true rfl)) dX6_rows_14 ⟨Nat.le_of_ble_eq_true rfl, Nat.le_of_ble_eq_true rfl⟩) hS (fun r_6 u_5 H locs hp_4 hV hS => ?_)
    subst hp_4
    have hV : kV G (kM G h ad (kb (¬ isIn (nI j) (S.1 1 0))) rl rw S ++ wr) H := hV
    have hop : opRows S (nI j) = (kb (¬ isIn (nI j) (S.1 1 0)), nI (pRows S j), S) := by
      unfold opRows
      rw [kif_f (fun z => z (isIn_nI hj)), kb_f (fun z => z (isIn_nI hj)), tj] <;> rfl
    exact W.iret (v := nI (pRows S j)) hx hb hrt (fun t ht hW => ⟨⟨_, (rl, rw), rfl, by rw [hop], kV_eq ht (by rw [hop]; exact hV)⟩, hS.F ht⟩) hS.2.2 dX6_rows_17
  · refine lv_iconst (v := nI 0) hx hb dX6_rows_8 (by decide) ?_
    refine lv_goto (tgt := 17) hx hb dX6_rows_9 (by decide) ?_
    have hop : opRows S p = (kb (¬ isIn p (S.1 1 0)), nI 0, S) := by
      unfold opRows
      rw [kif_t c5, kb_t c5] <;> rfl
    exact W.iret (v := nI 0) hx hb hrt (fun t ht hW => ⟨⟨_, (rl, rw), rfl, by rw [hop], kV_eq ht (by rw [hop]; exact hV)⟩, hS.F ht⟩) hS.2.2 dX6_rows_17
set_option maxHeartbeats 4000000 in
set_option maxRecDepth 100000 in
theorem c_X6_stitch (l : Launch) (G : kG) (h : Nat) (ad : Nat → Nat) (rf : Nat) (rl : Nat) (rw : Nat) (S : kS) (wr : va_W) (p : Int32) (r : Int32) (c : Int32) (hI : kInv S) : Met l yX6_stitch wsX6_stitch ({ frames := 2, cells := 0, slots := 0, locals := 48 } : Room) (kPc G [.ref (h), .int (p), .int (r), .int (c)] (kM G h ad rf rl rw S ++ wr)) (kQi G (S := Nat × Nat) (fun q _ => q = (opStitch S p r c).2.1) (fun uu => kM G h ad ((opStitch S p r c).1) uu.1 uu.2 ((opStitch S p r c).2.2) ++ wr)) 0 0 (kA G) := by
  refine Met.ofW (cc := cX6_stitch) (maxL := 5) (ret := (some .int)) (by decide) rfl ?_
  intro pp ee s m args below meth cc0 s₁ B hml hv
  obtain ⟨rfl, hE, hV⟩ := hv
  have hK := hE.1
  have hx := B.exec
  have hb := B.bytes
  have hrt := B.returns
  have hts := atoms_spec (ws := wsX6_stitch) B.pre
  have hown : s.vm.findClass RX6 = some m.cls := findClass_of_methodNamed B.named
  have hlocks := B.notSynchronized
  have hF : CallFix pp m cc0 cX6_stitch 5 s _ wsX6_stitch RX6 := ⟨hx, hb, hml, hown, hts⟩
  have hS : va_S (kA G) s.heap s.heap [] := va_S.rf
  have hB0 := hE.2.1
  have hl := lv_entry ([.ref (h), .int (p), .int (r), .int (c)]) (n := 5) (Nat.le_of_ble_eq_true rfl)
  rw [lg_entry_eq]
  generalize (lg_sl ([.ref (h), .int (p), .int (r), .int (c)]) ++ List.replicate (5 - (lg_sl ([.ref (h), .int (p), .int (r), .int (c)])).length) Slot.unset).toArray = ls at hl ⊢
  have hl : lv_has ls 5 [(0, .ref (h)), (1, .int (p)), (2, .int (r)), (3, .int (c))] := hl
  obtain ⟨⟨hnp, hnl, hnj, hpu⟩, hIP, hIQ, hIL, hIJ, hIK, hIO⟩ := id hI
  have J32 : ∀ (H : Heap) (locs : List Loc), kV G (kM G h ad rf rl rw S ++ wr) H → va_S (kA G) s.heap H locs → ∀ (ls : Array Slot), lv_has ls 5 [(0, .ref (h)), (1, .int (p)), (2, .int (r)), (3, .int (c))] → W pp l ee (headSpec wsX6_stitch ({ frames := 2, cells := 0, slots := 0, locals := 48 } : Room)).room s m [.ref (h), .int (p), .int (r), .int (c)].toArray below meth cc0 H locs 0 0 (MQ below (kQi G (S := Nat × Nat) (fun q _ => q = (opStitch S p r c).2.1) (fun uu => kM G h ad ((opStitch S p r c).1) uu.1 uu.2 ((opStitch S p r c).2.2) ++ wr)) [.ref (h), .int (p), .int (r), .int (c)].toArray s 0 0 (kA G)) (F0 m 32 ls [.int (nI (kb (isIn p (S.1 1 0) ∧ isIn r (pRows S (tn p)) ∧ 0 ≤ c)))]) := by
    intro  H locs hV hS ls hl
    refine lv_istore (lv' := [(4, .int (nI (kb (isIn p (S.1 1 0) ∧ isIn r (pRows S (tn p)) ∧ 0 ≤ c)))), (0, .ref (h)), (1, .int (p)), (2, .int (r)), (3, .int (c))]) hx hb dX6_stitch_32 hl (by decide) rfl (fun ls hl => ?_)
    refine lv_aload_n hx hb dX6_stitch_34 rfl (lv_at hl 1 rfl) ?_
    refine lv_iload hx hb dX6_stitch_35 (lv_at hl 0 rfl) ?_
    refine kb_if_eq (tgt := 44) hx hb dX6_stitch_37 (by decide) (fun c37 => ?_) (fun c37 => ?_)
    · refine lv_iconst (v := nI 1) hx hb dX6_stitch_44 (by decide) ?_
      refine kc_i (va_runV (As := [.int (nI (1))]) (rest := []) hF (c_X6_refused l G h ad rf rl rw S wr 1 (by omega)) (cwV 1 hts gX6_stitch_X6_refused rfl rfl rfl (by decide +kernel) ⟨Nat.le_of_ble_eq_true rfl, Nat.le_of_ble_eq_true rfl⟩) (kPreV hE hS hV 0 rfl rfl) rfl rfl hl.1 rfl (lv_room (Nat.le_of_ble_eq_true rfl)) dX6_stitch_45 ⟨Nat.le_of_ble_eq_true rfl, Nat.le_of_ble_eq_true rfl⟩) hS (fun r_3 u_2 H locs hp_1 hV hS => ?_)
      subst hp_1
      refine W.eq (g2 := F0 m 48 ls [.int (nI (1))]) (by rw [kb_t (by decide)]) ?_
      have hV : kV G (kM G h ad 1 rl rw S ++ wr) H := hV
      refine kn_if_eq_not hx hb (by decide) dX6_stitch_48 ?_ 55 (by decide)
      refine lv_iconst (v := nI 0) hx hb dX6_stitch_51 (by decide) ?_
      refine lv_goto (tgt := 62) hx hb dX6_stitch_52 (by decide) ?_
      have hop : opStitch S p r c = (1, nI 0, S) := by
        unfold opStitch
        rw [kif_t c37] <;> rfl
      exact W.iret (v := nI 0) hx hb hrt (fun t ht hW => ⟨⟨_, (rl, rw), rfl, by rw [hop], kV_eq ht (by rw [hop]; exact hV)⟩, hS.F ht⟩) hS.2.2 dX6_stitch_62
    · refine lv_iconst (v := nI 0) hx hb dX6_stitch_40 (by decide) ?_
      refine lv_goto (tgt := 45) hx hb dX6_stitch_41 (by decide) ?_
      refine kc_i (va_runV (As := [.int (nI (0))]) (rest := []) hF (c_X6_refused l G h ad rf rl rw S wr 0 (by omega)) (cwV 1 hts gX6_stitch_X6_refused rfl rfl rfl (by decide +kernel) ⟨Nat.le_of_ble_eq_true rfl, Nat.le_of_ble_eq_true rfl⟩) (kPreV hE hS hV 0 rfl rfl) rfl rfl hl.1 rfl (lv_room (Nat.le_of_ble_eq_true rfl)) dX6_stitch_45 ⟨Nat.le_of_ble_eq_true rfl, Nat.le_of_ble_eq_true rfl⟩) hS (fun r_6 u_5 H locs hp_4 hV hS => ?_)
      subst hp_4
      refine W.eq (g2 := F0 m 48 ls [.int (nI (0))]) (by rw [kb_f (by decide)]) ?_
      have hV : kV G (kM G h ad 0 rl rw S ++ wr) H := hV
      refine kn_if_eq_lit (tgt := 55) hx hb (by decide) dX6_stitch_48 (by decide) ?_
      obtain ⟨j, hj, rfl⟩ := id c37.1
      obtain ⟨hokj, howj, hprj, hodj, hlij, hbyj, hbaj⟩ := hIP j hj
      have tj : tn (nI j) = j := tn_nI (by omega)
      obtain ⟨jr, hjr, rfl⟩ := id c37.2.1
      obtain ⟨jc, hjc, rfl⟩ := nI_of (fun z => i_lt_nle z c37.2.2)
      rw [tj] at hjr
      have h40 := hokj.2.2.2.1
      refine lv_aload_n hx hb dX6_stitch_55 rfl (lv_at hl 1 rfl) ?_
      refine lv_iload_n hx hb dX6_stitch_56 rfl (lv_at hl 2 rfl) ?_
      refine lv_iload_n hx hb dX6_stitch_57 rfl (lv_at hl 3 rfl) ?_
      refine lv_iload_n hx hb dX6_stitch_58 rfl (lv_at hl 4 rfl) ?_
      refine kc_i (va_runV (As := [.int (nI (j)), .int (nI (jr)), .int (nI (jc))]) (rest := []) hF (c_X6_stitchOf l G h ad 0 rl rw S wr j jr jc (by omega) (by omega) (by omega) (by omega)) (cwV 3 hts gX6_stitch_X6_stitchOf rfl rfl rfl (by decide +kernel) ⟨Nat.le_of_ble_eq_true rfl, Nat.le_of_ble_eq_true rfl⟩) (kPreV hE hS hV 0 rfl rfl) rfl rfl hl.1 rfl (lv_room (Nat.le_of_ble_eq_true rfl)) dX6_stitch_59 ⟨Nat.le_of_ble_eq_true rfl, Nat.le_of_ble_eq_true rfl⟩) hS (fun r_9 u_8 H locs hp_7 hV hS => ?_)
      subst hp_7
      have hV : kV G (kM G h ad 0 (pL S j jr) (pW S j jr) S ++ wr) H := hV
      have hop : opStitch S (nI j) (nI jr) (nI jc) = (0, nI (pSt S j jr jc), S) := by
        unfold opStitch
        rw [kif_f (fun z => z c37), tj, tn_nI (j := jr) (by omega), tn_nI (j := jc) hjc] <;> rfl
      exact W.iret (v := nI (pSt S j jr jc)) hx hb hrt (fun t ht hW => ⟨⟨_, (pL S j jr, pW S j jr), rfl, by rw [hop], kV_eq ht (by rw [hop]; exact hV)⟩, hS.F ht⟩) hS.2.2 dX6_stitch_62
  refine lv_aload_n hx hb dX6_stitch_0 rfl (lv_at hl 0 rfl) ?_
  refine lv_iload_n hx hb dX6_stitch_1 rfl (lv_at hl 1 rfl) ?_
  refine kc_i (va_runV (As := [.int (p)]) (rest := []) hF (c_X6_isPattern l G h ad rf rl rw S wr p (by omega)) (cwV 1 hts gX6_stitch_X6_isPattern rfl rfl rfl (by decide +kernel) ⟨Nat.le_of_ble_eq_true rfl, Nat.le_of_ble_eq_true rfl⟩) (kPreV hE hS hV 0 rfl rfl) rfl rfl hl.1 rfl (lv_room (Nat.le_of_ble_eq_true rfl)) dX6_stitch_2 ⟨Nat.le_of_ble_eq_true rfl, Nat.le_of_ble_eq_true rfl⟩) hS (fun r_12 u_11 H locs hp_10 hV hS => ?_)
  subst hp_10
  have hV : kV G (kM G h ad rf rl rw S ++ wr) H := hV
  refine kb_if_eq (tgt := 31) hx hb dX6_stitch_5 (by decide) (fun c5 => ?_) (fun c5 => ?_)
  · refine lv_iconst (v := nI 0) hx hb dX6_stitch_31 (by decide) ?_
    refine W.eq (g2 := F0 m 32 ls [.int (nI (kb (isIn p (S.1 1 0) ∧ isIn r (pRows S (tn p)) ∧ 0 ≤ c)))]) (by rw [kb_f (fun z => c5 z.1)]) ?_
    exact J32  _ _ hV hS ls (lv_sub hl [0, 1, 2, 3] rfl)
  · obtain ⟨j, hj, rfl⟩ := id c5
    obtain ⟨hokj, howj, hprj, hodj, hlij, hbyj, hbaj⟩ := hIP j hj
    have h6 := hokj.1
    have ho := kInv_od hI hj
    have tj : tn (nI j) = j := tn_nI (by omega)
    have h40 := hokj.2.2.2.1
    refine lv_iload_n hx hb dX6_stitch_8 rfl (lv_at hl 2 rfl) ?_
    refine lv_iconst (v := nI 0) hx hb dX6_stitch_9 (by decide) ?_
    refine lv_aload_n hx hb dX6_stitch_10 rfl (lv_at hl 0 rfl) ?_
    refine lv_iload_n hx hb dX6_stitch_11 rfl (lv_at hl 1 rfl) ?_
    refine kc_i (va_runV (As := [.int (nI (j))]) (rest := [.int (nI (0)), .int (r)]) hF (c_X6_rowsOf l G h ad rf rl rw S wr j (by omega) (by omega)) (cwV 1 hts gX6_stitch_X6_rowsOf rfl rfl rfl (by decide +kernel) ⟨Nat.le_of_ble_eq_true rfl, Nat.le_of_ble_eq_true rfl⟩) (kPreV hE hS hV 0 rfl rfl) rfl rfl hl.1 rfl (lv_room (Nat.le_of_ble_eq_true rfl)) dX6_stitch_12 ⟨Nat.le_of_ble_eq_true rfl, Nat.le_of_ble_eq_true rfl⟩) hS (fun r_15 u_14 H locs hp_13 hV hS => ?_)
    subst hp_13
    have hV : kV G (kM G h ad rf rl rw S ++ wr) H := hV
    refine lv_iconst (v := nI 1) hx hb dX6_stitch_15 (by decide) ?_
    refine lv_isub hx hb dX6_stitch_16 ?_
    refine kc_i (va_runS (As := [.int (r), .int (nI (0)), .int ((nI (pRows S j)) - (nI 1))]) (rest := []) hF (c_X6_in l G r (nI 0) ((nI (pRows S j)) - (nI 1)) (kM G h ad rf rl rw S ++ wr)) (va_cwS 3 hts gX6_stitch_X6_in rfl rfl rfl (by decide +kernel) ⟨Nat.le_of_ble_eq_true rfl, Nat.le_of_ble_eq_true rfl⟩) (kPreS hE hS hV) rfl rfl hl.1 rfl (lv_room (Nat.le_of_ble_eq_true rfl)) dX6_stitch_17 ⟨Nat.le_of_ble_eq_true rfl, Nat.le_of_ble_eq_true rfl⟩) hS (fun r_18 u_17 H locs hp_16 hV hS => ?_)
    subst hp_16
    have hV : kV G (kM G h ad rf rl rw S ++ wr) H := hV
    refine kb_if_eq (tgt := 31) hx hb dX6_stitch_20 (by decide) (fun c20 => ?_) (fun c20 => ?_)
    · refine lv_iconst (v := nI 0) hx hb dX6_stitch_31 (by decide) ?_
      refine W.eq (g2 := F0 m 32 ls [.int (nI (kb (isIn (nI j) (S.1 1 0) ∧ isIn r (pRows S (tn (nI j))) ∧ 0 ≤ c)))]) (by rw [kb_f (fun z => c20 ((isIn_iff (by omega)).mpr (by have h9 := z.2.1; rw [tj] at h9; exact h9)))]) ?_
      exact J32  _ _ hV hS ls (lv_sub hl [0, 1, 2, 3] rfl)
    · refine lv_iload_n hx hb dX6_stitch_23 rfl (lv_at hl 3 rfl) ?_
      refine lv_if_lt (tgt := 31) hx hb dX6_stitch_24 (by decide) (fun c24 => ?_) (fun c24 => ?_)
      · refine lv_iconst (v := nI 0) hx hb dX6_stitch_31 (by decide) ?_
        refine W.eq (g2 := F0 m 32 ls [.int (nI (kb (isIn (nI j) (S.1 1 0) ∧ isIn r (pRows S (tn (nI j))) ∧ 0 ≤ c)))]) (by rw [kb_f (fun z => i_lt_nle c24 z.2.2)]) ?_
        exact J32  _ _ hV hS ls (lv_sub hl [0, 1, 2, 3] rfl)
      · refine lv_iconst (v := nI 1) hx hb dX6_stitch_27 (by decide) ?_
        refine lv_goto (tgt := 32) hx hb dX6_stitch_28 (by decide) ?_
        refine W.eq (g2 := F0 m 32 ls [.int (nI (kb (isIn (nI j) (S.1 1 0) ∧ isIn r (pRows S (tn (nI j))) ∧ 0 ≤ c)))]) (by rw [kb_t (⟨c5, by rw [tj]; exact (isIn_iff (by omega)).mp c20, i_nlt c24⟩)]) ?_
        exact J32  _ _ hV hS ls (lv_sub hl [0, 1, 2, 3] rfl)
set_option maxHeartbeats 4000000 in
set_option maxRecDepth 100000 in
theorem c_X6_stitchByWork (l : Launch) (G : kG) (h : Nat) (ad : Nat → Nat) (rf : Nat) (rl : Nat) (rw : Nat) (S : kS) (wr : va_W) (p : Int32) (r : Int32) (c : Int32) (hI : kInv S) : Met l yX6_stitchByWork wsX6_stitchByWork ({ frames := 3, cells := 0, slots := 0, locals := 72 } : Room) (kPc G [.ref (h), .int (p), .int (r), .int (c)] (kM G h ad rf rl rw S ++ wr)) (kQi G (S := Nat × Nat) (fun q _ => q = (opStitch S p r c).2.1) (fun uu => kM G h ad ((opStitch S p r c).1) uu.1 uu.2 ((opStitch S p r c).2.2) ++ wr)) 0 0 (kA G) := by
  refine Met.ofW (cc := cX6_stitchByWork) (maxL := 4) (ret := (some .int)) (by decide) rfl ?_
  intro pp ee s m args below meth cc0 s₁ B hml hv
  obtain ⟨rfl, hE, hV⟩ := hv
  have hK := hE.1
  have hx := B.exec
  have hb := B.bytes
  have hrt := B.returns
  have hts := atoms_spec (ws := wsX6_stitchByWork) B.pre
  have hown : s.vm.findClass RX6 = some m.cls := findClass_of_methodNamed B.named
  have hlocks := B.notSynchronized
  have hF : CallFix pp m cc0 cX6_stitchByWork 4 s _ wsX6_stitchByWork RX6 := ⟨hx, hb, hml, hown, hts⟩
  have hS : va_S (kA G) s.heap s.heap [] := va_S.rf
  have hB0 := hE.2.1
  have hl := lv_entry ([.ref (h), .int (p), .int (r), .int (c)]) (n := 4) (Nat.le_of_ble_eq_true rfl)
  rw [lg_entry_eq]
  generalize (lg_sl ([.ref (h), .int (p), .int (r), .int (c)]) ++ List.replicate (4 - (lg_sl ([.ref (h), .int (p), .int (r), .int (c)])).length) Slot.unset).toArray = ls at hl ⊢
  have hl : lv_has ls 4 [(0, .ref (h)), (1, .int (p)), (2, .int (r)), (3, .int (c))] := hl
  refine lv_aload_n hx hb dX6_stitchByWork_0 rfl (lv_at hl 0 rfl) ?_
  refine lv_iload_n hx hb dX6_stitchByWork_1 rfl (lv_at hl 1 rfl) ?_
  refine lv_iload_n hx hb dX6_stitchByWork_2 rfl (lv_at hl 2 rfl) ?_
  refine lv_iload_n hx hb dX6_stitchByWork_3 rfl (lv_at hl 3 rfl) ?_
  refine kc_i (va_runV (As := [.int (p), .int (r), .int (c)]) (rest := []) hF (c_X6_stitch l G h ad rf rl rw S wr p r c (by omega)) (cwV 3 hts gX6_stitchByWork_X6_stitch rfl rfl rfl (by decide +kernel) ⟨Nat.le_of_ble_eq_true rfl, Nat.le_of_ble_eq_true rfl⟩) (kPreV hE hS hV 0 rfl rfl) rfl rfl hl.1 rfl (lv_room (Nat.le_of_ble_eq_true rfl)) dX6_stitchByWork_4 ⟨Nat.le_of_ble_eq_true rfl, Nat.le_of_ble_eq_true rfl⟩) hS (fun r_3 u_2 H locs hp_1 hV hS => ?_)
  subst hp_1
  have hV : kV G (kM G h ad ((opStitch S p r c).1) u_2.1 u_2.2 ((opStitch S p r c).2.2) ++ wr) H := hV
  exact W.iret (v := ((opStitch S p r c).2.1)) hx hb hrt (fun t ht hW => ⟨⟨_, (u_2.1, u_2.2), rfl, rfl, kV_eq ht hV⟩, hS.F ht⟩) hS.2.2 dX6_stitchByWork_7
set_option maxHeartbeats 4000000 in
set_option maxRecDepth 100000 in
theorem c_X6_need (l : Launch) (G : kG) (h : Nat) (ad : Nat → Nat) (rf : Nat) (rl : Nat) (rw : Nat) (S : kS) (wr : va_W) (p : Int32) (g : Int32) (hI : kInv S) : Met l yX6_need wsX6_need ({ frames := 2, cells := 0, slots := 0, locals := 50 } : Room) (kPc G [.ref (h), .int (p), .int (g)] (kM G h ad rf rl rw S ++ wr)) (kQi G (S := Nat × Nat) (fun q _ => q = (opNeed S p g).2.1) (fun uu => kM G h ad ((opNeed S p g).1) uu.1 uu.2 ((opNeed S p g).2.2) ++ wr)) 0 0 (kA G) := by
  refine Met.ofW (cc := cX6_need) (maxL := 5) (ret := (some .int)) (by decide) rfl ?_
  intro pp ee s m args below meth cc0 s₁ B hml hv
  obtain ⟨rfl, hE, hV⟩ := hv
  have hK := hE.1
  have hx := B.exec
  have hb := B.bytes
  have hrt := B.returns
  have hts := atoms_spec (ws := wsX6_need) B.pre
  have hown : s.vm.findClass RX6 = some m.cls := findClass_of_methodNamed B.named
  have hlocks := B.notSynchronized
  have hF : CallFix pp m cc0 cX6_need 5 s _ wsX6_need RX6 := ⟨hx, hb, hml, hown, hts⟩
  have hS : va_S (kA G) s.heap s.heap [] := va_S.rf
  have hB0 := hE.2.1
  have hl := lv_entry ([.ref (h), .int (p), .int (g)]) (n := 5) (Nat.le_of_ble_eq_true rfl)
  rw [lg_entry_eq]
  generalize (lg_sl ([.ref (h), .int (p), .int (g)]) ++ List.replicate (5 - (lg_sl ([.ref (h), .int (p), .int (g)])).length) Slot.unset).toArray = ls at hl ⊢
  have hl : lv_has ls 5 [(0, .ref (h)), (1, .int (p)), (2, .int (g))] := hl
  obtain ⟨⟨hnp, hnl, hnj, hpu⟩, hIP, hIQ, hIL, hIJ, hIK, hIO⟩ := id hI
  refine lv_aload_n hx hb dX6_need_0 rfl (lv_at hl 0 rfl) ?_
  refine lv_aload_n hx hb dX6_need_1 rfl (lv_at hl 0 rfl) ?_
  refine lv_iload_n hx hb dX6_need_2 rfl (lv_at hl 1 rfl) ?_
  refine kc_i (va_runV (As := [.int (p)]) (rest := [.ref (h)]) hF (c_X6_isPattern l G h ad rf rl rw S wr p (by omega)) (cwV 1 hts gX6_need_X6_isPattern rfl rfl rfl (by decide +kernel) ⟨Nat.le_of_ble_eq_true rfl, Nat.le_of_ble_eq_true rfl⟩) (kPreV hE hS hV 0 rfl rfl) rfl rfl hl.1 rfl (lv_room (Nat.le_of_ble_eq_true rfl)) dX6_need_3 ⟨Nat.le_of_ble_eq_true rfl, Nat.le_of_ble_eq_true rfl⟩) hS (fun r_3 u_2 H locs hp_1 hV hS => ?_)
  subst hp_1
  have hV : kV G (kM G h ad rf rl rw S ++ wr) H := hV
  refine kb_if_ne (tgt := 13) hx hb dX6_need_6 (by decide) (fun c6 => ?_) (fun c6 => ?_)
  · refine lv_iload_n hx hb dX6_need_13 rfl (lv_at hl 2 rfl) ?_
    refine lv_iconst (v := nI 5) hx hb dX6_need_14 (by decide) ?_
    refine lv_bipush (v := nI 20) hx hb dX6_need_15 (by decide) ?_
    refine kc_i (va_runS (As := [.int (g), .int (nI (5)), .int (nI (20))]) (rest := [.ref (h)]) hF (c_X6_in l G g (nI 5) (nI 20) (kM G h ad rf rl rw S ++ wr)) (va_cwS 3 hts gX6_need_X6_in rfl rfl rfl (by decide +kernel) ⟨Nat.le_of_ble_eq_true rfl, Nat.le_of_ble_eq_true rfl⟩) (kPreS hE hS hV) rfl rfl hl.1 rfl (lv_room (Nat.le_of_ble_eq_true rfl)) dX6_need_17 ⟨Nat.le_of_ble_eq_true rfl, Nat.le_of_ble_eq_true rfl⟩) hS (fun r_6 u_5 H locs hp_4 hV hS => ?_)
    subst hp_4
    have hV : kV G (kM G h ad rf rl rw S ++ wr) H := hV
    refine kb_if_eq (tgt := 27) hx hb dX6_need_20 (by decide) (fun c20 => ?_) (fun c20 => ?_)
    · refine lv_iconst (v := nI 2) hx hb dX6_need_27 (by decide) ?_
      refine kc_i (va_runV (As := [.int (nI (2))]) (rest := []) hF (c_X6_refused l G h ad rf rl rw S wr 2 (by omega)) (cwV 1 hts gX6_need_X6_refused rfl rfl rfl (by decide +kernel) ⟨Nat.le_of_ble_eq_true rfl, Nat.le_of_ble_eq_true rfl⟩) (kPreV hE hS hV 0 rfl rfl) rfl rfl hl.1 rfl (lv_room (Nat.le_of_ble_eq_true rfl)) dX6_need_28 ⟨Nat.le_of_ble_eq_true rfl, Nat.le_of_ble_eq_true rfl⟩) hS (fun r_9 u_8 H locs hp_7 hV hS => ?_)
      subst hp_7
      refine W.eq (g2 := F0 m 31 ls [.int (nI (1))]) (by rw [kb_t (by decide)]) ?_
      have hV : kV G (kM G h ad 2 rl rw S ++ wr) H := hV
      refine kn_if_eq_not hx hb (by decide) dX6_need_31 ?_ 36 (by decide)
      refine lv_iconst (v := nI 0) hx hb dX6_need_34 (by decide) ?_
      have hop : opNeed S p g = (2, nI 0, S) := by
        unfold opNeed
        rw [kif_f (fun z => z c6), kif_t c20] <;> rfl
      exact W.iret (v := nI 0) hx hb hrt (fun t ht hW => ⟨⟨_, (rl, rw), rfl, by rw [hop], kV_eq ht (by rw [hop]; exact hV)⟩, hS.F ht⟩) hS.2.2 dX6_need_35
    · refine lv_iconst (v := nI 0) hx hb dX6_need_23 (by decide) ?_
      refine lv_goto (tgt := 28) hx hb dX6_need_24 (by decide) ?_
      refine kc_i (va_runV (As := [.int (nI (0))]) (rest := []) hF (c_X6_refused l G h ad rf rl rw S wr 0 (by omega)) (cwV 1 hts gX6_need_X6_refused rfl rfl rfl (by decide +kernel) ⟨Nat.le_of_ble_eq_true rfl, Nat.le_of_ble_eq_true rfl⟩) (kPreV hE hS hV 0 rfl rfl) rfl rfl hl.1 rfl (lv_room (Nat.le_of_ble_eq_true rfl)) dX6_need_28 ⟨Nat.le_of_ble_eq_true rfl, Nat.le_of_ble_eq_true rfl⟩) hS (fun r_12 u_11 H locs hp_10 hV hS => ?_)
      subst hp_10
      refine W.eq (g2 := F0 m 31 ls [.int (nI (0))]) (by rw [kb_f (by decide)]) ?_
      have hV : kV G (kM G h ad 0 rl rw S ++ wr) H := hV
      refine kn_if_eq_lit (tgt := 36) hx hb (by decide) dX6_need_31 (by decide) ?_
      obtain ⟨j, hj, rfl⟩ := id c6
      obtain ⟨jg, hjg1, hjg2, rfl⟩ := rng_nI c20 (by decide) (by decide)
      obtain ⟨hokj, howj, hprj, hodj, hlij, hbyj, hbaj⟩ := hIP j hj
      have h6 := hokj.1
      have h40 := hokj.2.2.2.1
      have tj : tn (nI j) = j := tn_nI (by omega)
      refine lv_iconst (v := nI 0) hx hb dX6_need_36 (by decide) ?_
      refine lv_istore_n (lv' := [(3, .int (nI (0))), (0, .ref (h)), (1, .int (nI (j))), (2, .int (nI (jg)))]) hx hb dX6_need_37 rfl hl (by decide) rfl (fun ls hl => ?_)
      refine lv_iconst (v := nI 0) hx hb dX6_need_38 (by decide) ?_
      refine lv_istore (lv' := [(4, .int (nI (0))), (3, .int (nI (0))), (0, .ref (h)), (1, .int (nI (j))), (2, .int (nI (jg)))]) hx hb dX6_need_39 hl (by decide) rfl (fun ls hl => ?_)
      have L41 : ∀ (nL41 : Nat) (i : Nat) (rl1 : Nat) (rw1 : Nat) (hi : i ≤ pRows S j) (hmL41 : pRows S j - i < nL41) (H : Heap) (locs : List Loc), kV G (kM G h ad 0 rl1 rw1 S ++ wr) H → va_S (kA G) s.heap H locs → ∀ (ls : Array Slot), lv_has ls 5 [(0, .ref (h)), (1, .int (nI (j))), (2, .int (nI (jg))), (3, .int (nI (sumN (fun r => jg * pYn S j r) i))), (4, .int (nI (i)))] → W pp l ee (headSpec wsX6_need ({ frames := 2, cells := 0, slots := 0, locals := 50 } : Room)).room s m [.ref (h), .int (nI (j)), .int (nI (jg))].toArray below meth cc0 H locs 0 0 (MQ below (kQi G (S := Nat × Nat) (fun q _ => q = (opNeed S (nI j) (nI jg)).2.1) (fun uu => kM G h ad ((opNeed S (nI j) (nI jg)).1) uu.1 uu.2 ((opNeed S (nI j) (nI jg)).2.2) ++ wr)) [.ref (h), .int (nI (j)), .int (nI (jg))].toArray s 0 0 (kA G)) (F0 m 41 ls []) := by
        intro nL41
        induction nL41 with
        | zero => intro i rl1 rw1 hi hmL41; exact absurd hmL41 (Nat.not_lt_zero _)
        | succ nL41 ihL41 =>
          intro i rl1 rw1 hi hmL41 H locs hV hS ls hl
          refine lv_iload hx hb dX6_need_41 (lv_at hl 4 rfl) ?_
          refine lv_aload_n hx hb dX6_need_43 rfl (lv_at hl 0 rfl) ?_
          refine lv_iload_n hx hb dX6_need_44 rfl (lv_at hl 1 rfl) ?_
          refine kc_i (va_runV (As := [.int (nI (j))]) (rest := [.int (nI (i))]) hF (c_X6_rowsOf l G h ad 0 rl1 rw1 S wr j (by omega) (by omega)) (cwV 1 hts gX6_need_X6_rowsOf rfl rfl rfl (by decide +kernel) ⟨Nat.le_of_ble_eq_true rfl, Nat.le_of_ble_eq_true rfl⟩) (kPreV hE hS hV 0 rfl rfl) rfl rfl hl.1 rfl (lv_room (Nat.le_of_ble_eq_true rfl)) dX6_need_45 ⟨Nat.le_of_ble_eq_true rfl, Nat.le_of_ble_eq_true rfl⟩) hS (fun r_15 u_14 H locs hp_13 hV hS => ?_)
          subst hp_13
          have hV : kV G (kM G h ad 0 rl1 rw1 S ++ wr) H := hV
          refine kn_ge (tgt := 68) hx hb (by omega) (by omega) dX6_need_48 (by decide) (fun c48 => ?_) (fun c48 => ?_)
          · refine lv_iload_n hx hb dX6_need_68 rfl (lv_at hl 3 rfl) ?_
            have hop : opNeed S (nI j) (nI jg) = (0, nI (sumN (fun r => jg * pYn S j r) i), S) := by
              unfold opNeed
              rw [kif_f (fun z => z (isIn_nI hj)), kif_f (fun z => z c20), tj, tn_nI (j := jg) (by omega), show i = pRows S j from by omega] <;> rfl
            exact W.iret (v := nI (sumN (fun r => jg * pYn S j r) i)) hx hb hrt (fun t ht hW => ⟨⟨_, (rl1, rw1), rfl, by rw [hop], kV_eq ht (by rw [hop]; exact hV)⟩, hS.F ht⟩) hS.2.2 dX6_need_69
          · refine lv_iload_n hx hb dX6_need_51 rfl (lv_at hl 3 rfl) ?_
            refine lv_aload_n hx hb dX6_need_52 rfl (lv_at hl 0 rfl) ?_
            refine lv_iload_n hx hb dX6_need_53 rfl (lv_at hl 1 rfl) ?_
            refine lv_iload hx hb dX6_need_54 (lv_at hl 4 rfl) ?_
            refine lv_iload_n hx hb dX6_need_56 rfl (lv_at hl 2 rfl) ?_
            refine kc_i (va_runV (As := [.int (nI (j)), .int (nI (i)), .int (nI (jg))]) (rest := [.int (nI (sumN (fun r => jg * pYn S j r) i))]) hF (c_X6_rowNeed l G h ad 0 rl1 rw1 S wr j i jg (by omega) (by omega) (by omega)) (cwV 3 hts gX6_need_X6_rowNeed rfl rfl rfl (by decide +kernel) ⟨Nat.le_of_ble_eq_true rfl, Nat.le_of_ble_eq_true rfl⟩) (kPreV hE hS hV 0 rfl rfl) rfl rfl hl.1 rfl (lv_room (Nat.le_of_ble_eq_true rfl)) dX6_need_57 ⟨Nat.le_of_ble_eq_true rfl, Nat.le_of_ble_eq_true rfl⟩) hS (fun r_18 u_17 H locs hp_16 hV hS => ?_)
            subst hp_16
            have hV : kV G (kM G h ad 0 (pL S j i) (pW S j i) S ++ wr) H := hV
            refine kn_add hx hb dX6_need_60 ?_
            refine lv_istore_n (lv' := [(3, .int (nI ((sumN (fun r => jg * pYn S j r) i) + (jg * pYn S j i)))), (0, .ref (h)), (1, .int (nI (j))), (2, .int (nI (jg))), (4, .int (nI (i)))]) hx hb dX6_need_61 rfl hl (by decide) rfl (fun ls hl => ?_)
            refine lv_iinc (lv' := [(4, .int (nI (i + 1))), (3, .int (nI ((sumN (fun r => jg * pYn S j r) i) + (jg * pYn S j i)))), (0, .ref (h)), (1, .int (nI (j))), (2, .int (nI (jg)))]) hx hb dX6_need_62 hl (k := 4) rfl (kn_iinc i 1) (by decide) rfl (fun ls hl => ?_)
            refine lv_goto (tgt := 41) hx hb dX6_need_65 (by decide) ?_
            exact ihL41 (i + 1) (pL S j i) (pW S j i) (by omega) (by omega) _ _ hV hS ls (lv_sub hl [2, 3, 4, 1, 0] rfl)
      exact L41 ((pRows S j - 0) + 1) 0 rl rw (by omega) (Nat.lt_succ_self _) _ _ hV hS ls (lv_sub hl [2, 3, 4, 1, 0] rfl)
  · refine lv_iconst (v := nI 1) hx hb dX6_need_9 (by decide) ?_
    refine lv_goto (tgt := 28) hx hb dX6_need_10 (by decide) ?_
    refine kc_i (va_runV (As := [.int (nI (1))]) (rest := []) hF (c_X6_refused l G h ad rf rl rw S wr 1 (by omega)) (cwV 1 hts gX6_need_X6_refused rfl rfl rfl (by decide +kernel) ⟨Nat.le_of_ble_eq_true rfl, Nat.le_of_ble_eq_true rfl⟩) (kPreV hE hS hV 0 rfl rfl) rfl rfl hl.1 rfl (lv_room (Nat.le_of_ble_eq_true rfl)) dX6_need_28 ⟨Nat.le_of_ble_eq_true rfl, Nat.le_of_ble_eq_true rfl⟩) hS (fun r_21 u_20 H locs hp_19 hV hS => ?_)
    subst hp_19
    refine W.eq (g2 := F0 m 31 ls [.int (nI (1))]) (by rw [kb_t (by decide)]) ?_
    have hV : kV G (kM G h ad 1 rl rw S ++ wr) H := hV
    refine kn_if_eq_not hx hb (by decide) dX6_need_31 ?_ 36 (by decide)
    refine lv_iconst (v := nI 0) hx hb dX6_need_34 (by decide) ?_
    have hop : opNeed S p g = (1, nI 0, S) := by
      unfold opNeed
      rw [kif_t c6] <;> rfl
    exact W.iret (v := nI 0) hx hb hrt (fun t ht hW => ⟨⟨_, (rl, rw), rfl, by rw [hop], kV_eq ht (by rw [hop]; exact hV)⟩, hS.F ht⟩) hS.2.2 dX6_need_35
set_option maxHeartbeats 4000000 in
set_option maxRecDepth 100000 in
theorem c_X6_buy (l : Launch) (G : kG) (h : Nat) (ad : Nat → Nat) (rf : Nat) (rl : Nat) (rw : Nat) (S : kS) (wr : va_W) (p : Int32) (x : Int32) (hI : kInv S) : Met l yX6_buy wsX6_buy ({ frames := 2, cells := 0, slots := 0, locals := 43 } : Room) (kPc G [.ref (h), .int (p), .int (x)] (kM G h ad rf rl rw S ++ wr)) (kQi G (S := Nat × Nat) (fun q _ => q = (opBuy S p x).2.1) (fun uu => kM G h ad ((opBuy S p x).1) uu.1 uu.2 ((opBuy S p x).2.2) ++ wr)) 0 0 (kA G) := by
  refine Met.ofW (cc := cX6_buy) (maxL := 5) (ret := (some .int)) (by decide) rfl ?_
  intro pp ee s m args below meth cc0 s₁ B hml hv
  obtain ⟨rfl, hE, hV⟩ := hv
  have hK := hE.1
  have hx := B.exec
  have hb := B.bytes
  have hrt := B.returns
  have hts := atoms_spec (ws := wsX6_buy) B.pre
  have hown : s.vm.findClass RX6 = some m.cls := findClass_of_methodNamed B.named
  have hlocks := B.notSynchronized
  have hF : CallFix pp m cc0 cX6_buy 5 s _ wsX6_buy RX6 := ⟨hx, hb, hml, hown, hts⟩
  have hinX6 : ∀ w ∈ wsX60, w ∈ wsX6_buy := tb_of [32, 33, 34, 35, 36, 37, 38, 39, 40, 41, 42, 43, 44, 45, 46, 47, 48, 49, 50, 51, 52, 53, 54, 55, 56, 57] rfl
  have hS : va_S (kA G) s.heap s.heap [] := va_S.rf
  have hB0 := hE.2.1
  have hl := lv_entry ([.ref (h), .int (p), .int (x)]) (n := 5) (Nat.le_of_ble_eq_true rfl)
  rw [lg_entry_eq]
  generalize (lg_sl ([.ref (h), .int (p), .int (x)]) ++ List.replicate (5 - (lg_sl ([.ref (h), .int (p), .int (x)])).length) Slot.unset).toArray = ls at hl ⊢
  have hl : lv_has ls 5 [(0, .ref (h)), (1, .int (p)), (2, .int (x))] := hl
  obtain ⟨⟨hnp, hnl, hnj, hpu⟩, hIP, hIQ, hIL, hIJ, hIK, hIO⟩ := id hI
  have J20 : ∀ (H : Heap) (locs : List Loc), kV G (kM G h ad rf rl rw S ++ wr) H → va_S (kA G) s.heap H locs → ∀ (ls : Array Slot), lv_has ls 5 [(0, .ref (h)), (1, .int (p)), (2, .int (x))] → W pp l ee (headSpec wsX6_buy ({ frames := 2, cells := 0, slots := 0, locals := 43 } : Room)).room s m [.ref (h), .int (p), .int (x)].toArray below meth cc0 H locs 0 0 (MQ below (kQi G (S := Nat × Nat) (fun q _ => q = (opBuy S p x).2.1) (fun uu => kM G h ad ((opBuy S p x).1) uu.1 uu.2 ((opBuy S p x).2.2) ++ wr)) [.ref (h), .int (p), .int (x)].toArray s 0 0 (kA G)) (F0 m 20 ls [.int (nI (kb (isIn p (S.1 1 0) ∧ isIn x 5)))]) := by
    intro  H locs hV hS ls hl
    refine lv_istore_n (lv' := [(3, .int (nI (kb (isIn p (S.1 1 0) ∧ isIn x 5)))), (0, .ref (h)), (1, .int (p)), (2, .int (x))]) hx hb dX6_buy_20 rfl hl (by decide) rfl (fun ls hl => ?_)
    have J66 : ∀ (H : Heap) (locs : List Loc), kV G (kM G h ad rf rl rw S ++ wr) H → va_S (kA G) s.heap H locs → ∀ (ls : Array Slot), lv_has ls 5 [(3, .int (nI (kb (isIn p (S.1 1 0) ∧ isIn x 5)))), (0, .ref (h)), (1, .int (p)), (2, .int (x))] → W pp l ee (headSpec wsX6_buy ({ frames := 2, cells := 0, slots := 0, locals := 43 } : Room)).room s m [.ref (h), .int (p), .int (x)].toArray below meth cc0 H locs 0 0 (MQ below (kQi G (S := Nat × Nat) (fun q _ => q = (opBuy S p x).2.1) (fun uu => kM G h ad ((opBuy S p x).1) uu.1 uu.2 ((opBuy S p x).2.2) ++ wr)) [.ref (h), .int (p), .int (x)].toArray s 0 0 (kA G)) (F0 m 66 ls [.int (nI (kb ((isIn p (S.1 1 0) ∧ isIn x 5) ∧ buyCan S (tn p) (tn x))))]) := by
      intro  H locs hV hS ls hl
      refine lv_istore (lv' := [(4, .int (nI (kb ((isIn p (S.1 1 0) ∧ isIn x 5) ∧ buyCan S (tn p) (tn x))))), (3, .int (nI (kb (isIn p (S.1 1 0) ∧ isIn x 5)))), (0, .ref (h)), (1, .int (p)), (2, .int (x))]) hx hb dX6_buy_66 hl (by decide) rfl (fun ls hl => ?_)
      refine lv_aload_n hx hb dX6_buy_68 rfl (lv_at hl 2 rfl) ?_
      refine lv_iload_n hx hb dX6_buy_69 rfl (lv_at hl 1 rfl) ?_
      refine kb_if_ne (tgt := 77) hx hb dX6_buy_70 (by decide) (fun c70 => ?_) (fun c70 => ?_)
      · refine lv_iload hx hb dX6_buy_77 (lv_at hl 0 rfl) ?_
        refine kb_if_eq (tgt := 86) hx hb dX6_buy_79 (by decide) (fun c79 => ?_) (fun c79 => ?_)
        · refine lv_iconst (v := nI 2) hx hb dX6_buy_86 (by decide) ?_
          refine kc_i (va_runV (As := [.int (nI (2))]) (rest := []) hF (c_X6_refused l G h ad rf rl rw S wr 2 (by omega)) (cwV 1 hts gX6_buy_X6_refused rfl rfl rfl (by decide +kernel) ⟨Nat.le_of_ble_eq_true rfl, Nat.le_of_ble_eq_true rfl⟩) (kPreV hE hS hV 0 rfl rfl) rfl rfl hl.1 rfl (lv_room (Nat.le_of_ble_eq_true rfl)) dX6_buy_87 ⟨Nat.le_of_ble_eq_true rfl, Nat.le_of_ble_eq_true rfl⟩) hS (fun r_3 u_2 H locs hp_1 hV hS => ?_)
          subst hp_1
          refine W.eq (g2 := F0 m 90 ls [.int (nI (1))]) (by rw [kb_t (by decide)]) ?_
          have hV : kV G (kM G h ad 2 rl rw S ++ wr) H := hV
          refine kn_if_eq_not hx hb (by decide) dX6_buy_90 ?_ 95 (by decide)
          refine lv_iconst (v := nI 0) hx hb dX6_buy_93 (by decide) ?_
          have hop : opBuy S p x = (2, nI 0, S) := by
            unfold opBuy
            rw [kif_f (fun z => z c70), kif_t (fun z => c79 ⟨c70, z⟩)] <;> rfl
          exact W.iret (v := nI 0) hx hb hrt (fun t ht hW => ⟨⟨_, (rl, rw), rfl, by rw [hop], kV_eq ht (by rw [hop]; exact hV)⟩, hS.F ht⟩) hS.2.2 dX6_buy_94
        · refine lv_iconst (v := nI 0) hx hb dX6_buy_82 (by decide) ?_
          refine lv_goto (tgt := 87) hx hb dX6_buy_83 (by decide) ?_
          refine kc_i (va_runV (As := [.int (nI (0))]) (rest := []) hF (c_X6_refused l G h ad rf rl rw S wr 0 (by omega)) (cwV 1 hts gX6_buy_X6_refused rfl rfl rfl (by decide +kernel) ⟨Nat.le_of_ble_eq_true rfl, Nat.le_of_ble_eq_true rfl⟩) (kPreV hE hS hV 0 rfl rfl) rfl rfl hl.1 rfl (lv_room (Nat.le_of_ble_eq_true rfl)) dX6_buy_87 ⟨Nat.le_of_ble_eq_true rfl, Nat.le_of_ble_eq_true rfl⟩) hS (fun r_6 u_5 H locs hp_4 hV hS => ?_)
          subst hp_4
          refine W.eq (g2 := F0 m 90 ls [.int (nI (0))]) (by rw [kb_f (by decide)]) ?_
          have hV : kV G (kM G h ad 0 rl rw S ++ wr) H := hV
          refine kn_if_eq_lit (tgt := 95) hx hb (by decide) dX6_buy_90 (by decide) ?_
          obtain ⟨j, hj, rfl⟩ := id c79.1.1
          obtain ⟨jx, hjx, rfl⟩ := id c79.1.2
          obtain ⟨hokj, howj, hprj, hodj, hlij, hbyj, hbaj⟩ := hIP j hj
          have ho := kInv_od hI hj
          have tj : tn (nI j) = j := tn_nI (by omega)
          have tx : tn (nI jx) = jx := tn_nI (by omega)
          refine lv_aload_n hx hb dX6_buy_95 rfl (lv_at hl 2 rfl) ?_
          refine va_get (D := kD G) (ci := 7) (v := .ref (ad 13)) (C := RX6) (T := TX6) (N := 26) hx hb hts hinX6 hown hK hV.1 0 rfl rfl 13 (by decide) (hts (Cond.fieldLink RX6 41 "YarncourtModel" "buyers" "[I") (List.mem_of_getElem? (i := 3) rfl)) (fun _ h9 => h9) rfl dX6_buy_96 ?_
          refine lv_iload_n hx hb dX6_buy_99 rfl (lv_at hl 3 rfl) ?_
          refine lv_dup2_11 hx hb dX6_buy_100 rfl rfl ?_
          refine kn_iald (G := G) (n := 16) (g := S.1 13) (j := j) hx hb hK hV 11 rfl (by omega) (by decide) dX6_buy_101 ?_
          refine lv_iconst (v := nI 1) hx hb dX6_buy_102 (by decide) ?_
          refine lv_iload_n hx hb dX6_buy_103 rfl (lv_at hl 4 rfl) ?_
          refine kn_ishl1 hx hb (by omega) dX6_buy_104 ?_
          refine kn_ior hx hb dX6_buy_105 ?_
          refine kn_iast (G := G) (n := 16) (g := S.1 13) (j := j) (v := (S.1 13 j) ||| (2 ^ jx)) hx hb hK hV hS 11 rfl (by omega) (by decide) dX6_buy_106 (fun H locs hV hS => ?_)
          have hV : kV G (kM G h ad 0 rl rw (st S 13 j ((S.1 13 j) ||| (2 ^ jx))) ++ wr) H := hV
          refine lv_aload_n hx hb dX6_buy_107 rfl (lv_at hl 2 rfl) ?_
          refine va_get (D := kD G) (ci := 7) (v := .ref (ad 14)) (C := RX6) (T := TX6) (N := 26) hx hb hts hinX6 hown hK hV.1 0 rfl rfl 14 (by decide) (hts (Cond.fieldLink RX6 44 "YarncourtModel" "moneys" "[I") (List.mem_of_getElem? (i := 4) rfl)) (fun _ h9 => h9) rfl dX6_buy_108 ?_
          refine lv_iload_n hx hb dX6_buy_111 rfl (lv_at hl 4 rfl) ?_
          refine lv_dup2_11 hx hb dX6_buy_112 rfl rfl ?_
          refine kr_iald (G := G) (n := 5) (g := (st S 13 j ((S.1 13 j) ||| (2 ^ jx))).2.2) (j := jx) hx hb hK hV 12 rfl (by omega) (by decide) dX6_buy_113 ?_
          refine lv_aload_n hx hb dX6_buy_114 rfl (lv_at hl 2 rfl) ?_
          refine va_get (D := kD G) (ci := 7) (v := .ref (ad 4)) (C := RX6) (T := TX6) (N := 26) hx hb hts hinX6 hown hK hV.1 0 rfl rfl 4 (by decide) (hts (Cond.fieldLink RX6 16 "YarncourtModel" "prices" "[I") (List.mem_of_getElem? (i := 5) rfl)) (fun _ h9 => h9) rfl dX6_buy_115 ?_
          refine lv_iload_n hx hb dX6_buy_118 rfl (lv_at hl 3 rfl) ?_
          refine kn_iald (G := G) (n := 16) (g := (st S 13 j ((S.1 13 j) ||| (2 ^ jx))).1 4) (j := j) hx hb hK hV 3 rfl (by omega) (by decide) dX6_buy_119 ?_
          refine W.eq (g2 := F0 m 120 ls [.int (nI (S.1 4 j)), .int ((st S 13 j ((S.1 13 j) ||| (2 ^ jx))).2.2 jx), .int (nI (jx)), .ref (ad 14)]) rfl ?_
          refine lv_isub hx hb dX6_buy_120 ?_
          refine kr_iast (G := G) (n := 5) (g := (st S 13 j ((S.1 13 j) ||| (2 ^ jx))).2.2) (j := jx) (v := (((st S 13 j ((S.1 13 j) ||| (2 ^ jx))).2.2 jx) - nI (S.1 4 j))) hx hb hK hV hS 12 rfl (by omega) (by decide) dX6_buy_121 (fun H locs hV hS => ?_)
          have hV : kV G (kM G h ad 0 rl rw (stm (st S 13 j ((S.1 13 j) ||| (2 ^ jx))) jx ((((st S 13 j ((S.1 13 j) ||| (2 ^ jx))).2.2 jx) - nI (S.1 4 j)))) ++ wr) H := hV
          refine lv_aload_n hx hb dX6_buy_122 rfl (lv_at hl 2 rfl) ?_
          refine va_get (D := kD G) (ci := 7) (v := .ref (ad 14)) (C := RX6) (T := TX6) (N := 26) hx hb hts hinX6 hown hK hV.1 0 rfl rfl 14 (by decide) (hts (Cond.fieldLink RX6 44 "YarncourtModel" "moneys" "[I") (List.mem_of_getElem? (i := 4) rfl)) (fun _ h9 => h9) rfl dX6_buy_123 ?_
          refine lv_aload_n hx hb dX6_buy_126 rfl (lv_at hl 2 rfl) ?_
          refine va_get (D := kD G) (ci := 7) (v := .ref (ad 2)) (C := RX6) (T := TX6) (N := 26) hx hb hts hinX6 hown hK hV.1 0 rfl rfl 2 (by decide) (hts (Cond.fieldLink RX6 7 "YarncourtModel" "owners" "[I") (List.mem_of_getElem? (i := 2) rfl)) (fun _ h9 => h9) rfl dX6_buy_127 ?_
          refine lv_iload_n hx hb dX6_buy_130 rfl (lv_at hl 3 rfl) ?_
          refine kn_iald (G := G) (n := 16) (g := (stm (st S 13 j ((S.1 13 j) ||| (2 ^ jx))) jx ((((st S 13 j ((S.1 13 j) ||| (2 ^ jx))).2.2 jx) - nI (S.1 4 j)))).1 2) (j := j) hx hb hK hV 1 rfl (by omega) (by decide) dX6_buy_131 ?_
          refine W.eq (g2 := F0 m 132 ls [.int (nI (S.1 2 j)), .ref (ad 14)]) rfl ?_
          refine lv_dup2_11 hx hb dX6_buy_132 rfl rfl ?_
          refine kr_iald (G := G) (n := 5) (g := (stm (st S 13 j ((S.1 13 j) ||| (2 ^ jx))) jx ((((st S 13 j ((S.1 13 j) ||| (2 ^ jx))).2.2 jx) - nI (S.1 4 j)))).2.2) (j := S.1 2 j) hx hb hK hV 12 rfl (by omega) (by decide) dX6_buy_133 ?_
          refine lv_aload_n hx hb dX6_buy_134 rfl (lv_at hl 2 rfl) ?_
          refine va_get (D := kD G) (ci := 7) (v := .ref (ad 4)) (C := RX6) (T := TX6) (N := 26) hx hb hts hinX6 hown hK hV.1 0 rfl rfl 4 (by decide) (hts (Cond.fieldLink RX6 16 "YarncourtModel" "prices" "[I") (List.mem_of_getElem? (i := 5) rfl)) (fun _ h9 => h9) rfl dX6_buy_135 ?_
          refine lv_iload_n hx hb dX6_buy_138 rfl (lv_at hl 3 rfl) ?_
          refine kn_iald (G := G) (n := 16) (g := (stm (st S 13 j ((S.1 13 j) ||| (2 ^ jx))) jx ((((st S 13 j ((S.1 13 j) ||| (2 ^ jx))).2.2 jx) - nI (S.1 4 j)))).1 4) (j := j) hx hb hK hV 3 rfl (by omega) (by decide) dX6_buy_139 ?_
          refine W.eq (g2 := F0 m 140 ls [.int (nI (S.1 4 j)), .int ((stm (st S 13 j ((S.1 13 j) ||| (2 ^ jx))) jx ((((st S 13 j ((S.1 13 j) ||| (2 ^ jx))).2.2 jx) - nI (S.1 4 j)))).2.2 (S.1 2 j)), .int (nI (S.1 2 j)), .ref (ad 14)]) rfl ?_
          refine lv_iadd hx hb dX6_buy_140 ?_
          refine kr_iast (G := G) (n := 5) (g := (stm (st S 13 j ((S.1 13 j) ||| (2 ^ jx))) jx ((((st S 13 j ((S.1 13 j) ||| (2 ^ jx))).2.2 jx) - nI (S.1 4 j)))).2.2) (j := S.1 2 j) (v := (((stm (st S 13 j ((S.1 13 j) ||| (2 ^ jx))) jx ((((st S 13 j ((S.1 13 j) ||| (2 ^ jx))).2.2 jx) - nI (S.1 4 j)))).2.2 (S.1 2 j)) + nI (S.1 4 j))) hx hb hK hV hS 12 rfl (by omega) (by decide) dX6_buy_141 (fun H locs hV hS => ?_)
          have hV : kV G (kM G h ad 0 rl rw (stm (stm (st S 13 j ((S.1 13 j) ||| (2 ^ jx))) jx ((((st S 13 j ((S.1 13 j) ||| (2 ^ jx))).2.2 jx) - nI (S.1 4 j)))) (S.1 2 j) ((((stm (st S 13 j ((S.1 13 j) ||| (2 ^ jx))) jx ((((st S 13 j ((S.1 13 j) ||| (2 ^ jx))).2.2 jx) - nI (S.1 4 j)))).2.2 (S.1 2 j)) + nI (S.1 4 j)))) ++ wr) H := hV
          refine lv_aload_n hx hb dX6_buy_142 rfl (lv_at hl 2 rfl) ?_
          refine va_get (D := kD G) (ci := 7) (v := .ref (ad 14)) (C := RX6) (T := TX6) (N := 26) hx hb hts hinX6 hown hK hV.1 0 rfl rfl 14 (by decide) (hts (Cond.fieldLink RX6 44 "YarncourtModel" "moneys" "[I") (List.mem_of_getElem? (i := 4) rfl)) (fun _ h9 => h9) rfl dX6_buy_143 ?_
          refine lv_aload_n hx hb dX6_buy_146 rfl (lv_at hl 2 rfl) ?_
          refine va_get (D := kD G) (ci := 7) (v := .ref (ad 2)) (C := RX6) (T := TX6) (N := 26) hx hb hts hinX6 hown hK hV.1 0 rfl rfl 2 (by decide) (hts (Cond.fieldLink RX6 7 "YarncourtModel" "owners" "[I") (List.mem_of_getElem? (i := 2) rfl)) (fun _ h9 => h9) rfl dX6_buy_147 ?_
          refine lv_iload_n hx hb dX6_buy_150 rfl (lv_at hl 3 rfl) ?_
          refine kn_iald (G := G) (n := 16) (g := (stm (stm (st S 13 j ((S.1 13 j) ||| (2 ^ jx))) jx ((((st S 13 j ((S.1 13 j) ||| (2 ^ jx))).2.2 jx) - nI (S.1 4 j)))) (S.1 2 j) ((((stm (st S 13 j ((S.1 13 j) ||| (2 ^ jx))) jx ((((st S 13 j ((S.1 13 j) ||| (2 ^ jx))).2.2 jx) - nI (S.1 4 j)))).2.2 (S.1 2 j)) + nI (S.1 4 j)))).1 2) (j := j) hx hb hK hV 1 rfl (by omega) (by decide) dX6_buy_151 ?_
          refine W.eq (g2 := F0 m 152 ls [.int (nI (S.1 2 j)), .ref (ad 14)]) rfl ?_
          refine kr_iald (G := G) (n := 5) (g := (stm (stm (st S 13 j ((S.1 13 j) ||| (2 ^ jx))) jx ((((st S 13 j ((S.1 13 j) ||| (2 ^ jx))).2.2 jx) - nI (S.1 4 j)))) (S.1 2 j) ((((stm (st S 13 j ((S.1 13 j) ||| (2 ^ jx))) jx ((((st S 13 j ((S.1 13 j) ||| (2 ^ jx))).2.2 jx) - nI (S.1 4 j)))).2.2 (S.1 2 j)) + nI (S.1 4 j)))).2.2) (j := S.1 2 j) hx hb hK hV 12 rfl (by omega) (by decide) dX6_buy_152 ?_
          have hop : opBuy S (nI j) (nI jx) = (0, ((stm (stm (st S 13 j ((S.1 13 j) ||| (2 ^ jx))) jx ((((st S 13 j ((S.1 13 j) ||| (2 ^ jx))).2.2 jx) - nI (S.1 4 j)))) (S.1 2 j) ((((stm (st S 13 j ((S.1 13 j) ||| (2 ^ jx))) jx ((((st S 13 j ((S.1 13 j) ||| (2 ^ jx))).2.2 jx) - nI (S.1 4 j)))).2.2 (S.1 2 j)) + nI (S.1 4 j)))).2.2 (S.1 2 j)), stm (stm (st S 13 j ((S.1 13 j) ||| (2 ^ jx))) jx ((((st S 13 j ((S.1 13 j) ||| (2 ^ jx))).2.2 jx) - nI (S.1 4 j)))) (S.1 2 j) ((((stm (st S 13 j ((S.1 13 j) ||| (2 ^ jx))) jx ((((st S 13 j ((S.1 13 j) ||| (2 ^ jx))).2.2 jx) - nI (S.1 4 j)))).2.2 (S.1 2 j)) + nI (S.1 4 j)))) := by
            unfold opBuy
            rw [kif_f (fun z => z c79.1), kif_f (fun z => z c79.2), tj, tx] <;> rfl
          exact W.iret (v := ((stm (stm (st S 13 j ((S.1 13 j) ||| (2 ^ jx))) jx ((((st S 13 j ((S.1 13 j) ||| (2 ^ jx))).2.2 jx) - nI (S.1 4 j)))) (S.1 2 j) ((((stm (st S 13 j ((S.1 13 j) ||| (2 ^ jx))) jx ((((st S 13 j ((S.1 13 j) ||| (2 ^ jx))).2.2 jx) - nI (S.1 4 j)))).2.2 (S.1 2 j)) + nI (S.1 4 j)))).2.2 (S.1 2 j))) hx hb hrt (fun t ht hW => ⟨⟨_, (rl, rw), rfl, by rw [hop], kV_eq ht (by rw [hop]; exact hV)⟩, hS.F ht⟩) hS.2.2 dX6_buy_153
      · refine lv_iconst (v := nI 1) hx hb dX6_buy_73 (by decide) ?_
        refine lv_goto (tgt := 87) hx hb dX6_buy_74 (by decide) ?_
        refine kc_i (va_runV (As := [.int (nI (1))]) (rest := []) hF (c_X6_refused l G h ad rf rl rw S wr 1 (by omega)) (cwV 1 hts gX6_buy_X6_refused rfl rfl rfl (by decide +kernel) ⟨Nat.le_of_ble_eq_true rfl, Nat.le_of_ble_eq_true rfl⟩) (kPreV hE hS hV 0 rfl rfl) rfl rfl hl.1 rfl (lv_room (Nat.le_of_ble_eq_true rfl)) dX6_buy_87 ⟨Nat.le_of_ble_eq_true rfl, Nat.le_of_ble_eq_true rfl⟩) hS (fun r_9 u_8 H locs hp_7 hV hS => ?_)
        subst hp_7
        refine W.eq (g2 := F0 m 90 ls [.int (nI (1))]) (by rw [kb_t (by decide)]) ?_
        have hV : kV G (kM G h ad 1 rl rw S ++ wr) H := hV
        refine kn_if_eq_not hx hb (by decide) dX6_buy_90 ?_ 95 (by decide)
        refine lv_iconst (v := nI 0) hx hb dX6_buy_93 (by decide) ?_
        have hop : opBuy S p x = (1, nI 0, S) := by
          unfold opBuy
          rw [kif_t c70] <;> rfl
        exact W.iret (v := nI 0) hx hb hrt (fun t ht hW => ⟨⟨_, (rl, rw), rfl, by rw [hop], kV_eq ht (by rw [hop]; exact hV)⟩, hS.F ht⟩) hS.2.2 dX6_buy_94
    refine lv_iload_n hx hb dX6_buy_21 rfl (lv_at hl 0 rfl) ?_
    refine kb_if_eq (tgt := 65) hx hb dX6_buy_22 (by decide) (fun c22 => ?_) (fun c22 => ?_)
    · refine lv_iconst (v := nI 0) hx hb dX6_buy_65 (by decide) ?_
      refine W.eq (g2 := F0 m 66 ls [.int (nI (kb ((isIn p (S.1 1 0) ∧ isIn x 5) ∧ buyCan S (tn p) (tn x))))]) (by rw [kb_f (fun z => c22 z.1)]) ?_
      exact J66  _ _ hV hS ls (lv_sub hl [0, 1, 2, 3] rfl)
    · obtain ⟨j, hj, rfl⟩ := id c22.1
      obtain ⟨jx, hjx, rfl⟩ := id c22.2
      obtain ⟨hokj, howj, hprj, hodj, hlij, hbyj, hbaj⟩ := hIP j hj
      have ho := kInv_od hI hj
      have tj : tn (nI j) = j := tn_nI (by omega)
      have tx : tn (nI jx) = jx := tn_nI (by omega)
      refine lv_aload_n hx hb dX6_buy_25 rfl (lv_at hl 1 rfl) ?_
      refine lv_iload_n hx hb dX6_buy_26 rfl (lv_at hl 2 rfl) ?_
      refine kc_i (va_runV (As := [.int (nI (j))]) (rest := []) hF (c_X6_isPublished l G h ad rf rl rw S wr j (by omega) (by omega)) (cwV 1 hts gX6_buy_X6_isPublished rfl rfl rfl (by decide +kernel) ⟨Nat.le_of_ble_eq_true rfl, Nat.le_of_ble_eq_true rfl⟩) (kPreV hE hS hV 0 rfl rfl) rfl rfl hl.1 rfl (lv_room (Nat.le_of_ble_eq_true rfl)) dX6_buy_27 ⟨Nat.le_of_ble_eq_true rfl, Nat.le_of_ble_eq_true rfl⟩) hS (fun r_12 u_11 H locs hp_10 hV hS => ?_)
      subst hp_10
      have hV : kV G (kM G h ad rf rl rw S ++ wr) H := hV
      refine kb_if_eq (tgt := 65) hx hb dX6_buy_30 (by decide) (fun c30 => ?_) (fun c30 => ?_)
      · refine lv_iconst (v := nI 0) hx hb dX6_buy_65 (by decide) ?_
        refine W.eq (g2 := F0 m 66 ls [.int (nI (kb ((isIn (nI j) (S.1 1 0) ∧ isIn (nI jx) 5) ∧ buyCan S (tn (nI j)) (tn (nI jx)))))]) (by rw [kb_f (fun z => by have h9 := z.2; rw [tj, tx] at h9; exact c30 h9.1)]) ?_
        exact J66  _ _ hV hS ls (lv_sub hl [0, 1, 2, 3] rfl)
      · refine lv_aload_n hx hb dX6_buy_33 rfl (lv_at hl 1 rfl) ?_
        refine va_get (D := kD G) (ci := 7) (v := .ref (ad 12)) (C := RX6) (T := TX6) (N := 26) hx hb hts hinX6 hown hK hV.1 0 rfl rfl 12 (by decide) (hts (Cond.fieldLink RX6 37 "YarncourtModel" "isBarred" "[Z") (List.mem_of_getElem? (i := 1) rfl)) (fun _ h9 => h9) rfl dX6_buy_34 ?_
        refine lv_iload_n hx hb dX6_buy_37 rfl (lv_at hl 2 rfl) ?_
        refine kn_zald (G := G) (n := 16) (g := S.1 12) (j := j) hx hb hK hV 10 rfl (by omega) (by decide) dX6_buy_38 ?_
        refine kn_if_ne (tgt := 65) hx hb (by omega) dX6_buy_39 (by decide) (fun c39 => ?_) (fun c39 => ?_)
        · refine lv_iconst (v := nI 0) hx hb dX6_buy_65 (by decide) ?_
          refine W.eq (g2 := F0 m 66 ls [.int (nI (kb ((isIn (nI j) (S.1 1 0) ∧ isIn (nI jx) 5) ∧ buyCan S (tn (nI j)) (tn (nI jx)))))]) (by rw [kb_f (fun z => by have h9 := z.2; rw [tj, tx] at h9; exact c39 h9.2.1)]) ?_
          exact J66  _ _ hV hS ls (lv_sub hl [0, 1, 2, 3] rfl)
        · refine lv_aload_n hx hb dX6_buy_42 rfl (lv_at hl 1 rfl) ?_
          refine va_get (D := kD G) (ci := 7) (v := .ref (ad 2)) (C := RX6) (T := TX6) (N := 26) hx hb hts hinX6 hown hK hV.1 0 rfl rfl 2 (by decide) (hts (Cond.fieldLink RX6 7 "YarncourtModel" "owners" "[I") (List.mem_of_getElem? (i := 2) rfl)) (fun _ h9 => h9) rfl dX6_buy_43 ?_
          refine lv_iload_n hx hb dX6_buy_46 rfl (lv_at hl 2 rfl) ?_
          refine kn_iald (G := G) (n := 16) (g := S.1 2) (j := j) hx hb hK hV 1 rfl (by omega) (by decide) dX6_buy_47 ?_
          refine lv_iload_n hx hb dX6_buy_48 rfl (lv_at hl 3 rfl) ?_
          refine kn_eq (tgt := 65) hx hb (by omega) (by omega) dX6_buy_49 (by decide) (fun c49 => ?_) (fun c49 => ?_)
          · refine lv_iconst (v := nI 0) hx hb dX6_buy_65 (by decide) ?_
            refine W.eq (g2 := F0 m 66 ls [.int (nI (kb ((isIn (nI j) (S.1 1 0) ∧ isIn (nI jx) 5) ∧ buyCan S (tn (nI j)) (tn (nI jx)))))]) (by rw [kb_f (fun z => by have h9 := z.2; rw [tj, tx] at h9; exact h9.2.2.1 c49)]) ?_
            exact J66  _ _ hV hS ls (lv_sub hl [0, 1, 2, 3] rfl)
          · refine lv_aload_n hx hb dX6_buy_52 rfl (lv_at hl 1 rfl) ?_
            refine lv_iload_n hx hb dX6_buy_53 rfl (lv_at hl 2 rfl) ?_
            refine lv_iload_n hx hb dX6_buy_54 rfl (lv_at hl 3 rfl) ?_
            refine kc_i (va_runV (As := [.int (nI (j)), .int (nI (jx))]) (rest := []) hF (c_X6_hasBought l G h ad rf rl rw S wr j jx (by omega) (by omega) (by omega)) (cwV 2 hts gX6_buy_X6_hasBought rfl rfl rfl (by decide +kernel) ⟨Nat.le_of_ble_eq_true rfl, Nat.le_of_ble_eq_true rfl⟩) (kPreV hE hS hV 0 rfl rfl) rfl rfl hl.1 rfl (lv_room (Nat.le_of_ble_eq_true rfl)) dX6_buy_55 ⟨Nat.le_of_ble_eq_true rfl, Nat.le_of_ble_eq_true rfl⟩) hS (fun r_15 u_14 H locs hp_13 hV hS => ?_)
            subst hp_13
            have hV : kV G (kM G h ad rf rl rw S ++ wr) H := hV
            refine kb_if_ne (tgt := 65) hx hb dX6_buy_58 (by decide) (fun c58 => ?_) (fun c58 => ?_)
            · refine lv_iconst (v := nI 0) hx hb dX6_buy_65 (by decide) ?_
              refine W.eq (g2 := F0 m 66 ls [.int (nI (kb ((isIn (nI j) (S.1 1 0) ∧ isIn (nI jx) 5) ∧ buyCan S (tn (nI j)) (tn (nI jx)))))]) (by rw [kb_f (fun z => by have h9 := z.2; rw [tj, tx] at h9; exact h9.2.2.2 c58)]) ?_
              exact J66  _ _ hV hS ls (lv_sub hl [0, 1, 2, 3] rfl)
            · refine lv_iconst (v := nI 1) hx hb dX6_buy_61 (by decide) ?_
              refine lv_goto (tgt := 66) hx hb dX6_buy_62 (by decide) ?_
              refine W.eq (g2 := F0 m 66 ls [.int (nI (kb ((isIn (nI j) (S.1 1 0) ∧ isIn (nI jx) 5) ∧ buyCan S (tn (nI j)) (tn (nI jx)))))]) (by rw [kb_t (⟨c22, by rw [tj, tx]; exact ⟨c30, c39, c49, c58⟩⟩)]) ?_
              exact J66  _ _ hV hS ls (lv_sub hl [0, 1, 2, 3] rfl)
  refine lv_aload_n hx hb dX6_buy_0 rfl (lv_at hl 0 rfl) ?_
  refine lv_iload_n hx hb dX6_buy_1 rfl (lv_at hl 1 rfl) ?_
  refine kc_i (va_runV (As := [.int (p)]) (rest := []) hF (c_X6_isPattern l G h ad rf rl rw S wr p (by omega)) (cwV 1 hts gX6_buy_X6_isPattern rfl rfl rfl (by decide +kernel) ⟨Nat.le_of_ble_eq_true rfl, Nat.le_of_ble_eq_true rfl⟩) (kPreV hE hS hV 0 rfl rfl) rfl rfl hl.1 rfl (lv_room (Nat.le_of_ble_eq_true rfl)) dX6_buy_2 ⟨Nat.le_of_ble_eq_true rfl, Nat.le_of_ble_eq_true rfl⟩) hS (fun r_18 u_17 H locs hp_16 hV hS => ?_)
  subst hp_16
  have hV : kV G (kM G h ad rf rl rw S ++ wr) H := hV
  refine kb_if_eq (tgt := 19) hx hb dX6_buy_5 (by decide) (fun c5 => ?_) (fun c5 => ?_)
  · refine lv_iconst (v := nI 0) hx hb dX6_buy_19 (by decide) ?_
    refine W.eq (g2 := F0 m 20 ls [.int (nI (kb (isIn p (S.1 1 0) ∧ isIn x 5)))]) (by rw [kb_f (fun z => c5 z.1)]) ?_
    exact J20  _ _ hV hS ls (lv_sub hl [0, 1, 2] rfl)
  · refine lv_iload_n hx hb dX6_buy_8 rfl (lv_at hl 2 rfl) ?_
    refine kc_i (va_runS (As := [.int (x)]) (rest := []) hF (c_X6_isPerson l G x (kM G h ad rf rl rw S ++ wr)) (va_cwS 1 hts gX6_buy_X6_isPerson rfl rfl rfl (by decide +kernel) ⟨Nat.le_of_ble_eq_true rfl, Nat.le_of_ble_eq_true rfl⟩) (kPreS hE hS hV) rfl rfl hl.1 rfl (lv_room (Nat.le_of_ble_eq_true rfl)) dX6_buy_9 ⟨Nat.le_of_ble_eq_true rfl, Nat.le_of_ble_eq_true rfl⟩) hS (fun r_21 u_20 H locs hp_19 hV hS => ?_)
    subst hp_19
    have hV : kV G (kM G h ad rf rl rw S ++ wr) H := hV
    refine kb_if_eq (tgt := 19) hx hb dX6_buy_12 (by decide) (fun c12 => ?_) (fun c12 => ?_)
    · refine lv_iconst (v := nI 0) hx hb dX6_buy_19 (by decide) ?_
      refine W.eq (g2 := F0 m 20 ls [.int (nI (kb (isIn p (S.1 1 0) ∧ isIn x 5)))]) (by rw [kb_f (fun z => c12 z.2)]) ?_
      exact J20  _ _ hV hS ls (lv_sub hl [0, 1, 2] rfl)
    · refine lv_iconst (v := nI 1) hx hb dX6_buy_15 (by decide) ?_
      refine lv_goto (tgt := 20) hx hb dX6_buy_16 (by decide) ?_
      refine W.eq (g2 := F0 m 20 ls [.int (nI (kb (isIn p (S.1 1 0) ∧ isIn x 5)))]) (by rw [kb_t (⟨c5, c12⟩)]) ?_
      exact J20  _ _ hV hS ls (lv_sub hl [0, 1, 2] rfl)
set_option maxHeartbeats 4000000 in
set_option maxRecDepth 100000 in
theorem c_X6_rule (l : Launch) (G : kG) (h : Nat) (ad : Nat → Nat) (rf : Nat) (rl : Nat) (rw : Nat) (S : kS) (wr : va_W) (p : Int32) (hI : kInv S) : Met l yX6_rule wsX6_rule ({ frames := 4, cells := 0, slots := 0, locals := 96 } : Room) (kPc G [.ref (h), .int (p)] (kM G h ad rf rl rw S ++ wr)) (kQi G (S := Nat × Nat) (fun q _ => q = (opRule S p).2.1) (fun uu => kM G h ad ((opRule S p).1) uu.1 uu.2 ((opRule S p).2.2) ++ wr)) 0 0 (kA G) := by
  refine Met.ofW (cc := cX6_rule) (maxL := 5) (ret := (some .int)) (by decide) rfl ?_
  intro pp ee s m args below meth cc0 s₁ B hml hv
  obtain ⟨rfl, hE, hV⟩ := hv
  have hK := hE.1
  have hx := B.exec
  have hb := B.bytes
  have hrt := B.returns
  have hts := atoms_spec (ws := wsX6_rule) B.pre
  have hown : s.vm.findClass RX6 = some m.cls := findClass_of_methodNamed B.named
  have hlocks := B.notSynchronized
  have hF : CallFix pp m cc0 cX6_rule 5 s _ wsX6_rule RX6 := ⟨hx, hb, hml, hown, hts⟩
  have hinX6 : ∀ w ∈ wsX60, w ∈ wsX6_rule := tb_of [61, 62, 63, 64, 65, 66, 67, 68, 69, 70, 71, 72, 73, 74, 75, 76, 77, 78, 79, 80, 81, 82, 83, 84, 85, 86] rfl
  have hS : va_S (kA G) s.heap s.heap [] := va_S.rf
  have hB0 := hE.2.1
  have hl := lv_entry ([.ref (h), .int (p)]) (n := 5) (Nat.le_of_ble_eq_true rfl)
  rw [lg_entry_eq]
  generalize (lg_sl ([.ref (h), .int (p)]) ++ List.replicate (5 - (lg_sl ([.ref (h), .int (p)])).length) Slot.unset).toArray = ls at hl ⊢
  have hl : lv_has ls 5 [(0, .ref (h)), (1, .int (p))] := hl
  obtain ⟨⟨hnp, hnl, hnj, hpu⟩, hIP, hIQ, hIL, hIJ, hIK, hIO⟩ := id hI
  have J49 : ∀ (rl1 : Nat) (rw1 : Nat) (H : Heap) (locs : List Loc), kV G (kM G h ad rf rl1 rw1 S ++ wr) H → va_S (kA G) s.heap H locs → ∀ (ls : Array Slot), lv_has ls 5 [(0, .ref (h)), (1, .int (p))] → W pp l ee (headSpec wsX6_rule ({ frames := 4, cells := 0, slots := 0, locals := 96 } : Room)).room s m [.ref (h), .int (p)].toArray below meth cc0 H locs 0 0 (MQ below (kQi G (S := Nat × Nat) (fun q _ => q = (opRule S p).2.1) (fun uu => kM G h ad ((opRule S p).1) uu.1 uu.2 ((opRule S p).2.2) ++ wr)) [.ref (h), .int (p)].toArray s 0 0 (kA G)) (F0 m 49 ls [.int (nI (kb (isIn p (S.1 1 0) ∧ ruleCan S (tn p))))]) := by
    intro rl1 rw1 H locs hV hS ls hl
    refine lv_istore_n (lv' := [(2, .int (nI (kb (isIn p (S.1 1 0) ∧ ruleCan S (tn p))))), (0, .ref (h)), (1, .int (p))]) hx hb dX6_rule_49 rfl hl (by decide) rfl (fun ls hl => ?_)
    refine lv_aload_n hx hb dX6_rule_50 rfl (lv_at hl 1 rfl) ?_
    refine lv_aload_n hx hb dX6_rule_51 rfl (lv_at hl 1 rfl) ?_
    refine lv_iload_n hx hb dX6_rule_52 rfl (lv_at hl 2 rfl) ?_
    refine kc_i (va_runV (As := [.int (p)]) (rest := [.ref (h)]) hF (c_X6_isPattern l G h ad rf rl1 rw1 S wr p (by omega)) (cwV 1 hts gX6_rule_X6_isPattern rfl rfl rfl (by decide +kernel) ⟨Nat.le_of_ble_eq_true rfl, Nat.le_of_ble_eq_true rfl⟩) (kPreV hE hS hV 0 rfl rfl) rfl rfl hl.1 rfl (lv_room (Nat.le_of_ble_eq_true rfl)) dX6_rule_53 ⟨Nat.le_of_ble_eq_true rfl, Nat.le_of_ble_eq_true rfl⟩) hS (fun r_3 u_2 H locs hp_1 hV hS => ?_)
    subst hp_1
    have hV : kV G (kM G h ad rf rl1 rw1 S ++ wr) H := hV
    refine kb_if_ne (tgt := 63) hx hb dX6_rule_56 (by decide) (fun c56 => ?_) (fun c56 => ?_)
    · refine lv_iload_n hx hb dX6_rule_63 rfl (lv_at hl 0 rfl) ?_
      refine kb_if_eq (tgt := 71) hx hb dX6_rule_64 (by decide) (fun c64 => ?_) (fun c64 => ?_)
      · refine lv_iconst (v := nI 2) hx hb dX6_rule_71 (by decide) ?_
        refine kc_i (va_runV (As := [.int (nI (2))]) (rest := []) hF (c_X6_refused l G h ad rf rl1 rw1 S wr 2 (by omega)) (cwV 1 hts gX6_rule_X6_refused rfl rfl rfl (by decide +kernel) ⟨Nat.le_of_ble_eq_true rfl, Nat.le_of_ble_eq_true rfl⟩) (kPreV hE hS hV 0 rfl rfl) rfl rfl hl.1 rfl (lv_room (Nat.le_of_ble_eq_true rfl)) dX6_rule_72 ⟨Nat.le_of_ble_eq_true rfl, Nat.le_of_ble_eq_true rfl⟩) hS (fun r_6 u_5 H locs hp_4 hV hS => ?_)
        subst hp_4
        refine W.eq (g2 := F0 m 75 ls [.int (nI (1))]) (by rw [kb_t (by decide)]) ?_
        have hV : kV G (kM G h ad 2 rl1 rw1 S ++ wr) H := hV
        refine kn_if_eq_not hx hb (by decide) dX6_rule_75 ?_ 80 (by decide)
        refine lv_iconst (v := nI 0) hx hb dX6_rule_78 (by decide) ?_
        have hop : opRule S p = (2, nI 0, S) := by
          unfold opRule
          rw [kif_f (fun z => z c56), kif_t (fun z => c64 ⟨c56, z⟩)] <;> rfl
        exact W.iret (v := nI 0) hx hb hrt (fun t ht hW => ⟨⟨_, (rl1, rw1), rfl, by rw [hop], kV_eq ht (by rw [hop]; exact hV)⟩, hS.F ht⟩) hS.2.2 dX6_rule_79
      · refine lv_iconst (v := nI 0) hx hb dX6_rule_67 (by decide) ?_
        refine lv_goto (tgt := 72) hx hb dX6_rule_68 (by decide) ?_
        refine kc_i (va_runV (As := [.int (nI (0))]) (rest := []) hF (c_X6_refused l G h ad rf rl1 rw1 S wr 0 (by omega)) (cwV 1 hts gX6_rule_X6_refused rfl rfl rfl (by decide +kernel) ⟨Nat.le_of_ble_eq_true rfl, Nat.le_of_ble_eq_true rfl⟩) (kPreV hE hS hV 0 rfl rfl) rfl rfl hl.1 rfl (lv_room (Nat.le_of_ble_eq_true rfl)) dX6_rule_72 ⟨Nat.le_of_ble_eq_true rfl, Nat.le_of_ble_eq_true rfl⟩) hS (fun r_9 u_8 H locs hp_7 hV hS => ?_)
        subst hp_7
        refine W.eq (g2 := F0 m 75 ls [.int (nI (0))]) (by rw [kb_f (by decide)]) ?_
        have hV : kV G (kM G h ad 0 rl1 rw1 S ++ wr) H := hV
        refine kn_if_eq_lit (tgt := 80) hx hb (by decide) dX6_rule_75 (by decide) ?_
        obtain ⟨j, hj, rfl⟩ := c64.1
        obtain ⟨hokj, howj, hprj, hodj, hlij, hbyj, hbaj⟩ := hIP j hj
        have h6 := hokj.1
        have ho := kInv_od hI hj
        have tj : tn (nI j) = j := tn_nI (by omega)
        refine lv_iconst (v := nI 0) hx hb dX6_rule_80 (by decide) ?_
        refine lv_istore_n (lv' := [(3, .int (nI (0))), (2, .int (nI (kb (isIn (nI j) (S.1 1 0) ∧ ruleCan S (tn (nI j)))))), (0, .ref (h)), (1, .int (nI (j)))]) hx hb dX6_rule_81 rfl hl (by decide) rfl (fun ls hl => ?_)
        refine lv_iconst (v := nI 0) hx hb dX6_rule_82 (by decide) ?_
        refine lv_istore (lv' := [(4, .int (nI (0))), (3, .int (nI (0))), (2, .int (nI (kb (isIn (nI j) (S.1 1 0) ∧ ruleCan S (tn (nI j)))))), (0, .ref (h)), (1, .int (nI (j)))]) hx hb dX6_rule_83 hl (by decide) rfl (fun ls hl => ?_)
        have L85 : ∀ (nL85 : Nat) (i : Nat) (hi : i ≤ 5) (hmL85 : 5 - i < nL85) (H : Heap) (locs : List Loc), kV G (kM G h ad 0 rl1 rw1 S ++ wr) H → va_S (kA G) s.heap H locs → ∀ (ls : Array Slot), lv_has ls 5 [(0, .ref (h)), (1, .int (nI (j))), (3, .int (nI (sumN (fun q => kif (bought S j q) (S.1 4 j) 0) i))), (4, .int (nI (i)))] → W pp l ee (headSpec wsX6_rule ({ frames := 4, cells := 0, slots := 0, locals := 96 } : Room)).room s m [.ref (h), .int (nI (j))].toArray below meth cc0 H locs 0 0 (MQ below (kQi G (S := Nat × Nat) (fun q _ => q = (opRule S (nI j)).2.1) (fun uu => kM G h ad ((opRule S (nI j)).1) uu.1 uu.2 ((opRule S (nI j)).2.2) ++ wr)) [.ref (h), .int (nI (j))].toArray s 0 0 (kA G)) (F0 m 85 ls []) := by
          intro nL85
          induction nL85 with
          | zero => intro i hi hmL85; exact absurd hmL85 (Nat.not_lt_zero _)
          | succ nL85 ihL85 =>
            intro i hi hmL85 H locs hV hS ls hl
            refine lv_iload hx hb dX6_rule_85 (lv_at hl 3 rfl) ?_
            refine lv_iconst (v := nI 5) hx hb dX6_rule_87 (by decide) ?_
            refine kn_ge (tgt := 120) hx hb (by omega) (by decide) dX6_rule_88 (by decide) (fun c88 => ?_) (fun c88 => ?_)
            · have e5 : i = 5 := by omega
              subst e5
              have hl : lv_has ls 5 [(0, .ref (h)), (1, .int (nI (j))), (3, .int (nI (took S j))), (4, .int (nI (5)))] := hl
              have hol : pOrig S j < S.1 1 0 := pOrigN_lt hj _ (Nat.le_refl _)
              have hw1 := (hIP _ hol).2.1
              refine lv_aload_n hx hb dX6_rule_120 rfl (lv_at hl 0 rfl) ?_
              refine va_get (D := kD G) (ci := 7) (v := .ref (ad 12)) (C := RX6) (T := TX6) (N := 26) hx hb hts hinX6 hown hK hV.1 0 rfl rfl 12 (by decide) (hts (Cond.fieldLink RX6 37 "YarncourtModel" "isBarred" "[Z") (List.mem_of_getElem? (i := 1) rfl)) (fun _ h9 => h9) rfl dX6_rule_121 ?_
              refine lv_iload_n hx hb dX6_rule_124 rfl (lv_at hl 1 rfl) ?_
              refine lv_iconst (v := nI 1) hx hb dX6_rule_125 (by decide) ?_
              refine kn_zast1 (G := G) (n := 16) (g := S.1 12) (j := j) hx hb hK hV hS 10 rfl (by omega) (by decide) dX6_rule_126 (fun H locs hV hS => ?_)
              have hV : kV G (kM G h ad 0 rl1 rw1 (st S 12 j 1) ++ wr) H := hV
              refine lv_aload_n hx hb dX6_rule_127 rfl (lv_at hl 0 rfl) ?_
              refine va_get (D := kD G) (ci := 7) (v := .ref (ad 14)) (C := RX6) (T := TX6) (N := 26) hx hb hts hinX6 hown hK hV.1 0 rfl rfl 14 (by decide) (hts (Cond.fieldLink RX6 44 "YarncourtModel" "moneys" "[I") (List.mem_of_getElem? (i := 4) rfl)) (fun _ h9 => h9) rfl dX6_rule_128 ?_
              refine lv_aload_n hx hb dX6_rule_131 rfl (lv_at hl 0 rfl) ?_
              refine va_get (D := kD G) (ci := 7) (v := .ref (ad 2)) (C := RX6) (T := TX6) (N := 26) hx hb hts hinX6 hown hK hV.1 0 rfl rfl 2 (by decide) (hts (Cond.fieldLink RX6 7 "YarncourtModel" "owners" "[I") (List.mem_of_getElem? (i := 2) rfl)) (fun _ h9 => h9) rfl dX6_rule_132 ?_
              refine lv_iload_n hx hb dX6_rule_135 rfl (lv_at hl 1 rfl) ?_
              refine kn_iald (G := G) (n := 16) (g := (st S 12 j 1).1 2) (j := j) hx hb hK hV 1 rfl (by omega) (by decide) dX6_rule_136 ?_
              refine W.eq (g2 := F0 m 137 ls [.int (nI (S.1 2 j)), .ref (ad 14)]) rfl ?_
              refine lv_dup2_11 hx hb dX6_rule_137 rfl rfl ?_
              refine kr_iald (G := G) (n := 5) (g := (st S 12 j 1).2.2) (j := S.1 2 j) hx hb hK hV 12 rfl (by omega) (by decide) dX6_rule_138 ?_
              refine lv_iload_n hx hb dX6_rule_139 rfl (lv_at hl 2 rfl) ?_
              refine lv_isub hx hb dX6_rule_140 ?_
              refine kr_iast (G := G) (n := 5) (g := (st S 12 j 1).2.2) (j := S.1 2 j) (v := (((st S 12 j 1).2.2 (S.1 2 j)) - nI (took S j))) hx hb hK hV hS 12 rfl (by omega) (by decide) dX6_rule_141 (fun H locs hV hS => ?_)
              have hV : kV G (kM G h ad 0 rl1 rw1 (stm (st S 12 j 1) (S.1 2 j) ((((st S 12 j 1).2.2 (S.1 2 j)) - nI (took S j)))) ++ wr) H := hV
              refine lv_aload_n hx hb dX6_rule_142 rfl (lv_at hl 0 rfl) ?_
              refine va_get (D := kD G) (ci := 7) (v := .ref (ad 14)) (C := RX6) (T := TX6) (N := 26) hx hb hts hinX6 hown hK hV.1 0 rfl rfl 14 (by decide) (hts (Cond.fieldLink RX6 44 "YarncourtModel" "moneys" "[I") (List.mem_of_getElem? (i := 4) rfl)) (fun _ h9 => h9) rfl dX6_rule_143 ?_
              refine lv_aload_n hx hb dX6_rule_146 rfl (lv_at hl 0 rfl) ?_
              refine va_get (D := kD G) (ci := 7) (v := .ref (ad 2)) (C := RX6) (T := TX6) (N := 26) hx hb hts hinX6 hown hK hV.1 0 rfl rfl 2 (by decide) (hts (Cond.fieldLink RX6 7 "YarncourtModel" "owners" "[I") (List.mem_of_getElem? (i := 2) rfl)) (fun _ h9 => h9) rfl dX6_rule_147 ?_
              refine lv_aload_n hx hb dX6_rule_150 rfl (lv_at hl 0 rfl) ?_
              refine lv_iload_n hx hb dX6_rule_151 rfl (lv_at hl 1 rfl) ?_
              refine kc_i (va_runV (As := [.int (nI (j))]) (rest := [.ref (ad 2), .ref (ad 14)]) hF (c_X6_originalOf l G h ad 0 rl1 rw1 (stm (st S 12 j 1) (S.1 2 j) ((((st S 12 j 1).2.2 (S.1 2 j)) - nI (took S j)))) wr j hj hnp (fun q hq => (hIP q hq).1) (fun q hq => Nat.lt_of_le_of_lt (kInv_od hI hq) (by decide))) (cwV 1 hts gX6_rule_X6_originalOf rfl rfl rfl (by decide +kernel) ⟨Nat.le_of_ble_eq_true rfl, Nat.le_of_ble_eq_true rfl⟩) (kPreV hE hS hV 0 rfl rfl) rfl rfl hl.1 rfl (lv_room (Nat.le_of_ble_eq_true rfl)) dX6_rule_152 ⟨Nat.le_of_ble_eq_true rfl, Nat.le_of_ble_eq_true rfl⟩) hS (fun r_12 u_11 H locs hp_10 hV hS => ?_)
              subst hp_10
              have hV : kV G (kM G h ad 0 u_11.1 u_11.2 (stm (st S 12 j 1) (S.1 2 j) ((((st S 12 j 1).2.2 (S.1 2 j)) - nI (took S j)))) ++ wr) H := hV
              have eO : pOrig (stm (st S 12 j 1) (S.1 2 j) ((((st S 12 j 1).2.2 (S.1 2 j)) - nI (took S j)))) j = pOrig S j := sameC_Or (S := S) (T := stm (st S 12 j 1) (S.1 2 j) ((((st S 12 j 1).2.2 (S.1 2 j)) - nI (took S j)))) ⟨rfl, rfl, rfl, rfl, rfl, rfl, rfl, rfl⟩ j
              have hol2 := hol
              rw [← eO] at hol2
              have hw2 : (stm (st S 12 j 1) (S.1 2 j) ((((st S 12 j 1).2.2 (S.1 2 j)) - nI (took S j)))).1 2 (pOrig (stm (st S 12 j 1) (S.1 2 j) ((((st S 12 j 1).2.2 (S.1 2 j)) - nI (took S j)))) j) < 5 := by rw [eO]; exact hw1
              refine kn_iald (G := G) (n := 16) (g := (stm (st S 12 j 1) (S.1 2 j) ((((st S 12 j 1).2.2 (S.1 2 j)) - nI (took S j)))).1 2) (j := pOrig (stm (st S 12 j 1) (S.1 2 j) ((((st S 12 j 1).2.2 (S.1 2 j)) - nI (took S j)))) j) hx hb hK hV 1 rfl (by omega) (by decide) dX6_rule_155 ?_
              refine W.eq (g2 := F0 m 156 ls [.int (nI (S.1 2 (pOrig (stm (st S 12 j 1) (S.1 2 j) ((((st S 12 j 1).2.2 (S.1 2 j)) - nI (took S j)))) j))), .ref (ad 14)]) rfl ?_
              have hw3 : S.1 2 (pOrig (stm (st S 12 j 1) (S.1 2 j) ((((st S 12 j 1).2.2 (S.1 2 j)) - nI (took S j)))) j) < 5 := hw2
              refine lv_dup2_11 hx hb dX6_rule_156 rfl rfl ?_
              refine kr_iald (G := G) (n := 5) (g := (stm (st S 12 j 1) (S.1 2 j) ((((st S 12 j 1).2.2 (S.1 2 j)) - nI (took S j)))).2.2) (j := S.1 2 (pOrig (stm (st S 12 j 1) (S.1 2 j) ((((st S 12 j 1).2.2 (S.1 2 j)) - nI (took S j)))) j)) hx hb hK hV 12 rfl (by omega) (by decide) dX6_rule_157 ?_
              refine lv_iload_n hx hb dX6_rule_158 rfl (lv_at hl 2 rfl) ?_
              refine lv_iadd hx hb dX6_rule_159 ?_
              refine kr_iast (G := G) (n := 5) (g := (stm (st S 12 j 1) (S.1 2 j) ((((st S 12 j 1).2.2 (S.1 2 j)) - nI (took S j)))).2.2) (j := S.1 2 (pOrig (stm (st S 12 j 1) (S.1 2 j) ((((st S 12 j 1).2.2 (S.1 2 j)) - nI (took S j)))) j)) (v := (((stm (st S 12 j 1) (S.1 2 j) ((((st S 12 j 1).2.2 (S.1 2 j)) - nI (took S j)))).2.2 (S.1 2 (pOrig (stm (st S 12 j 1) (S.1 2 j) ((((st S 12 j 1).2.2 (S.1 2 j)) - nI (took S j)))) j))) + nI (took S j))) hx hb hK hV hS 12 rfl (by omega) (by decide) dX6_rule_160 (fun H locs hV hS => ?_)
              have hV : kV G (kM G h ad 0 u_11.1 u_11.2 (stm (stm (st S 12 j 1) (S.1 2 j) ((((st S 12 j 1).2.2 (S.1 2 j)) - nI (took S j)))) (S.1 2 (pOrig (stm (st S 12 j 1) (S.1 2 j) ((((st S 12 j 1).2.2 (S.1 2 j)) - nI (took S j)))) j)) ((((stm (st S 12 j 1) (S.1 2 j) ((((st S 12 j 1).2.2 (S.1 2 j)) - nI (took S j)))).2.2 (S.1 2 (pOrig (stm (st S 12 j 1) (S.1 2 j) ((((st S 12 j 1).2.2 (S.1 2 j)) - nI (took S j)))) j))) + nI (took S j)))) ++ wr) H := hV
              refine lv_iload_n hx hb dX6_rule_161 rfl (lv_at hl 2 rfl) ?_
              have hop : opRule S (nI j) = (0, nI (took S j), stm (stm (st S 12 j 1) (S.1 2 j) ((((st S 12 j 1).2.2 (S.1 2 j)) - nI (took S j)))) (S.1 2 (pOrig (stm (st S 12 j 1) (S.1 2 j) ((((st S 12 j 1).2.2 (S.1 2 j)) - nI (took S j)))) j)) ((((stm (st S 12 j 1) (S.1 2 j) ((((st S 12 j 1).2.2 (S.1 2 j)) - nI (took S j)))).2.2 (S.1 2 (pOrig (stm (st S 12 j 1) (S.1 2 j) ((((st S 12 j 1).2.2 (S.1 2 j)) - nI (took S j)))) j))) + nI (took S j)))) := by
                unfold opRule
                rw [kif_f (fun z => z (isIn_nI hj)), kif_f (fun z => z c64.2), tj]
                unfold ruleS
                rw [← eO] <;> rfl
              exact W.iret (v := nI (took S j)) hx hb hrt (fun t ht hW => ⟨⟨_, (u_11.1, u_11.2), rfl, by rw [hop], kV_eq ht (by rw [hop]; exact hV)⟩, hS.F ht⟩) hS.2.2 dX6_rule_162
            · refine lv_iload_n hx hb dX6_rule_91 rfl (lv_at hl 2 rfl) ?_
              refine lv_aload_n hx hb dX6_rule_92 rfl (lv_at hl 0 rfl) ?_
              refine lv_iload_n hx hb dX6_rule_93 rfl (lv_at hl 1 rfl) ?_
              refine lv_iload hx hb dX6_rule_94 (lv_at hl 3 rfl) ?_
              refine kc_i (va_runV (As := [.int (nI (j)), .int (nI (i))]) (rest := [.int (nI (sumN (fun q => kif (bought S j q) (S.1 4 j) 0) i))]) hF (c_X6_hasBought l G h ad 0 rl1 rw1 S wr j i (by omega) (by omega) (by omega)) (cwV 2 hts gX6_rule_X6_hasBought rfl rfl rfl (by decide +kernel) ⟨Nat.le_of_ble_eq_true rfl, Nat.le_of_ble_eq_true rfl⟩) (kPreV hE hS hV 0 rfl rfl) rfl rfl hl.1 rfl (lv_room (Nat.le_of_ble_eq_true rfl)) dX6_rule_96 ⟨Nat.le_of_ble_eq_true rfl, Nat.le_of_ble_eq_true rfl⟩) hS (fun r_15 u_14 H locs hp_13 hV hS => ?_)
              subst hp_13
              have hV : kV G (kM G h ad 0 rl1 rw1 S ++ wr) H := hV
              refine kb_if_eq (tgt := 111) hx hb dX6_rule_99 (by decide) (fun c99 => ?_) (fun c99 => ?_)
              · refine lv_iconst (v := nI 0) hx hb dX6_rule_111 (by decide) ?_
                refine kn_add hx hb dX6_rule_112 ?_
                refine lv_istore_n (lv' := [(3, .int (nI ((sumN (fun q => kif (bought S j q) (S.1 4 j) 0) i) + 0))), (0, .ref (h)), (1, .int (nI (j))), (4, .int (nI (i)))]) hx hb dX6_rule_113 rfl hl (by decide) rfl (fun ls hl => ?_)
                refine lv_iinc (lv' := [(4, .int (nI (i + 1))), (3, .int (nI ((sumN (fun q => kif (bought S j q) (S.1 4 j) 0) i) + 0))), (0, .ref (h)), (1, .int (nI (j)))]) hx hb dX6_rule_114 hl (k := 3) rfl (kn_iinc i 1) (by decide) rfl (fun ls hl => ?_)
                refine lv_goto (tgt := 85) hx hb dX6_rule_117 (by decide) ?_
                exact ihL85 (i + 1) (by omega) (by omega) _ _ hV hS ls (by rw [show sumN (fun q => kif (bought S j q) (S.1 4 j) 0) (i + 1) = sumN (fun q => kif (bought S j q) (S.1 4 j) 0) i + 0 from by rw [sumN_s, kif_f c99]]; exact lv_sub hl [2, 3, 1, 0] rfl)
              · refine lv_aload_n hx hb dX6_rule_102 rfl (lv_at hl 0 rfl) ?_
                refine va_get (D := kD G) (ci := 7) (v := .ref (ad 4)) (C := RX6) (T := TX6) (N := 26) hx hb hts hinX6 hown hK hV.1 0 rfl rfl 4 (by decide) (hts (Cond.fieldLink RX6 16 "YarncourtModel" "prices" "[I") (List.mem_of_getElem? (i := 3) rfl)) (fun _ h9 => h9) rfl dX6_rule_103 ?_
                refine lv_iload_n hx hb dX6_rule_106 rfl (lv_at hl 1 rfl) ?_
                refine kn_iald (G := G) (n := 16) (g := S.1 4) (j := j) hx hb hK hV 3 rfl (by omega) (by decide) dX6_rule_107 ?_
                refine lv_goto (tgt := 112) hx hb dX6_rule_108 (by decide) ?_
                refine kn_add hx hb dX6_rule_112 ?_
                refine lv_istore_n (lv' := [(3, .int (nI ((sumN (fun q => kif (bought S j q) (S.1 4 j) 0) i) + (S.1 4 j)))), (0, .ref (h)), (1, .int (nI (j))), (4, .int (nI (i)))]) hx hb dX6_rule_113 rfl hl (by decide) rfl (fun ls hl => ?_)
                refine lv_iinc (lv' := [(4, .int (nI (i + 1))), (3, .int (nI ((sumN (fun q => kif (bought S j q) (S.1 4 j) 0) i) + (S.1 4 j)))), (0, .ref (h)), (1, .int (nI (j)))]) hx hb dX6_rule_114 hl (k := 3) rfl (kn_iinc i 1) (by decide) rfl (fun ls hl => ?_)
                refine lv_goto (tgt := 85) hx hb dX6_rule_117 (by decide) ?_
                exact ihL85 (i + 1) (by omega) (by omega) _ _ hV hS ls (by rw [show sumN (fun q => kif (bought S j q) (S.1 4 j) 0) (i + 1) = sumN (fun q => kif (bought S j q) (S.1 4 j) 0) i + S.1 4 j from by rw [sumN_s, kif_t c99]]; exact lv_sub hl [2, 3, 1, 0] rfl)
        exact L85 ((5 - 0) + 1) 0 (by omega) (Nat.lt_succ_self _) _ _ hV hS ls (lv_sub hl [3, 4, 1, 0] rfl)
    · refine lv_iconst (v := nI 1) hx hb dX6_rule_59 (by decide) ?_
      refine lv_goto (tgt := 72) hx hb dX6_rule_60 (by decide) ?_
      refine kc_i (va_runV (As := [.int (nI (1))]) (rest := []) hF (c_X6_refused l G h ad rf rl1 rw1 S wr 1 (by omega)) (cwV 1 hts gX6_rule_X6_refused rfl rfl rfl (by decide +kernel) ⟨Nat.le_of_ble_eq_true rfl, Nat.le_of_ble_eq_true rfl⟩) (kPreV hE hS hV 0 rfl rfl) rfl rfl hl.1 rfl (lv_room (Nat.le_of_ble_eq_true rfl)) dX6_rule_72 ⟨Nat.le_of_ble_eq_true rfl, Nat.le_of_ble_eq_true rfl⟩) hS (fun r_18 u_17 H locs hp_16 hV hS => ?_)
      subst hp_16
      refine W.eq (g2 := F0 m 75 ls [.int (nI (1))]) (by rw [kb_t (by decide)]) ?_
      have hV : kV G (kM G h ad 1 rl1 rw1 S ++ wr) H := hV
      refine kn_if_eq_not hx hb (by decide) dX6_rule_75 ?_ 80 (by decide)
      refine lv_iconst (v := nI 0) hx hb dX6_rule_78 (by decide) ?_
      have hop : opRule S p = (1, nI 0, S) := by
        unfold opRule
        rw [kif_t c56] <;> rfl
      exact W.iret (v := nI 0) hx hb hrt (fun t ht hW => ⟨⟨_, (rl1, rw1), rfl, by rw [hop], kV_eq ht (by rw [hop]; exact hV)⟩, hS.F ht⟩) hS.2.2 dX6_rule_79
  refine lv_aload_n hx hb dX6_rule_0 rfl (lv_at hl 0 rfl) ?_
  refine lv_iload_n hx hb dX6_rule_1 rfl (lv_at hl 1 rfl) ?_
  refine kc_i (va_runV (As := [.int (p)]) (rest := []) hF (c_X6_isPattern l G h ad rf rl rw S wr p (by omega)) (cwV 1 hts gX6_rule_X6_isPattern rfl rfl rfl (by decide +kernel) ⟨Nat.le_of_ble_eq_true rfl, Nat.le_of_ble_eq_true rfl⟩) (kPreV hE hS hV 0 rfl rfl) rfl rfl hl.1 rfl (lv_room (Nat.le_of_ble_eq_true rfl)) dX6_rule_2 ⟨Nat.le_of_ble_eq_true rfl, Nat.le_of_ble_eq_true rfl⟩) hS (fun r_21 u_20 H locs hp_19 hV hS => ?_)
  subst hp_19
  have hV : kV G (kM G h ad rf rl rw S ++ wr) H := hV
  refine kb_if_eq (tgt := 48) hx hb dX6_rule_5 (by decide) (fun c5 => ?_) (fun c5 => ?_)
  · refine lv_iconst (v := nI 0) hx hb dX6_rule_48 (by decide) ?_
    refine W.eq (g2 := F0 m 49 ls [.int (nI (kb (isIn p (S.1 1 0) ∧ ruleCan S (tn p))))]) (by rw [kb_f (fun z => c5 z.1)]) ?_
    exact J49 rl rw _ _ hV hS ls (lv_sub hl [0, 1] rfl)
  · obtain ⟨j, hj, rfl⟩ := id c5
    obtain ⟨hokj, howj, hprj, hodj, hlij, hbyj, hbaj⟩ := hIP j hj
    have h6 := hokj.1
    have ho := kInv_od hI hj
    have tj : tn (nI j) = j := tn_nI (by omega)
    refine lv_aload_n hx hb dX6_rule_8 rfl (lv_at hl 0 rfl) ?_
    refine lv_iload_n hx hb dX6_rule_9 rfl (lv_at hl 1 rfl) ?_
    refine kc_i (va_runV (As := [.int (nI (j))]) (rest := []) hF (c_X6_isPublished l G h ad rf rl rw S wr j (by omega) (by omega)) (cwV 1 hts gX6_rule_X6_isPublished rfl rfl rfl (by decide +kernel) ⟨Nat.le_of_ble_eq_true rfl, Nat.le_of_ble_eq_true rfl⟩) (kPreV hE hS hV 0 rfl rfl) rfl rfl hl.1 rfl (lv_room (Nat.le_of_ble_eq_true rfl)) dX6_rule_10 ⟨Nat.le_of_ble_eq_true rfl, Nat.le_of_ble_eq_true rfl⟩) hS (fun r_24 u_23 H locs hp_22 hV hS => ?_)
    subst hp_22
    have hV : kV G (kM G h ad rf rl rw S ++ wr) H := hV
    refine kb_if_eq (tgt := 48) hx hb dX6_rule_13 (by decide) (fun c13 => ?_) (fun c13 => ?_)
    · refine lv_iconst (v := nI 0) hx hb dX6_rule_48 (by decide) ?_
      refine W.eq (g2 := F0 m 49 ls [.int (nI (kb (isIn (nI j) (S.1 1 0) ∧ ruleCan S (tn (nI j)))))]) (by rw [kb_f (fun z => by have h9 := z.2; rw [tj] at h9; exact c13 h9.1)]) ?_
      exact J49 rl rw _ _ hV hS ls (lv_sub hl [0, 1] rfl)
    · refine lv_aload_n hx hb dX6_rule_16 rfl (lv_at hl 0 rfl) ?_
      refine va_get (D := kD G) (ci := 7) (v := .ref (ad 12)) (C := RX6) (T := TX6) (N := 26) hx hb hts hinX6 hown hK hV.1 0 rfl rfl 12 (by decide) (hts (Cond.fieldLink RX6 37 "YarncourtModel" "isBarred" "[Z") (List.mem_of_getElem? (i := 1) rfl)) (fun _ h9 => h9) rfl dX6_rule_17 ?_
      refine lv_iload_n hx hb dX6_rule_20 rfl (lv_at hl 1 rfl) ?_
      refine kn_zald (G := G) (n := 16) (g := S.1 12) (j := j) hx hb hK hV 10 rfl (by omega) (by decide) dX6_rule_21 ?_
      refine kn_if_ne (tgt := 48) hx hb (by omega) dX6_rule_22 (by decide) (fun c22 => ?_) (fun c22 => ?_)
      · refine lv_iconst (v := nI 0) hx hb dX6_rule_48 (by decide) ?_
        refine W.eq (g2 := F0 m 49 ls [.int (nI (kb (isIn (nI j) (S.1 1 0) ∧ ruleCan S (tn (nI j)))))]) (by rw [kb_f (fun z => by have h9 := z.2; rw [tj] at h9; exact c22 h9.2.1)]) ?_
        exact J49 rl rw _ _ hV hS ls (lv_sub hl [0, 1] rfl)
      · refine lv_aload_n hx hb dX6_rule_25 rfl (lv_at hl 0 rfl) ?_
        refine va_get (D := kD G) (ci := 7) (v := .ref (ad 2)) (C := RX6) (T := TX6) (N := 26) hx hb hts hinX6 hown hK hV.1 0 rfl rfl 2 (by decide) (hts (Cond.fieldLink RX6 7 "YarncourtModel" "owners" "[I") (List.mem_of_getElem? (i := 2) rfl)) (fun _ h9 => h9) rfl dX6_rule_26 ?_
        refine lv_aload_n hx hb dX6_rule_29 rfl (lv_at hl 0 rfl) ?_
        refine lv_iload_n hx hb dX6_rule_30 rfl (lv_at hl 1 rfl) ?_
        refine kc_i (va_runV (As := [.int (nI (j))]) (rest := [.ref (ad 2)]) hF (c_X6_originalOf l G h ad rf rl rw S wr j (by omega) (by omega) (fun q hq => (hIP q hq).1) (fun q hq => Nat.lt_of_le_of_lt (kInv_od hI hq) (by decide))) (cwV 1 hts gX6_rule_X6_originalOf rfl rfl rfl (by decide +kernel) ⟨Nat.le_of_ble_eq_true rfl, Nat.le_of_ble_eq_true rfl⟩) (kPreV hE hS hV 0 rfl rfl) rfl rfl hl.1 rfl (lv_room (Nat.le_of_ble_eq_true rfl)) dX6_rule_31 ⟨Nat.le_of_ble_eq_true rfl, Nat.le_of_ble_eq_true rfl⟩) hS (fun r_27 u_26 H locs hp_25 hV hS => ?_)
        subst hp_25
        have hV : kV G (kM G h ad rf u_26.1 u_26.2 S ++ wr) H := hV
        have hol : pOrig S j < S.1 1 0 := pOrigN_lt hj _ (Nat.le_refl _)
        have hw1 := (hIP _ hol).2.1
        refine kn_iald (G := G) (n := 16) (g := S.1 2) (j := pOrig S j) hx hb hK hV 1 rfl (by omega) (by decide) dX6_rule_34 ?_
        refine lv_aload_n hx hb dX6_rule_35 rfl (lv_at hl 0 rfl) ?_
        refine va_get (D := kD G) (ci := 7) (v := .ref (ad 2)) (C := RX6) (T := TX6) (N := 26) hx hb hts hinX6 hown hK hV.1 0 rfl rfl 2 (by decide) (hts (Cond.fieldLink RX6 7 "YarncourtModel" "owners" "[I") (List.mem_of_getElem? (i := 2) rfl)) (fun _ h9 => h9) rfl dX6_rule_36 ?_
        refine lv_iload_n hx hb dX6_rule_39 rfl (lv_at hl 1 rfl) ?_
        refine kn_iald (G := G) (n := 16) (g := S.1 2) (j := j) hx hb hK hV 1 rfl (by omega) (by decide) dX6_rule_40 ?_
        refine kn_eq (tgt := 48) hx hb (by omega) (by omega) dX6_rule_41 (by decide) (fun c41 => ?_) (fun c41 => ?_)
        · refine lv_iconst (v := nI 0) hx hb dX6_rule_48 (by decide) ?_
          refine W.eq (g2 := F0 m 49 ls [.int (nI (kb (isIn (nI j) (S.1 1 0) ∧ ruleCan S (tn (nI j)))))]) (by rw [kb_f (fun z => by have h9 := z.2; rw [tj] at h9; exact h9.2.2 c41)]) ?_
          exact J49 u_26.1 u_26.2 _ _ hV hS ls (lv_sub hl [0, 1] rfl)
        · refine lv_iconst (v := nI 1) hx hb dX6_rule_44 (by decide) ?_
          refine lv_goto (tgt := 49) hx hb dX6_rule_45 (by decide) ?_
          refine W.eq (g2 := F0 m 49 ls [.int (nI (kb (isIn (nI j) (S.1 1 0) ∧ ruleCan S (tn (nI j)))))]) (by rw [kb_t (⟨c5, by rw [tj]; exact ⟨c13, c22, c41⟩⟩)]) ?_
          exact J49 u_26.1 u_26.2 _ _ hV hS ls (lv_sub hl [0, 1] rfl)
set_option maxHeartbeats 4000000 in
set_option maxRecDepth 100000 in
theorem c_X6_money (l : Launch) (G : kG) (h : Nat) (ad : Nat → Nat) (rf : Nat) (rl : Nat) (rw : Nat) (S : kS) (wr : va_W) (x : Int32) (hI : kInv S) : Met l yX6_money wsX6_money ({ frames := 2, cells := 0, slots := 0, locals := 42 } : Room) (kPc G [.ref (h), .int (x)] (kM G h ad rf rl rw S ++ wr)) (kQi G (S := Nat × Nat) (fun q _ => q = (opMoney S x).2.1) (fun uu => kM G h ad ((opMoney S x).1) uu.1 uu.2 ((opMoney S x).2.2) ++ wr)) 0 0 (kA G) := by
  refine Met.ofW (cc := cX6_money) (maxL := 2) (ret := (some .int)) (by decide) rfl ?_
  intro pp ee s m args below meth cc0 s₁ B hml hv
  obtain ⟨rfl, hE, hV⟩ := hv
  have hK := hE.1
  have hx := B.exec
  have hb := B.bytes
  have hrt := B.returns
  have hts := atoms_spec (ws := wsX6_money) B.pre
  have hown : s.vm.findClass RX6 = some m.cls := findClass_of_methodNamed B.named
  have hlocks := B.notSynchronized
  have hF : CallFix pp m cc0 cX6_money 2 s _ wsX6_money RX6 := ⟨hx, hb, hml, hown, hts⟩
  have hinX6 : ∀ w ∈ wsX60, w ∈ wsX6_money := tb_of [14, 15, 16, 17, 18, 19, 20, 21, 22, 23, 24, 25, 26, 27, 28, 29, 30, 31, 32, 33, 34, 35, 36, 37, 38, 39] rfl
  have hS : va_S (kA G) s.heap s.heap [] := va_S.rf
  have hB0 := hE.2.1
  have hl := lv_entry ([.ref (h), .int (x)]) (n := 2) (Nat.le_of_ble_eq_true rfl)
  rw [lg_entry_eq]
  generalize (lg_sl ([.ref (h), .int (x)]) ++ List.replicate (2 - (lg_sl ([.ref (h), .int (x)])).length) Slot.unset).toArray = ls at hl ⊢
  have hl : lv_has ls 2 [(0, .ref (h)), (1, .int (x))] := hl
  obtain ⟨⟨hnp, hnl, hnj, hpu⟩, hIP, hIQ, hIL, hIJ, hIK, hIO⟩ := id hI
  refine lv_aload_n hx hb dX6_money_0 rfl (lv_at hl 0 rfl) ?_
  refine lv_iload_n hx hb dX6_money_1 rfl (lv_at hl 1 rfl) ?_
  refine kc_i (va_runS (As := [.int (x)]) (rest := [.ref (h)]) hF (c_X6_isPerson l G x (kM G h ad rf rl rw S ++ wr)) (va_cwS 1 hts gX6_money_X6_isPerson rfl rfl rfl (by decide +kernel) ⟨Nat.le_of_ble_eq_true rfl, Nat.le_of_ble_eq_true rfl⟩) (kPreS hE hS hV) rfl rfl hl.1 rfl (lv_room (Nat.le_of_ble_eq_true rfl)) dX6_money_2 ⟨Nat.le_of_ble_eq_true rfl, Nat.le_of_ble_eq_true rfl⟩) hS (fun r_3 u_2 H locs hp_1 hV hS => ?_)
  subst hp_1
  have hV : kV G (kM G h ad rf rl rw S ++ wr) H := hV
  refine kb_if_eq (tgt := 12) hx hb dX6_money_5 (by decide) (fun c5 => ?_) (fun c5 => ?_)
  · refine lv_iconst (v := nI 1) hx hb dX6_money_12 (by decide) ?_
    refine kc_i (va_runV (As := [.int (nI (1))]) (rest := []) hF (c_X6_refused l G h ad rf rl rw S wr 1 (by omega)) (cwV 1 hts gX6_money_X6_refused rfl rfl rfl (by decide +kernel) ⟨Nat.le_of_ble_eq_true rfl, Nat.le_of_ble_eq_true rfl⟩) (kPreV hE hS hV 0 rfl rfl) rfl rfl hl.1 rfl (lv_room (Nat.le_of_ble_eq_true rfl)) dX6_money_13 ⟨Nat.le_of_ble_eq_true rfl, Nat.le_of_ble_eq_true rfl⟩) hS (fun r_6 u_5 H locs hp_4 hV hS => ?_)
    subst hp_4
    refine W.eq (g2 := F0 m 16 ls [.int (nI (1))]) (by rw [kb_t (by decide)]) ?_
    have hV : kV G (kM G h ad 1 rl rw S ++ wr) H := hV
    refine kn_if_eq_not hx hb (by decide) dX6_money_16 ?_ 23 (by decide)
    refine lv_iconst (v := nI 0) hx hb dX6_money_19 (by decide) ?_
    refine lv_goto (tgt := 29) hx hb dX6_money_20 (by decide) ?_
    have hop : opMoney S x = (1, nI 0, S) := by
      unfold opMoney
      rw [kif_t c5] <;> rfl
    exact W.iret (v := nI 0) hx hb hrt (fun t ht hW => ⟨⟨_, (rl, rw), rfl, by rw [hop], kV_eq ht (by rw [hop]; exact hV)⟩, hS.F ht⟩) hS.2.2 dX6_money_29
  · refine lv_iconst (v := nI 0) hx hb dX6_money_8 (by decide) ?_
    refine lv_goto (tgt := 13) hx hb dX6_money_9 (by decide) ?_
    refine kc_i (va_runV (As := [.int (nI (0))]) (rest := []) hF (c_X6_refused l G h ad rf rl rw S wr 0 (by omega)) (cwV 1 hts gX6_money_X6_refused rfl rfl rfl (by decide +kernel) ⟨Nat.le_of_ble_eq_true rfl, Nat.le_of_ble_eq_true rfl⟩) (kPreV hE hS hV 0 rfl rfl) rfl rfl hl.1 rfl (lv_room (Nat.le_of_ble_eq_true rfl)) dX6_money_13 ⟨Nat.le_of_ble_eq_true rfl, Nat.le_of_ble_eq_true rfl⟩) hS (fun r_9 u_8 H locs hp_7 hV hS => ?_)
    subst hp_7
    refine W.eq (g2 := F0 m 16 ls [.int (nI (0))]) (by rw [kb_f (by decide)]) ?_
    have hV : kV G (kM G h ad 0 rl rw S ++ wr) H := hV
    refine kn_if_eq_lit (tgt := 23) hx hb (by decide) dX6_money_16 (by decide) ?_
    obtain ⟨jx, hjx, rfl⟩ := id c5
    have tx : tn (nI jx) = jx := tn_nI (by omega)
    refine lv_aload_n hx hb dX6_money_23 rfl (lv_at hl 0 rfl) ?_
    refine va_get (D := kD G) (ci := 7) (v := .ref (ad 14)) (C := RX6) (T := TX6) (N := 26) hx hb hts hinX6 hown hK hV.1 0 rfl rfl 14 (by decide) (hts (Cond.fieldLink RX6 44 "YarncourtModel" "moneys" "[I") (List.mem_of_getElem? (i := 1) rfl)) (fun _ h9 => h9) rfl dX6_money_24 ?_
    refine lv_iload_n hx hb dX6_money_27 rfl (lv_at hl 1 rfl) ?_
    refine kr_iald (G := G) (n := 5) (g := S.2.2) (j := jx) hx hb hK hV 12 rfl (by omega) (by decide) dX6_money_28 ?_
    have hop : opMoney S (nI jx) = (0, (S.2.2 jx), S) := by
      unfold opMoney
      rw [kif_f (fun z => z (isIn_nI hjx)), tx] <;> rfl
    exact W.iret (v := (S.2.2 jx)) hx hb hrt (fun t ht hW => ⟨⟨_, (rl, rw), rfl, by rw [hop], kV_eq ht (by rw [hop]; exact hV)⟩, hS.F ht⟩) hS.2.2 dX6_money_29
set_option maxHeartbeats 4000000 in
set_option maxRecDepth 100000 in
theorem c_X6_lot (l : Launch) (G : kG) (h : Nat) (ad : Nat → Nat) (rf : Nat) (rl : Nat) (rw : Nat) (S : kS) (wr : va_W) (x : Int32) (g : Int32) (y : Int32) (hI : kInv S) : Met l yX6_lot wsX6_lot ({ frames := 2, cells := 0, slots := 0, locals := 42 } : Room) (kPc G [.ref (h), .int (x), .int (g), .int (y)] (kM G h ad rf rl rw S ++ wr)) (kQi G (S := Nat × Nat) (fun q _ => q = (opLot S x g y).2.1) (fun uu => kM G h ad ((opLot S x g y).1) uu.1 uu.2 ((opLot S x g y).2.2) ++ wr)) 0 0 (kA G) := by
  refine Met.ofW (cc := cX6_lot) (maxL := 5) (ret := (some .int)) (by decide) rfl ?_
  intro pp ee s m args below meth cc0 s₁ B hml hv
  obtain ⟨rfl, hE, hV⟩ := hv
  have hK := hE.1
  have hx := B.exec
  have hb := B.bytes
  have hrt := B.returns
  have hts := atoms_spec (ws := wsX6_lot) B.pre
  have hown : s.vm.findClass RX6 = some m.cls := findClass_of_methodNamed B.named
  have hlocks := B.notSynchronized
  have hF : CallFix pp m cc0 cX6_lot 5 s _ wsX6_lot RX6 := ⟨hx, hb, hml, hown, hts⟩
  have hinX6 : ∀ w ∈ wsX60, w ∈ wsX6_lot := tb_of [18, 19, 20, 21, 22, 23, 24, 25, 26, 27, 28, 29, 30, 31, 32, 33, 34, 35, 36, 37, 38, 39, 40, 41, 42, 43] rfl
  have hS : va_S (kA G) s.heap s.heap [] := va_S.rf
  have hB0 := hE.2.1
  have hl := lv_entry ([.ref (h), .int (x), .int (g), .int (y)]) (n := 5) (Nat.le_of_ble_eq_true rfl)
  rw [lg_entry_eq]
  generalize (lg_sl ([.ref (h), .int (x), .int (g), .int (y)]) ++ List.replicate (5 - (lg_sl ([.ref (h), .int (x), .int (g), .int (y)])).length) Slot.unset).toArray = ls at hl ⊢
  have hl : lv_has ls 5 [(0, .ref (h)), (1, .int (x)), (2, .int (g)), (3, .int (y))] := hl
  obtain ⟨⟨hnp, hnl, hnj, hpu⟩, hIP, hIQ, hIL, hIJ, hIK, hIO⟩ := id hI
  have J25 : ∀ (H : Heap) (locs : List Loc), kV G (kM G h ad rf rl rw S ++ wr) H → va_S (kA G) s.heap H locs → ∀ (ls : Array Slot), lv_has ls 5 [(0, .ref (h)), (1, .int (x)), (2, .int (g)), (3, .int (y))] → W pp l ee (headSpec wsX6_lot ({ frames := 2, cells := 0, slots := 0, locals := 42 } : Room)).room s m [.ref (h), .int (x), .int (g), .int (y)].toArray below meth cc0 H locs 0 0 (MQ below (kQi G (S := Nat × Nat) (fun q _ => q = (opLot S x g y).2.1) (fun uu => kM G h ad ((opLot S x g y).1) uu.1 uu.2 ((opLot S x g y).2.2) ++ wr)) [.ref (h), .int (x), .int (g), .int (y)].toArray s 0 0 (kA G)) (F0 m 25 ls [.int (nI (kb (inI g (nI 5) (nI 20) ∧ inI y (nI 1) (nI 100000))))]) := by
    intro  H locs hV hS ls hl
    refine lv_istore (lv' := [(4, .int (nI (kb (inI g (nI 5) (nI 20) ∧ inI y (nI 1) (nI 100000))))), (0, .ref (h)), (1, .int (x)), (2, .int (g)), (3, .int (y))]) hx hb dX6_lot_25 hl (by decide) rfl (fun ls hl => ?_)
    refine lv_aload_n hx hb dX6_lot_27 rfl (lv_at hl 1 rfl) ?_
    refine lv_iload_n hx hb dX6_lot_28 rfl (lv_at hl 2 rfl) ?_
    refine kc_i (va_runS (As := [.int (x)]) (rest := [.ref (h)]) hF (c_X6_isPerson l G x (kM G h ad rf rl rw S ++ wr)) (va_cwS 1 hts gX6_lot_X6_isPerson rfl rfl rfl (by decide +kernel) ⟨Nat.le_of_ble_eq_true rfl, Nat.le_of_ble_eq_true rfl⟩) (kPreS hE hS hV) rfl rfl hl.1 rfl (lv_room (Nat.le_of_ble_eq_true rfl)) dX6_lot_29 ⟨Nat.le_of_ble_eq_true rfl, Nat.le_of_ble_eq_true rfl⟩) hS (fun r_3 u_2 H locs hp_1 hV hS => ?_)
    subst hp_1
    have hV : kV G (kM G h ad rf rl rw S ++ wr) H := hV
    refine kb_if_ne (tgt := 39) hx hb dX6_lot_32 (by decide) (fun c32 => ?_) (fun c32 => ?_)
    · refine lv_iload hx hb dX6_lot_39 (lv_at hl 0 rfl) ?_
      refine kb_if_ne (tgt := 48) hx hb dX6_lot_41 (by decide) (fun c41 => ?_) (fun c41 => ?_)
      · refine lv_aload_n hx hb dX6_lot_48 rfl (lv_at hl 1 rfl) ?_
        refine va_get (D := kD G) (ci := 7) (v := .int (nI (S.1 15 0))) (C := RX6) (T := TX6) (N := 26) hx hb hts hinX6 hown hK hV.1 0 rfl rfl 15 (by decide) (hts (Cond.fieldLink RX6 79 "YarncourtModel" "lots" "I") (List.mem_of_getElem? (i := 2) rfl)) (fun _ h9 => h9) rfl dX6_lot_49 ?_
        refine lv_bipush (v := nI 20) hx hb dX6_lot_52 (by decide) ?_
        refine kn_ne (tgt := 61) hx hb (by omega) (by decide) dX6_lot_54 (by decide) (fun c54 => ?_) (fun c54 => ?_)
        · refine lv_iconst (v := nI 0) hx hb dX6_lot_61 (by decide) ?_
          refine kc_i (va_runV (As := [.int (nI (0))]) (rest := []) hF (c_X6_refused l G h ad rf rl rw S wr 0 (by omega)) (cwV 1 hts gX6_lot_X6_refused rfl rfl rfl (by decide +kernel) ⟨Nat.le_of_ble_eq_true rfl, Nat.le_of_ble_eq_true rfl⟩) (kPreV hE hS hV 0 rfl rfl) rfl rfl hl.1 rfl (lv_room (Nat.le_of_ble_eq_true rfl)) dX6_lot_62 ⟨Nat.le_of_ble_eq_true rfl, Nat.le_of_ble_eq_true rfl⟩) hS (fun r_6 u_5 H locs hp_4 hV hS => ?_)
          subst hp_4
          refine W.eq (g2 := F0 m 65 ls [.int (nI (0))]) (by rw [kb_f (by decide)]) ?_
          have hV : kV G (kM G h ad 0 rl rw S ++ wr) H := hV
          refine kn_if_eq_lit (tgt := 70) hx hb (by decide) dX6_lot_65 (by decide) ?_
          obtain ⟨jx, hjx, rfl⟩ := id c32
          have tx : tn (nI jx) = jx := tn_nI (by omega)
          obtain ⟨jg, hjg1, hjg2, rfl⟩ := rng_nI c41.1 (by decide) (by decide)
          obtain ⟨jy, hjy1, hjy2, rfl⟩ := rng_nI c41.2 (by decide) (by decide)
          refine lv_aload_n hx hb dX6_lot_70 rfl (lv_at hl 1 rfl) ?_
          refine va_get (D := kD G) (ci := 7) (v := .ref (ad 16)) (C := RX6) (T := TX6) (N := 26) hx hb hts hinX6 hown hK hV.1 0 rfl rfl 16 (by decide) (hts (Cond.fieldLink RX6 47 "YarncourtModel" "holders" "[I") (List.mem_of_getElem? (i := 3) rfl)) (fun _ h9 => h9) rfl dX6_lot_71 ?_
          refine lv_aload_n hx hb dX6_lot_74 rfl (lv_at hl 1 rfl) ?_
          refine va_get (D := kD G) (ci := 7) (v := .int (nI (S.1 15 0))) (C := RX6) (T := TX6) (N := 26) hx hb hts hinX6 hown hK hV.1 0 rfl rfl 15 (by decide) (hts (Cond.fieldLink RX6 79 "YarncourtModel" "lots" "I") (List.mem_of_getElem? (i := 2) rfl)) (fun _ h9 => h9) rfl dX6_lot_75 ?_
          refine lv_iload_n hx hb dX6_lot_78 rfl (lv_at hl 2 rfl) ?_
          refine kn_iast (G := G) (n := 20) (g := S.1 16) (j := S.1 15 0) (v := jx) hx hb hK hV hS 13 rfl (by omega) (by decide) dX6_lot_79 (fun H locs hV hS => ?_)
          have hV : kV G (kM G h ad 0 rl rw (st S 16 (S.1 15 0) jx) ++ wr) H := hV
          refine lv_aload_n hx hb dX6_lot_80 rfl (lv_at hl 1 rfl) ?_
          refine va_get (D := kD G) (ci := 7) (v := .ref (ad 17)) (C := RX6) (T := TX6) (N := 26) hx hb hts hinX6 hown hK hV.1 0 rfl rfl 17 (by decide) (hts (Cond.fieldLink RX6 50 "YarncourtModel" "gauges" "[I") (List.mem_of_getElem? (i := 4) rfl)) (fun _ h9 => h9) rfl dX6_lot_81 ?_
          refine lv_aload_n hx hb dX6_lot_84 rfl (lv_at hl 1 rfl) ?_
          refine va_get (D := kD G) (ci := 7) (v := .int (nI (S.1 15 0))) (C := RX6) (T := TX6) (N := 26) hx hb hts hinX6 hown hK hV.1 0 rfl rfl 15 (by decide) (hts (Cond.fieldLink RX6 79 "YarncourtModel" "lots" "I") (List.mem_of_getElem? (i := 2) rfl)) (fun _ h9 => h9) rfl dX6_lot_85 ?_
          refine lv_iload_n hx hb dX6_lot_88 rfl (lv_at hl 3 rfl) ?_
          refine kn_iast (G := G) (n := 20) (g := (st S 16 (S.1 15 0) jx).1 17) (j := S.1 15 0) (v := jg) hx hb hK hV hS 14 rfl (by omega) (by decide) dX6_lot_89 (fun H locs hV hS => ?_)
          have hV : kV G (kM G h ad 0 rl rw (st (st S 16 (S.1 15 0) jx) 17 (S.1 15 0) jg) ++ wr) H := hV
          refine lv_aload_n hx hb dX6_lot_90 rfl (lv_at hl 1 rfl) ?_
          refine va_get (D := kD G) (ci := 7) (v := .ref (ad 18)) (C := RX6) (T := TX6) (N := 26) hx hb hts hinX6 hown hK hV.1 0 rfl rfl 18 (by decide) (hts (Cond.fieldLink RX6 53 "YarncourtModel" "yarns" "[I") (List.mem_of_getElem? (i := 5) rfl)) (fun _ h9 => h9) rfl dX6_lot_91 ?_
          refine lv_aload_n hx hb dX6_lot_94 rfl (lv_at hl 1 rfl) ?_
          refine va_get (D := kD G) (ci := 7) (v := .int (nI (S.1 15 0))) (C := RX6) (T := TX6) (N := 26) hx hb hts hinX6 hown hK hV.1 0 rfl rfl 15 (by decide) (hts (Cond.fieldLink RX6 79 "YarncourtModel" "lots" "I") (List.mem_of_getElem? (i := 2) rfl)) (fun _ h9 => h9) rfl dX6_lot_95 ?_
          refine lv_iload_n hx hb dX6_lot_98 rfl (lv_at hl 4 rfl) ?_
          refine kn_iast (G := G) (n := 20) (g := (st (st S 16 (S.1 15 0) jx) 17 (S.1 15 0) jg).1 18) (j := S.1 15 0) (v := jy) hx hb hK hV hS 15 rfl (by omega) (by decide) dX6_lot_99 (fun H locs hV hS => ?_)
          have hV : kV G (kM G h ad 0 rl rw (st (st (st S 16 (S.1 15 0) jx) 17 (S.1 15 0) jg) 18 (S.1 15 0) jy) ++ wr) H := hV
          refine lv_aload_n hx hb dX6_lot_100 rfl (lv_at hl 1 rfl) ?_
          refine lv_dup hx hb dX6_lot_101 rfl ?_
          refine va_get (D := kD G) (ci := 7) (v := .int (nI (S.1 15 0))) (C := RX6) (T := TX6) (N := 26) hx hb hts hinX6 hown hK hV.1 0 rfl rfl 15 (by decide) (hts (Cond.fieldLink RX6 79 "YarncourtModel" "lots" "I") (List.mem_of_getElem? (i := 2) rfl)) (fun _ h9 => h9) rfl dX6_lot_102 ?_
          refine lv_iconst (v := nI 1) hx hb dX6_lot_105 (by decide) ?_
          refine kn_add hx hb dX6_lot_106 ?_
          refine va_put (D := kD G) (ci := 7) (v := .int (nI ((S.1 15 0) + 1))) (ty := .int) (C := RX6) (T := TX6) (N := 26) hx hb hts hinX6 tyX6 tyX6_ok nmX6 hown hK hV.1 hV.2 hS 0 rfl rfl 15 (by decide) (hts (Cond.fieldLink RX6 79 "YarncourtModel" "lots" "I") (List.mem_of_getElem? (i := 2) rfl)) (fun _ h9 => h9) rfl (by decide +kernel) rfl rfl (Nat.le_of_ble_eq_true rfl) dX6_lot_107 (fun H locs hP hD hS => ?_)
          have hV : kV G (kM G h ad 0 rl rw (st (st (st (st S 16 (S.1 15 0) jx) 17 (S.1 15 0) jg) 18 (S.1 15 0) jy) 15 0 ((S.1 15 0) + 1)) ++ wr) H := ⟨hP, hD⟩
          refine lv_aload_n hx hb dX6_lot_110 rfl (lv_at hl 1 rfl) ?_
          refine va_get (D := kD G) (ci := 7) (v := .int (nI ((S.1 15 0) + 1))) (C := RX6) (T := TX6) (N := 26) hx hb hts hinX6 hown hK hV.1 0 rfl rfl 15 (by decide) (hts (Cond.fieldLink RX6 79 "YarncourtModel" "lots" "I") (List.mem_of_getElem? (i := 2) rfl)) (fun _ h9 => h9) rfl dX6_lot_111 ?_
          refine lv_iconst (v := nI 1) hx hb dX6_lot_114 (by decide) ?_
          refine kn_sub hx hb (by omega) dX6_lot_115 ?_
          have hop : opLot S (nI jx) (nI jg) (nI jy) = (0, nI (((S.1 15 0) + 1) - 1), st (st (st (st S 16 (S.1 15 0) jx) 17 (S.1 15 0) jg) 18 (S.1 15 0) jy) 15 0 ((S.1 15 0) + 1)) := by
            unfold opLot
            rw [kif_f (fun z => z (isIn_nI hjx)), kif_f (fun z => z c41), kif_f c54, tx, tn_nI (j := jg) (by omega), tn_nI (j := jy) (by omega), Nat.add_sub_cancel] <;> rfl
          exact W.iret (v := nI (((S.1 15 0) + 1) - 1)) hx hb hrt (fun t ht hW => ⟨⟨_, (rl, rw), rfl, by rw [hop], kV_eq ht (by rw [hop]; exact hV)⟩, hS.F ht⟩) hS.2.2 dX6_lot_116
        · refine lv_iconst (v := nI 3) hx hb dX6_lot_57 (by decide) ?_
          refine lv_goto (tgt := 62) hx hb dX6_lot_58 (by decide) ?_
          refine kc_i (va_runV (As := [.int (nI (3))]) (rest := []) hF (c_X6_refused l G h ad rf rl rw S wr 3 (by omega)) (cwV 1 hts gX6_lot_X6_refused rfl rfl rfl (by decide +kernel) ⟨Nat.le_of_ble_eq_true rfl, Nat.le_of_ble_eq_true rfl⟩) (kPreV hE hS hV 0 rfl rfl) rfl rfl hl.1 rfl (lv_room (Nat.le_of_ble_eq_true rfl)) dX6_lot_62 ⟨Nat.le_of_ble_eq_true rfl, Nat.le_of_ble_eq_true rfl⟩) hS (fun r_9 u_8 H locs hp_7 hV hS => ?_)
          subst hp_7
          refine W.eq (g2 := F0 m 65 ls [.int (nI (1))]) (by rw [kb_t (by decide)]) ?_
          have hV : kV G (kM G h ad 3 rl rw S ++ wr) H := hV
          refine kn_if_eq_not hx hb (by decide) dX6_lot_65 ?_ 70 (by decide)
          refine lv_iconst (v := nI 0) hx hb dX6_lot_68 (by decide) ?_
          have hop : opLot S x g y = (3, nI 0, S) := by
            unfold opLot
            rw [kif_f (fun z => z c32), kif_f (fun z => z c41), kif_t c54] <;> rfl
          exact W.iret (v := nI 0) hx hb hrt (fun t ht hW => ⟨⟨_, (rl, rw), rfl, by rw [hop], kV_eq ht (by rw [hop]; exact hV)⟩, hS.F ht⟩) hS.2.2 dX6_lot_69
      · refine lv_iconst (v := nI 2) hx hb dX6_lot_44 (by decide) ?_
        refine lv_goto (tgt := 62) hx hb dX6_lot_45 (by decide) ?_
        refine kc_i (va_runV (As := [.int (nI (2))]) (rest := []) hF (c_X6_refused l G h ad rf rl rw S wr 2 (by omega)) (cwV 1 hts gX6_lot_X6_refused rfl rfl rfl (by decide +kernel) ⟨Nat.le_of_ble_eq_true rfl, Nat.le_of_ble_eq_true rfl⟩) (kPreV hE hS hV 0 rfl rfl) rfl rfl hl.1 rfl (lv_room (Nat.le_of_ble_eq_true rfl)) dX6_lot_62 ⟨Nat.le_of_ble_eq_true rfl, Nat.le_of_ble_eq_true rfl⟩) hS (fun r_12 u_11 H locs hp_10 hV hS => ?_)
        subst hp_10
        refine W.eq (g2 := F0 m 65 ls [.int (nI (1))]) (by rw [kb_t (by decide)]) ?_
        have hV : kV G (kM G h ad 2 rl rw S ++ wr) H := hV
        refine kn_if_eq_not hx hb (by decide) dX6_lot_65 ?_ 70 (by decide)
        refine lv_iconst (v := nI 0) hx hb dX6_lot_68 (by decide) ?_
        have hop : opLot S x g y = (2, nI 0, S) := by
          unfold opLot
          rw [kif_f (fun z => z c32), kif_t c41] <;> rfl
        exact W.iret (v := nI 0) hx hb hrt (fun t ht hW => ⟨⟨_, (rl, rw), rfl, by rw [hop], kV_eq ht (by rw [hop]; exact hV)⟩, hS.F ht⟩) hS.2.2 dX6_lot_69
    · refine lv_iconst (v := nI 1) hx hb dX6_lot_35 (by decide) ?_
      refine lv_goto (tgt := 62) hx hb dX6_lot_36 (by decide) ?_
      refine kc_i (va_runV (As := [.int (nI (1))]) (rest := []) hF (c_X6_refused l G h ad rf rl rw S wr 1 (by omega)) (cwV 1 hts gX6_lot_X6_refused rfl rfl rfl (by decide +kernel) ⟨Nat.le_of_ble_eq_true rfl, Nat.le_of_ble_eq_true rfl⟩) (kPreV hE hS hV 0 rfl rfl) rfl rfl hl.1 rfl (lv_room (Nat.le_of_ble_eq_true rfl)) dX6_lot_62 ⟨Nat.le_of_ble_eq_true rfl, Nat.le_of_ble_eq_true rfl⟩) hS (fun r_15 u_14 H locs hp_13 hV hS => ?_)
      subst hp_13
      refine W.eq (g2 := F0 m 65 ls [.int (nI (1))]) (by rw [kb_t (by decide)]) ?_
      have hV : kV G (kM G h ad 1 rl rw S ++ wr) H := hV
      refine kn_if_eq_not hx hb (by decide) dX6_lot_65 ?_ 70 (by decide)
      refine lv_iconst (v := nI 0) hx hb dX6_lot_68 (by decide) ?_
      have hop : opLot S x g y = (1, nI 0, S) := by
        unfold opLot
        rw [kif_t c32] <;> rfl
      exact W.iret (v := nI 0) hx hb hrt (fun t ht hW => ⟨⟨_, (rl, rw), rfl, by rw [hop], kV_eq ht (by rw [hop]; exact hV)⟩, hS.F ht⟩) hS.2.2 dX6_lot_69
  refine lv_iload_n hx hb dX6_lot_0 rfl (lv_at hl 2 rfl) ?_
  refine lv_iconst (v := nI 5) hx hb dX6_lot_1 (by decide) ?_
  refine lv_bipush (v := nI 20) hx hb dX6_lot_2 (by decide) ?_
  refine kc_i (va_runS (As := [.int (g), .int (nI (5)), .int (nI (20))]) (rest := []) hF (c_X6_in l G g (nI 5) (nI 20) (kM G h ad rf rl rw S ++ wr)) (va_cwS 3 hts gX6_lot_X6_in rfl rfl rfl (by decide +kernel) ⟨Nat.le_of_ble_eq_true rfl, Nat.le_of_ble_eq_true rfl⟩) (kPreS hE hS hV) rfl rfl hl.1 rfl (lv_room (Nat.le_of_ble_eq_true rfl)) dX6_lot_4 ⟨Nat.le_of_ble_eq_true rfl, Nat.le_of_ble_eq_true rfl⟩) hS (fun r_18 u_17 H locs hp_16 hV hS => ?_)
  subst hp_16
  have hV : kV G (kM G h ad rf rl rw S ++ wr) H := hV
  refine kb_if_eq (tgt := 24) hx hb dX6_lot_7 (by decide) (fun c7 => ?_) (fun c7 => ?_)
  · refine lv_iconst (v := nI 0) hx hb dX6_lot_24 (by decide) ?_
    refine W.eq (g2 := F0 m 25 ls [.int (nI (kb (inI g (nI 5) (nI 20) ∧ inI y (nI 1) (nI 100000))))]) (by rw [kb_f (fun z => c7 z.1)]) ?_
    exact J25  _ _ hV hS ls (lv_sub hl [0, 1, 2, 3] rfl)
  · refine lv_iload_n hx hb dX6_lot_10 rfl (lv_at hl 3 rfl) ?_
    refine lv_iconst (v := nI 1) hx hb dX6_lot_11 (by decide) ?_
    refine lv_ldc (v := nI 100000) hx hb hown (hts (Cond.constant RX6 152 (100000)) (List.mem_of_getElem? (i := 1) rfl)) dX6_lot_12 ?_
    refine kc_i (va_runS (As := [.int (y), .int (nI (1)), .int (nI (100000))]) (rest := []) hF (c_X6_in l G y (nI 1) (nI 100000) (kM G h ad rf rl rw S ++ wr)) (va_cwS 3 hts gX6_lot_X6_in rfl rfl rfl (by decide +kernel) ⟨Nat.le_of_ble_eq_true rfl, Nat.le_of_ble_eq_true rfl⟩) (kPreS hE hS hV) rfl rfl hl.1 rfl (lv_room (Nat.le_of_ble_eq_true rfl)) dX6_lot_14 ⟨Nat.le_of_ble_eq_true rfl, Nat.le_of_ble_eq_true rfl⟩) hS (fun r_21 u_20 H locs hp_19 hV hS => ?_)
    subst hp_19
    have hV : kV G (kM G h ad rf rl rw S ++ wr) H := hV
    refine kb_if_eq (tgt := 24) hx hb dX6_lot_17 (by decide) (fun c17 => ?_) (fun c17 => ?_)
    · refine lv_iconst (v := nI 0) hx hb dX6_lot_24 (by decide) ?_
      refine W.eq (g2 := F0 m 25 ls [.int (nI (kb (inI g (nI 5) (nI 20) ∧ inI y (nI 1) (nI 100000))))]) (by rw [kb_f (fun z => c17 z.2)]) ?_
      exact J25  _ _ hV hS ls (lv_sub hl [0, 1, 2, 3] rfl)
    · refine lv_iconst (v := nI 1) hx hb dX6_lot_20 (by decide) ?_
      refine lv_goto (tgt := 25) hx hb dX6_lot_21 (by decide) ?_
      refine W.eq (g2 := F0 m 25 ls [.int (nI (kb (inI g (nI 5) (nI 20) ∧ inI y (nI 1) (nI 100000))))]) (by rw [kb_t (⟨c7, c17⟩)]) ?_
      exact J25  _ _ hV hS ls (lv_sub hl [0, 1, 2, 3] rfl)
set_option maxHeartbeats 4000000 in
set_option maxRecDepth 100000 in
theorem c_X6_swap (l : Launch) (G : kG) (h : Nat) (ad : Nat → Nat) (rf : Nat) (rl : Nat) (rw : Nat) (S : kS) (wr : va_W) (a : Int32) (b : Int32) (hI : kInv S) : Met l yX6_swap wsX6_swap ({ frames := 2, cells := 0, slots := 0, locals := 43 } : Room) (kPc G [.ref (h), .int (a), .int (b)] (kM G h ad rf rl rw S ++ wr)) (kQi G (S := Nat × Nat) (fun q _ => q = (opSwap S a b).2.1) (fun uu => kM G h ad ((opSwap S a b).1) uu.1 uu.2 ((opSwap S a b).2.2) ++ wr)) 0 0 (kA G) := by
  refine Met.ofW (cc := cX6_swap) (maxL := 5) (ret := (some .int)) (by decide) rfl ?_
  intro pp ee s m args below meth cc0 s₁ B hml hv
  obtain ⟨rfl, hE, hV⟩ := hv
  have hK := hE.1
  have hx := B.exec
  have hb := B.bytes
  have hrt := B.returns
  have hts := atoms_spec (ws := wsX6_swap) B.pre
  have hown : s.vm.findClass RX6 = some m.cls := findClass_of_methodNamed B.named
  have hlocks := B.notSynchronized
  have hF : CallFix pp m cc0 cX6_swap 5 s _ wsX6_swap RX6 := ⟨hx, hb, hml, hown, hts⟩
  have hinX6 : ∀ w ∈ wsX60, w ∈ wsX6_swap := tb_of [16, 17, 18, 19, 20, 21, 22, 23, 24, 25, 26, 27, 28, 29, 30, 31, 32, 33, 34, 35, 36, 37, 38, 39, 40, 41] rfl
  have hS : va_S (kA G) s.heap s.heap [] := va_S.rf
  have hB0 := hE.2.1
  have hl := lv_entry ([.ref (h), .int (a), .int (b)]) (n := 5) (Nat.le_of_ble_eq_true rfl)
  rw [lg_entry_eq]
  generalize (lg_sl ([.ref (h), .int (a), .int (b)]) ++ List.replicate (5 - (lg_sl ([.ref (h), .int (a), .int (b)])).length) Slot.unset).toArray = ls at hl ⊢
  have hl : lv_has ls 5 [(0, .ref (h)), (1, .int (a)), (2, .int (b))] := hl
  obtain ⟨⟨hnp, hnl, hnj, hpu⟩, hIP, hIQ, hIL, hIJ, hIK, hIO⟩ := id hI
  have J21 : ∀ (H : Heap) (locs : List Loc), kV G (kM G h ad rf rl rw S ++ wr) H → va_S (kA G) s.heap H locs → ∀ (ls : Array Slot), lv_has ls 5 [(0, .ref (h)), (1, .int (a)), (2, .int (b))] → W pp l ee (headSpec wsX6_swap ({ frames := 2, cells := 0, slots := 0, locals := 43 } : Room)).room s m [.ref (h), .int (a), .int (b)].toArray below meth cc0 H locs 0 0 (MQ below (kQi G (S := Nat × Nat) (fun q _ => q = (opSwap S a b).2.1) (fun uu => kM G h ad ((opSwap S a b).1) uu.1 uu.2 ((opSwap S a b).2.2) ++ wr)) [.ref (h), .int (a), .int (b)].toArray s 0 0 (kA G)) (F0 m 21 ls [.int (nI (kb (isIn a (S.1 15 0) ∧ isIn b (S.1 15 0))))]) := by
    intro  H locs hV hS ls hl
    refine lv_istore_n (lv' := [(3, .int (nI (kb (isIn a (S.1 15 0) ∧ isIn b (S.1 15 0))))), (0, .ref (h)), (1, .int (a)), (2, .int (b))]) hx hb dX6_swap_21 rfl hl (by decide) rfl (fun ls hl => ?_)
    refine lv_aload_n hx hb dX6_swap_22 rfl (lv_at hl 1 rfl) ?_
    refine lv_iload_n hx hb dX6_swap_23 rfl (lv_at hl 0 rfl) ?_
    refine kb_if_ne (tgt := 31) hx hb dX6_swap_24 (by decide) (fun c24 => ?_) (fun c24 => ?_)
    · obtain ⟨ja, hja, rfl⟩ := id c24.1
      obtain ⟨jb, hjb, rfl⟩ := id c24.2
      have hA := hIL ja hja
      have hBb := hIL jb hjb
      have ta : tn (nI ja) = ja := tn_nI (by omega)
      have tb : tn (nI jb) = jb := tn_nI (by omega)
      refine lv_aload_n hx hb dX6_swap_31 rfl (lv_at hl 1 rfl) ?_
      refine va_get (D := kD G) (ci := 7) (v := .ref (ad 16)) (C := RX6) (T := TX6) (N := 26) hx hb hts hinX6 hown hK hV.1 0 rfl rfl 16 (by decide) (hts (Cond.fieldLink RX6 47 "YarncourtModel" "holders" "[I") (List.mem_of_getElem? (i := 1) rfl)) (fun _ h9 => h9) rfl dX6_swap_32 ?_
      refine lv_iload_n hx hb dX6_swap_35 rfl (lv_at hl 2 rfl) ?_
      refine kn_iald (G := G) (n := 20) (g := S.1 16) (j := ja) hx hb hK hV 13 rfl (by omega) (by decide) dX6_swap_36 ?_
      refine lv_aload_n hx hb dX6_swap_37 rfl (lv_at hl 1 rfl) ?_
      refine va_get (D := kD G) (ci := 7) (v := .ref (ad 16)) (C := RX6) (T := TX6) (N := 26) hx hb hts hinX6 hown hK hV.1 0 rfl rfl 16 (by decide) (hts (Cond.fieldLink RX6 47 "YarncourtModel" "holders" "[I") (List.mem_of_getElem? (i := 1) rfl)) (fun _ h9 => h9) rfl dX6_swap_38 ?_
      refine lv_iload_n hx hb dX6_swap_41 rfl (lv_at hl 3 rfl) ?_
      refine kn_iald (G := G) (n := 20) (g := S.1 16) (j := jb) hx hb hK hV 13 rfl (by omega) (by decide) dX6_swap_42 ?_
      refine kn_ne (tgt := 50) hx hb (by omega) (by omega) dX6_swap_43 (by decide) (fun c43 => ?_) (fun c43 => ?_)
      · refine lv_iconst (v := nI 0) hx hb dX6_swap_50 (by decide) ?_
        refine kc_i (va_runV (As := [.int (nI (0))]) (rest := []) hF (c_X6_refused l G h ad rf rl rw S wr 0 (by omega)) (cwV 1 hts gX6_swap_X6_refused rfl rfl rfl (by decide +kernel) ⟨Nat.le_of_ble_eq_true rfl, Nat.le_of_ble_eq_true rfl⟩) (kPreV hE hS hV 0 rfl rfl) rfl rfl hl.1 rfl (lv_room (Nat.le_of_ble_eq_true rfl)) dX6_swap_51 ⟨Nat.le_of_ble_eq_true rfl, Nat.le_of_ble_eq_true rfl⟩) hS (fun r_3 u_2 H locs hp_1 hV hS => ?_)
        subst hp_1
        refine W.eq (g2 := F0 m 54 ls [.int (nI (0))]) (by rw [kb_f (by decide)]) ?_
        have hV : kV G (kM G h ad 0 rl rw S ++ wr) H := hV
        refine kn_if_eq_lit (tgt := 59) hx hb (by decide) dX6_swap_54 (by decide) ?_
        refine lv_aload_n hx hb dX6_swap_59 rfl (lv_at hl 1 rfl) ?_
        refine va_get (D := kD G) (ci := 7) (v := .ref (ad 16)) (C := RX6) (T := TX6) (N := 26) hx hb hts hinX6 hown hK hV.1 0 rfl rfl 16 (by decide) (hts (Cond.fieldLink RX6 47 "YarncourtModel" "holders" "[I") (List.mem_of_getElem? (i := 1) rfl)) (fun _ h9 => h9) rfl dX6_swap_60 ?_
        refine lv_iload_n hx hb dX6_swap_63 rfl (lv_at hl 2 rfl) ?_
        refine kn_iald (G := G) (n := 20) (g := S.1 16) (j := ja) hx hb hK hV 13 rfl (by omega) (by decide) dX6_swap_64 ?_
        refine lv_istore (lv' := [(4, .int (nI (S.1 16 ja))), (3, .int (nI (kb (isIn (nI ja) (S.1 15 0) ∧ isIn (nI jb) (S.1 15 0))))), (0, .ref (h)), (1, .int (nI (ja))), (2, .int (nI (jb)))]) hx hb dX6_swap_65 hl (by decide) rfl (fun ls hl => ?_)
        refine lv_aload_n hx hb dX6_swap_67 rfl (lv_at hl 2 rfl) ?_
        refine va_get (D := kD G) (ci := 7) (v := .ref (ad 16)) (C := RX6) (T := TX6) (N := 26) hx hb hts hinX6 hown hK hV.1 0 rfl rfl 16 (by decide) (hts (Cond.fieldLink RX6 47 "YarncourtModel" "holders" "[I") (List.mem_of_getElem? (i := 1) rfl)) (fun _ h9 => h9) rfl dX6_swap_68 ?_
        refine lv_iload_n hx hb dX6_swap_71 rfl (lv_at hl 3 rfl) ?_
        refine lv_aload_n hx hb dX6_swap_72 rfl (lv_at hl 2 rfl) ?_
        refine va_get (D := kD G) (ci := 7) (v := .ref (ad 16)) (C := RX6) (T := TX6) (N := 26) hx hb hts hinX6 hown hK hV.1 0 rfl rfl 16 (by decide) (hts (Cond.fieldLink RX6 47 "YarncourtModel" "holders" "[I") (List.mem_of_getElem? (i := 1) rfl)) (fun _ h9 => h9) rfl dX6_swap_73 ?_
        refine lv_iload_n hx hb dX6_swap_76 rfl (lv_at hl 4 rfl) ?_
        refine kn_iald (G := G) (n := 20) (g := S.1 16) (j := jb) hx hb hK hV 13 rfl (by omega) (by decide) dX6_swap_77 ?_
        refine kn_iast (G := G) (n := 20) (g := S.1 16) (j := ja) (v := S.1 16 jb) hx hb hK hV hS 13 rfl (by omega) (by decide) dX6_swap_78 (fun H locs hV hS => ?_)
        have hV : kV G (kM G h ad 0 rl rw (st S 16 ja (S.1 16 jb)) ++ wr) H := hV
        refine lv_aload_n hx hb dX6_swap_79 rfl (lv_at hl 2 rfl) ?_
        refine va_get (D := kD G) (ci := 7) (v := .ref (ad 16)) (C := RX6) (T := TX6) (N := 26) hx hb hts hinX6 hown hK hV.1 0 rfl rfl 16 (by decide) (hts (Cond.fieldLink RX6 47 "YarncourtModel" "holders" "[I") (List.mem_of_getElem? (i := 1) rfl)) (fun _ h9 => h9) rfl dX6_swap_80 ?_
        refine lv_iload_n hx hb dX6_swap_83 rfl (lv_at hl 4 rfl) ?_
        refine lv_iload hx hb dX6_swap_84 (lv_at hl 0 rfl) ?_
        refine kn_iast (G := G) (n := 20) (g := (st S 16 ja (S.1 16 jb)).1 16) (j := jb) (v := S.1 16 ja) hx hb hK hV hS 13 rfl (by omega) (by decide) dX6_swap_86 (fun H locs hV hS => ?_)
        have hV : kV G (kM G h ad 0 rl rw (st (st S 16 ja (S.1 16 jb)) 16 jb (S.1 16 ja)) ++ wr) H := hV
        refine lv_aload_n hx hb dX6_swap_87 rfl (lv_at hl 2 rfl) ?_
        refine va_get (D := kD G) (ci := 7) (v := .ref (ad 16)) (C := RX6) (T := TX6) (N := 26) hx hb hts hinX6 hown hK hV.1 0 rfl rfl 16 (by decide) (hts (Cond.fieldLink RX6 47 "YarncourtModel" "holders" "[I") (List.mem_of_getElem? (i := 1) rfl)) (fun _ h9 => h9) rfl dX6_swap_88 ?_
        refine lv_iload_n hx hb dX6_swap_91 rfl (lv_at hl 3 rfl) ?_
        refine kn_iald (G := G) (n := 20) (g := (st (st S 16 ja (S.1 16 jb)) 16 jb (S.1 16 ja)).1 16) (j := ja) hx hb hK hV 13 rfl (by omega) (by decide) dX6_swap_92 ?_
        have e9 : ja ≠ jb := fun z => c43 (by rw [z])
        have e8 : (st (st S 16 ja (S.1 16 jb)) 16 jb (S.1 16 ja)).1 16 ja = S.1 16 jb := by simp [st_1, e9]
        have hop : opSwap S (nI ja) (nI jb) = (0, nI ((st (st S 16 ja (S.1 16 jb)) 16 jb (S.1 16 ja)).1 16 ja), st (st S 16 ja (S.1 16 jb)) 16 jb (S.1 16 ja)) := by
          unfold opSwap
          rw [kif_f (fun z => z c24), ta, tb, kif_f c43, e8] <;> rfl
        exact W.iret (v := nI ((st (st S 16 ja (S.1 16 jb)) 16 jb (S.1 16 ja)).1 16 ja)) hx hb hrt (fun t ht hW => ⟨⟨_, (rl, rw), rfl, by rw [hop], kV_eq ht (by rw [hop]; exact hV)⟩, hS.F ht⟩) hS.2.2 dX6_swap_93
      · refine lv_iconst (v := nI 2) hx hb dX6_swap_46 (by decide) ?_
        refine lv_goto (tgt := 51) hx hb dX6_swap_47 (by decide) ?_
        refine kc_i (va_runV (As := [.int (nI (2))]) (rest := []) hF (c_X6_refused l G h ad rf rl rw S wr 2 (by omega)) (cwV 1 hts gX6_swap_X6_refused rfl rfl rfl (by decide +kernel) ⟨Nat.le_of_ble_eq_true rfl, Nat.le_of_ble_eq_true rfl⟩) (kPreV hE hS hV 0 rfl rfl) rfl rfl hl.1 rfl (lv_room (Nat.le_of_ble_eq_true rfl)) dX6_swap_51 ⟨Nat.le_of_ble_eq_true rfl, Nat.le_of_ble_eq_true rfl⟩) hS (fun r_6 u_5 H locs hp_4 hV hS => ?_)
        subst hp_4
        refine W.eq (g2 := F0 m 54 ls [.int (nI (1))]) (by rw [kb_t (by decide)]) ?_
        have hV : kV G (kM G h ad 2 rl rw S ++ wr) H := hV
        refine kn_if_eq_not hx hb (by decide) dX6_swap_54 ?_ 59 (by decide)
        refine lv_iconst (v := nI 0) hx hb dX6_swap_57 (by decide) ?_
        have hop : opSwap S (nI ja) (nI jb) = (2, nI 0, S) := by
          unfold opSwap
          rw [kif_f (fun z => z c24), ta, tb, kif_t c43] <;> rfl
        exact W.iret (v := nI 0) hx hb hrt (fun t ht hW => ⟨⟨_, (rl, rw), rfl, by rw [hop], kV_eq ht (by rw [hop]; exact hV)⟩, hS.F ht⟩) hS.2.2 dX6_swap_58
    · refine lv_iconst (v := nI 1) hx hb dX6_swap_27 (by decide) ?_
      refine lv_goto (tgt := 51) hx hb dX6_swap_28 (by decide) ?_
      refine kc_i (va_runV (As := [.int (nI (1))]) (rest := []) hF (c_X6_refused l G h ad rf rl rw S wr 1 (by omega)) (cwV 1 hts gX6_swap_X6_refused rfl rfl rfl (by decide +kernel) ⟨Nat.le_of_ble_eq_true rfl, Nat.le_of_ble_eq_true rfl⟩) (kPreV hE hS hV 0 rfl rfl) rfl rfl hl.1 rfl (lv_room (Nat.le_of_ble_eq_true rfl)) dX6_swap_51 ⟨Nat.le_of_ble_eq_true rfl, Nat.le_of_ble_eq_true rfl⟩) hS (fun r_9 u_8 H locs hp_7 hV hS => ?_)
      subst hp_7
      refine W.eq (g2 := F0 m 54 ls [.int (nI (1))]) (by rw [kb_t (by decide)]) ?_
      have hV : kV G (kM G h ad 1 rl rw S ++ wr) H := hV
      refine kn_if_eq_not hx hb (by decide) dX6_swap_54 ?_ 59 (by decide)
      refine lv_iconst (v := nI 0) hx hb dX6_swap_57 (by decide) ?_
      have hop : opSwap S a b = (1, nI 0, S) := by
        unfold opSwap
        rw [kif_t c24] <;> rfl
      exact W.iret (v := nI 0) hx hb hrt (fun t ht hW => ⟨⟨_, (rl, rw), rfl, by rw [hop], kV_eq ht (by rw [hop]; exact hV)⟩, hS.F ht⟩) hS.2.2 dX6_swap_58
  refine lv_aload_n hx hb dX6_swap_0 rfl (lv_at hl 0 rfl) ?_
  refine lv_iload_n hx hb dX6_swap_1 rfl (lv_at hl 1 rfl) ?_
  refine kc_i (va_runV (As := [.int (a)]) (rest := []) hF (c_X6_isLot l G h ad rf rl rw S wr a (by omega)) (cwV 1 hts gX6_swap_X6_isLot rfl rfl rfl (by decide +kernel) ⟨Nat.le_of_ble_eq_true rfl, Nat.le_of_ble_eq_true rfl⟩) (kPreV hE hS hV 0 rfl rfl) rfl rfl hl.1 rfl (lv_room (Nat.le_of_ble_eq_true rfl)) dX6_swap_2 ⟨Nat.le_of_ble_eq_true rfl, Nat.le_of_ble_eq_true rfl⟩) hS (fun r_12 u_11 H locs hp_10 hV hS => ?_)
  subst hp_10
  have hV : kV G (kM G h ad rf rl rw S ++ wr) H := hV
  refine kb_if_eq (tgt := 20) hx hb dX6_swap_5 (by decide) (fun c5 => ?_) (fun c5 => ?_)
  · refine lv_iconst (v := nI 0) hx hb dX6_swap_20 (by decide) ?_
    refine W.eq (g2 := F0 m 21 ls [.int (nI (kb (isIn a (S.1 15 0) ∧ isIn b (S.1 15 0))))]) (by rw [kb_f (fun z => c5 z.1)]) ?_
    exact J21  _ _ hV hS ls (lv_sub hl [0, 1, 2] rfl)
  · refine lv_aload_n hx hb dX6_swap_8 rfl (lv_at hl 0 rfl) ?_
    refine lv_iload_n hx hb dX6_swap_9 rfl (lv_at hl 2 rfl) ?_
    refine kc_i (va_runV (As := [.int (b)]) (rest := []) hF (c_X6_isLot l G h ad rf rl rw S wr b (by omega)) (cwV 1 hts gX6_swap_X6_isLot rfl rfl rfl (by decide +kernel) ⟨Nat.le_of_ble_eq_true rfl, Nat.le_of_ble_eq_true rfl⟩) (kPreV hE hS hV 0 rfl rfl) rfl rfl hl.1 rfl (lv_room (Nat.le_of_ble_eq_true rfl)) dX6_swap_10 ⟨Nat.le_of_ble_eq_true rfl, Nat.le_of_ble_eq_true rfl⟩) hS (fun r_15 u_14 H locs hp_13 hV hS => ?_)
    subst hp_13
    have hV : kV G (kM G h ad rf rl rw S ++ wr) H := hV
    refine kb_if_eq (tgt := 20) hx hb dX6_swap_13 (by decide) (fun c13 => ?_) (fun c13 => ?_)
    · refine lv_iconst (v := nI 0) hx hb dX6_swap_20 (by decide) ?_
      refine W.eq (g2 := F0 m 21 ls [.int (nI (kb (isIn a (S.1 15 0) ∧ isIn b (S.1 15 0))))]) (by rw [kb_f (fun z => c13 z.2)]) ?_
      exact J21  _ _ hV hS ls (lv_sub hl [0, 1, 2] rfl)
    · refine lv_iconst (v := nI 1) hx hb dX6_swap_16 (by decide) ?_
      refine lv_goto (tgt := 21) hx hb dX6_swap_17 (by decide) ?_
      refine W.eq (g2 := F0 m 21 ls [.int (nI (kb (isIn a (S.1 15 0) ∧ isIn b (S.1 15 0))))]) (by rw [kb_t (⟨c5, c13⟩)]) ?_
      exact J21  _ _ hV hS ls (lv_sub hl [0, 1, 2] rfl)
set_option maxHeartbeats 4000000 in
set_option maxRecDepth 100000 in
theorem c_X6_left (l : Launch) (G : kG) (h : Nat) (ad : Nat → Nat) (rf : Nat) (rl : Nat) (rw : Nat) (S : kS) (wr : va_W) (a : Int32) (hI : kInv S) : Met l yX6_left wsX6_left ({ frames := 2, cells := 0, slots := 0, locals := 43 } : Room) (kPc G [.ref (h), .int (a)] (kM G h ad rf rl rw S ++ wr)) (kQi G (S := Nat × Nat) (fun q _ => q = (opLeft S a).2.1) (fun uu => kM G h ad ((opLeft S a).1) uu.1 uu.2 ((opLeft S a).2.2) ++ wr)) 0 0 (kA G) := by
  refine Met.ofW (cc := cX6_left) (maxL := 2) (ret := (some .int)) (by decide) rfl ?_
  intro pp ee s m args below meth cc0 s₁ B hml hv
  obtain ⟨rfl, hE, hV⟩ := hv
  have hK := hE.1
  have hx := B.exec
  have hb := B.bytes
  have hrt := B.returns
  have hts := atoms_spec (ws := wsX6_left) B.pre
  have hown : s.vm.findClass RX6 = some m.cls := findClass_of_methodNamed B.named
  have hlocks := B.notSynchronized
  have hF : CallFix pp m cc0 cX6_left 2 s _ wsX6_left RX6 := ⟨hx, hb, hml, hown, hts⟩
  have hinX6 : ∀ w ∈ wsX60, w ∈ wsX6_left := tb_of [16, 17, 18, 19, 20, 21, 22, 23, 24, 25, 26, 27, 28, 29, 30, 31, 32, 33, 34, 35, 36, 37, 38, 39, 40, 41] rfl
  have hS : va_S (kA G) s.heap s.heap [] := va_S.rf
  have hB0 := hE.2.1
  have hl := lv_entry ([.ref (h), .int (a)]) (n := 2) (Nat.le_of_ble_eq_true rfl)
  rw [lg_entry_eq]
  generalize (lg_sl ([.ref (h), .int (a)]) ++ List.replicate (2 - (lg_sl ([.ref (h), .int (a)])).length) Slot.unset).toArray = ls at hl ⊢
  have hl : lv_has ls 2 [(0, .ref (h)), (1, .int (a))] := hl
  obtain ⟨⟨hnp, hnl, hnj, hpu⟩, hIP, hIQ, hIL, hIJ, hIK, hIO⟩ := id hI
  refine lv_aload_n hx hb dX6_left_0 rfl (lv_at hl 0 rfl) ?_
  refine lv_aload_n hx hb dX6_left_1 rfl (lv_at hl 0 rfl) ?_
  refine lv_iload_n hx hb dX6_left_2 rfl (lv_at hl 1 rfl) ?_
  refine kc_i (va_runV (As := [.int (a)]) (rest := [.ref (h)]) hF (c_X6_isLot l G h ad rf rl rw S wr a (by omega)) (cwV 1 hts gX6_left_X6_isLot rfl rfl rfl (by decide +kernel) ⟨Nat.le_of_ble_eq_true rfl, Nat.le_of_ble_eq_true rfl⟩) (kPreV hE hS hV 0 rfl rfl) rfl rfl hl.1 rfl (lv_room (Nat.le_of_ble_eq_true rfl)) dX6_left_3 ⟨Nat.le_of_ble_eq_true rfl, Nat.le_of_ble_eq_true rfl⟩) hS (fun r_3 u_2 H locs hp_1 hV hS => ?_)
  subst hp_1
  have hV : kV G (kM G h ad rf rl rw S ++ wr) H := hV
  refine kb_if_eq (tgt := 13) hx hb dX6_left_6 (by decide) (fun c6 => ?_) (fun c6 => ?_)
  · refine lv_iconst (v := nI 1) hx hb dX6_left_13 (by decide) ?_
    refine kc_i (va_runV (As := [.int (nI (1))]) (rest := []) hF (c_X6_refused l G h ad rf rl rw S wr 1 (by omega)) (cwV 1 hts gX6_left_X6_refused rfl rfl rfl (by decide +kernel) ⟨Nat.le_of_ble_eq_true rfl, Nat.le_of_ble_eq_true rfl⟩) (kPreV hE hS hV 0 rfl rfl) rfl rfl hl.1 rfl (lv_room (Nat.le_of_ble_eq_true rfl)) dX6_left_14 ⟨Nat.le_of_ble_eq_true rfl, Nat.le_of_ble_eq_true rfl⟩) hS (fun r_6 u_5 H locs hp_4 hV hS => ?_)
    subst hp_4
    refine W.eq (g2 := F0 m 17 ls [.int (nI (1))]) (by rw [kb_t (by decide)]) ?_
    have hV : kV G (kM G h ad 1 rl rw S ++ wr) H := hV
    refine kn_if_eq_not hx hb (by decide) dX6_left_17 ?_ 24 (by decide)
    refine lv_iconst (v := nI 0) hx hb dX6_left_20 (by decide) ?_
    refine lv_goto (tgt := 30) hx hb dX6_left_21 (by decide) ?_
    have hop : opLeft S a = (1, nI 0, S) := by
      unfold opLeft
      rw [kif_t c6] <;> rfl
    exact W.iret (v := nI 0) hx hb hrt (fun t ht hW => ⟨⟨_, (rl, rw), rfl, by rw [hop], kV_eq ht (by rw [hop]; exact hV)⟩, hS.F ht⟩) hS.2.2 dX6_left_30
  · refine lv_iconst (v := nI 0) hx hb dX6_left_9 (by decide) ?_
    refine lv_goto (tgt := 14) hx hb dX6_left_10 (by decide) ?_
    refine kc_i (va_runV (As := [.int (nI (0))]) (rest := []) hF (c_X6_refused l G h ad rf rl rw S wr 0 (by omega)) (cwV 1 hts gX6_left_X6_refused rfl rfl rfl (by decide +kernel) ⟨Nat.le_of_ble_eq_true rfl, Nat.le_of_ble_eq_true rfl⟩) (kPreV hE hS hV 0 rfl rfl) rfl rfl hl.1 rfl (lv_room (Nat.le_of_ble_eq_true rfl)) dX6_left_14 ⟨Nat.le_of_ble_eq_true rfl, Nat.le_of_ble_eq_true rfl⟩) hS (fun r_9 u_8 H locs hp_7 hV hS => ?_)
    subst hp_7
    refine W.eq (g2 := F0 m 17 ls [.int (nI (0))]) (by rw [kb_f (by decide)]) ?_
    have hV : kV G (kM G h ad 0 rl rw S ++ wr) H := hV
    refine kn_if_eq_lit (tgt := 24) hx hb (by decide) dX6_left_17 (by decide) ?_
    obtain ⟨ja, hja, rfl⟩ := id c6
    have ta : tn (nI ja) = ja := tn_nI (by omega)
    refine lv_aload_n hx hb dX6_left_24 rfl (lv_at hl 0 rfl) ?_
    refine va_get (D := kD G) (ci := 7) (v := .ref (ad 18)) (C := RX6) (T := TX6) (N := 26) hx hb hts hinX6 hown hK hV.1 0 rfl rfl 18 (by decide) (hts (Cond.fieldLink RX6 53 "YarncourtModel" "yarns" "[I") (List.mem_of_getElem? (i := 1) rfl)) (fun _ h9 => h9) rfl dX6_left_25 ?_
    refine lv_iload_n hx hb dX6_left_28 rfl (lv_at hl 1 rfl) ?_
    refine kn_iald (G := G) (n := 20) (g := S.1 18) (j := ja) hx hb hK hV 15 rfl (by omega) (by decide) dX6_left_29 ?_
    have hop : opLeft S (nI ja) = (0, nI (S.1 18 ja), S) := by
      unfold opLeft
      rw [kif_f (fun z => z (isIn_nI hja)), ta] <;> rfl
    exact W.iret (v := nI (S.1 18 ja)) hx hb hrt (fun t ht hW => ⟨⟨_, (rl, rw), rfl, by rw [hop], kV_eq ht (by rw [hop]; exact hV)⟩, hS.F ht⟩) hS.2.2 dX6_left_30
