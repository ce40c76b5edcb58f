set_option maxHeartbeats 4000000 in
set_option maxRecDepth 100000 in
theorem c_X6_stitchOf (l : Launch) (G : kG) (h : Nat) (ad : Nat → Nat) (rf : Nat) (rl : Nat) (rw : Nat) (S : kS) (wr : va_W) (p : Nat) (r : Nat) (c : Nat) (hp : p < 16) (hok : okP S p) (hrr : r < pRows S p) (hc : c < 2 ^ 31) : Met l yX6_stitchOf wsX6_stitchOf ({ frames := 1, cells := 0, slots := 0, locals := 25 } : Room) (kPc G [.ref (h), .int (nI (p)), .int (nI (r)), .int (nI (c))] (kM G h ad rf rl rw S ++ wr)) (kQi G (S := Unit) (fun q _ => q = nI (pSt S p r c)) (fun _ => kM G h ad rf (pL S p r) (pW S p r) S ++ wr)) 0 0 (kA G) := by
  refine Met.ofW (cc := cX6_stitchOf) (maxL := 4) (ret := (some .int)) (by decide) rfl ?_
  intro pp ee s m args below meth cc0 s₁ B hml hv
  obtain ⟨rfl, hE, hV⟩ := hv
  have hK := hE.1
  have hx := B.exec
  have hb := B.bytes
  have hrt := B.returns
  have hts := atoms_spec (ws := wsX6_stitchOf) B.pre
  have hown : s.vm.findClass RX6 = some m.cls := findClass_of_methodNamed B.named
  have hlocks := B.notSynchronized
  have hF : CallFix pp m cc0 cX6_stitchOf 4 s _ wsX6_stitchOf RX6 := ⟨hx, hb, hml, hown, hts⟩
  have hS : va_S (kA G) s.heap s.heap [] := va_S.rf
  have hB0 := hE.2.1
  have hl := lv_entry ([.ref (h), .int (nI (p)), .int (nI (r)), .int (nI (c))]) (n := 4) (Nat.le_of_ble_eq_true rfl)
  rw [lg_entry_eq]
  generalize (lg_sl ([.ref (h), .int (nI (p)), .int (nI (r)), .int (nI (c))]) ++ List.replicate (4 - (lg_sl ([.ref (h), .int (nI (p)), .int (nI (r)), .int (nI (c))])).length) Slot.unset).toArray = ls at hl ⊢
  have hl : lv_has ls 4 [(0, .ref (h)), (1, .int (nI (p))), (2, .int (nI (r))), (3, .int (nI (c)))] := hl
  obtain ⟨k, hk, eL⟩ := pL_at hok hrr
  have hw := pW_in hok r
  have hz := hok.2.2.2.2 k hk
  rw [← eL] at hz
  have h6 := hok.1
  refine lv_aload_n hx hb dX6_stitchOf_0 rfl (lv_at hl 0 rfl) ?_
  refine lv_iload_n hx hb dX6_stitchOf_1 rfl (lv_at hl 1 rfl) ?_
  refine lv_iload_n hx hb dX6_stitchOf_2 rfl (lv_at hl 2 rfl) ?_
  refine kc_v (va_runV (As := [.int (nI (p)), .int (nI (r))]) (rest := []) hF (c_X6_goTo l G h ad rf rl rw S wr p r (by omega) (by omega) (by omega)) (cwV 2 hts gX6_stitchOf_X6_goTo rfl rfl rfl (by decide +kernel) ⟨Nat.le_of_ble_eq_true rfl, Nat.le_of_ble_eq_true rfl⟩) (kPreV hE hS hV 0 rfl rfl) rfl rfl hl.1 rfl (lv_room (Nat.le_of_ble_eq_true rfl)) dX6_stitchOf_3 ⟨Nat.le_of_ble_eq_true rfl, Nat.le_of_ble_eq_true rfl⟩) hS (fun u_2 H locs hp_1 hV hS => ?_)
  have hV : kV G (kM G h ad rf (pL S p r) (pW S p r) S ++ wr) H := hV
  refine lv_aload_n hx hb dX6_stitchOf_6 rfl (lv_at hl 0 rfl) ?_
  refine lv_iload_n hx hb dX6_stitchOf_7 rfl (lv_at hl 3 rfl) ?_
  refine kc_i (va_runV (As := [.int (nI (c))]) (rest := []) hF (c_X6_stitchAt l G h ad rf (pL S p r) (pW S p r) S wr c (by omega) (by omega) (by omega) (by omega) (by omega) (by omega)) (cwV 1 hts gX6_stitchOf_X6_stitchAt rfl rfl rfl (by decide +kernel) ⟨Nat.le_of_ble_eq_true rfl, Nat.le_of_ble_eq_true rfl⟩) (kPreV hE hS hV 0 rfl rfl) rfl rfl hl.1 rfl (lv_room (Nat.le_of_ble_eq_true rfl)) dX6_stitchOf_8 ⟨Nat.le_of_ble_eq_true rfl, Nat.le_of_ble_eq_true rfl⟩) hS (fun r_6 u_5 H locs hp_4 hV hS => ?_)
  subst hp_4
  have hV : kV G (kM G h ad rf (pL S p r) (pW S p r) S ++ wr) H := hV
  exact W.iret (v := nI (stV (S.1 6 (pL S p r)) (S.1 7 (pL S p r)) (pW S p r) c)) hx hb hrt (fun t ht hW => ⟨⟨_, (), rfl, rfl, kV_eq ht hV⟩, hS.F ht⟩) hS.2.2 dX6_stitchOf_11
set_option maxHeartbeats 4000000 in
set_option maxRecDepth 100000 in
theorem c_X6_areAlike (l : Launch) (G : kG) (h : Nat) (ad : Nat → Nat) (rf : Nat) (rl : Nat) (rw : Nat) (S : kS) (wr : va_W) (a : Nat) (b : Nat) (ha : a < 16) (hbb : b < 16) (hoa : okP S a) (hob : okP S b) : Met l yX6_areAlike wsX6_areAlike ({ frames := 2, cells := 0, slots := 0, locals := 48 } : Room) (kPc G [.ref (h), .int (nI (a)), .int (nI (b))] (kM G h ad rf rl rw S ++ wr)) (kQi G (S := Nat × Nat) (fun q _ => q = nI (kb (pAlike S a b))) (fun u => kM G h ad rf u.1 u.2 S ++ wr)) 0 0 (kA G) := by
  refine Met.ofW (cc := cX6_areAlike) (maxL := 6) (ret := (some .boolean)) (by decide) rfl ?_
  intro pp ee s m args below meth cc0 s₁ B hml hv
  obtain ⟨rfl, hE, hV⟩ := hv
  have hK := hE.1
  have hx := B.exec
  have hb := B.bytes
  have hrt := B.returns
  have hts := atoms_spec (ws := wsX6_areAlike) B.pre
  have hown : s.vm.findClass RX6 = some m.cls := findClass_of_methodNamed B.named
  have hlocks := B.notSynchronized
  have hF : CallFix pp m cc0 cX6_areAlike 6 s _ wsX6_areAlike RX6 := ⟨hx, hb, hml, hown, hts⟩
  have hS : va_S (kA G) s.heap s.heap [] := va_S.rf
  have hB0 := hE.2.1
  have hl := lv_entry ([.ref (h), .int (nI (a)), .int (nI (b))]) (n := 6) (Nat.le_of_ble_eq_true rfl)
  rw [lg_entry_eq]
  generalize (lg_sl ([.ref (h), .int (nI (a)), .int (nI (b))]) ++ List.replicate (6 - (lg_sl ([.ref (h), .int (nI (a)), .int (nI (b))])).length) Slot.unset).toArray = ls at hl ⊢
  have hl : lv_has ls 6 [(0, .ref (h)), (1, .int (nI (a))), (2, .int (nI (b)))] := hl
  have h40a := hoa.2.2.2.1
  have h40b := hob.2.2.2.1
  have h6a := hoa.1
  have h6b := hob.1
  have L22 : ∀ (nL22 : Nat) (i : Nat) (rl1 : Nat) (rw1 : Nat) (hi : i ≤ pRows S a) (hmL22 : pRows S a - i < nL22) (H : Heap) (locs : List Loc), kV G (kM G h ad rf rl1 rw1 S ++ wr) H → va_S (kA G) s.heap H locs → ∀ (ls : Array Slot), lv_has ls 6 [(0, .ref (h)), (1, .int (nI (a))), (2, .int (nI (b))), (3, .int (nI (kb (pAl S a b i 0)))), (4, .int (nI (i)))] → W pp l ee (headSpec wsX6_areAlike ({ frames := 2, cells := 0, slots := 0, locals := 48 } : Room)).room s m [.ref (h), .int (nI (a)), .int (nI (b))].toArray below meth cc0 H locs 0 0 (MQ below (kQi G (S := Nat × Nat) (fun q _ => q = nI (kb (pAlike S a b))) (fun u => kM G h ad rf u.1 u.2 S ++ wr)) [.ref (h), .int (nI (a)), .int (nI (b))].toArray s 0 0 (kA G)) (F0 m 22 ls []) := by
    intro nL22
    induction nL22 with
    | zero => intro i rl1 rw1 hi hmL22; exact absurd hmL22 (Nat.not_lt_zero _)
    | succ nL22 ihL22 =>
      intro i rl1 rw1 hi hmL22 H locs hV hS ls hl
      refine lv_iload_n hx hb dX6_areAlike_22 rfl (lv_at hl 3 rfl) ?_
      refine kb_if_eq (tgt := 89) hx hb dX6_areAlike_23 (by decide) (fun c23 => ?_) (fun c23 => ?_)
      · refine lv_iload_n hx hb dX6_areAlike_89 rfl (lv_at hl 3 rfl) ?_
        exact W.zret (v := nI (kb (pAl S a b i 0))) hx hb hrt (kb_nar _) (fun t ht hW => ⟨⟨_, (rl1, rw1), rfl, by rw [kb_f c23, kb_f (fun z => c23 (pAl_of hi z))], kV_eq ht hV⟩, hS.F ht⟩) hS.2.2 dX6_areAlike_90
      · refine lv_iload hx hb dX6_areAlike_26 (lv_at hl 4 rfl) ?_
        refine lv_aload_n hx hb dX6_areAlike_28 rfl (lv_at hl 0 rfl) ?_
        refine lv_iload_n hx hb dX6_areAlike_29 rfl (lv_at hl 1 rfl) ?_
        refine kc_i (va_runV (As := [.int (nI (a))]) (rest := [.int (nI (i))]) hF (c_X6_rowsOf l G h ad rf rl1 rw1 S wr a (by omega) (by omega)) (cwV 1 hts gX6_areAlike_X6_rowsOf rfl rfl rfl (by decide +kernel) ⟨Nat.le_of_ble_eq_true rfl, Nat.le_of_ble_eq_true rfl⟩) (kPreV hE hS hV 0 rfl rfl) rfl rfl hl.1 rfl (lv_room (Nat.le_of_ble_eq_true rfl)) dX6_areAlike_30 ⟨Nat.le_of_ble_eq_true rfl, Nat.le_of_ble_eq_true rfl⟩) hS (fun r_3 u_2 H locs hp_1 hV hS => ?_)
        subst hp_1
        have hV : kV G (kM G h ad rf rl1 rw1 S ++ wr) H := hV
        refine kn_ge (tgt := 89) hx hb (by omega) (by omega) dX6_areAlike_33 (by decide) (fun c33 => ?_) (fun c33 => ?_)
        · refine lv_iload_n hx hb dX6_areAlike_89 rfl (lv_at hl 3 rfl) ?_
          exact W.zret (v := nI (kb (pAl S a b i 0))) hx hb hrt (kb_nar _) (fun t ht hW => ⟨⟨_, (rl1, rw1), rfl, by rw [show i = pRows S a from by omega, propext pAl_end], kV_eq ht hV⟩, hS.F ht⟩) hS.2.2 dX6_areAlike_90
        · refine lv_iconst (v := nI 0) hx hb dX6_areAlike_36 (by decide) ?_
          refine lv_istore (lv' := [(5, .int (nI (0))), (0, .ref (h)), (1, .int (nI (a))), (2, .int (nI (b))), (3, .int (nI (kb (pAl S a b i 0)))), (4, .int (nI (i)))]) hx hb dX6_areAlike_37 hl (by decide) rfl (fun ls hl => ?_)
          have L39 : ∀ (nL39 : Nat) (j : Nat) (rl2 : Nat) (rw2 : Nat) (hj : j ≤ 40) (hi2 : i < pRows S a) (hmL39 : 40 - j < nL39) (H : Heap) (locs : List Loc), kV G (kM G h ad rf rl2 rw2 S ++ wr) H → va_S (kA G) s.heap H locs → ∀ (ls : Array Slot), lv_has ls 6 [(0, .ref (h)), (1, .int (nI (a))), (2, .int (nI (b))), (3, .int (nI (kb (pAl S a b i j)))), (4, .int (nI (i))), (5, .int (nI (j)))] → W pp l ee (headSpec wsX6_areAlike ({ frames := 2, cells := 0, slots := 0, locals := 48 } : Room)).room s m [.ref (h), .int (nI (a)), .int (nI (b))].toArray below meth cc0 H locs 0 0 (MQ below (kQi G (S := Nat × Nat) (fun q _ => q = nI (kb (pAlike S a b))) (fun u => kM G h ad rf u.1 u.2 S ++ wr)) [.ref (h), .int (nI (a)), .int (nI (b))].toArray s 0 0 (kA G)) (F0 m 39 ls []) := by
            intro nL39
            induction nL39 with
            | zero => intro j rl2 rw2 hj hi2 hmL39; exact absurd hmL39 (Nat.not_lt_zero _)
            | succ nL39 ihL39 =>
              intro j rl2 rw2 hj hi2 hmL39 H locs hV hS ls hl
              refine lv_iload_n hx hb dX6_areAlike_39 rfl (lv_at hl 3 rfl) ?_
              refine kb_if_eq (tgt := 83) hx hb dX6_areAlike_40 (by decide) (fun c40 => ?_) (fun c40 => ?_)
              · refine lv_iinc (lv' := [(4, .int (nI (i + 1))), (0, .ref (h)), (1, .int (nI (a))), (2, .int (nI (b))), (3, .int (nI (kb (pAl S a b i j)))), (5, .int (nI (j)))]) hx hb dX6_areAlike_83 hl (k := 4) rfl (kn_iinc i 1) (by decide) rfl (fun ls hl => ?_)
                refine lv_goto (tgt := 22) hx hb dX6_areAlike_86 (by decide) ?_
                exact ihL22 (i + 1) rl2 rw2 (by omega) (by omega) _ _ hV hS ls (by rw [show kb (pAl S a b (i + 1) 0) = kb (pAl S a b i j) from by rw [kb_f c40, kb_f (fun z => c40 (pAl_le (by omega) (pAl_row.mp z)))]]; exact lv_sub hl [1, 2, 3, 4, 0] rfl)
              · refine lv_iload hx hb dX6_areAlike_43 (lv_at hl 5 rfl) ?_
                refine lv_bipush (v := nI 40) hx hb dX6_areAlike_45 (by decide) ?_
                refine kn_ge (tgt := 83) hx hb (by omega) (by decide) dX6_areAlike_47 (by decide) (fun c47 => ?_) (fun c47 => ?_)
                · refine lv_iinc (lv' := [(4, .int (nI (i + 1))), (0, .ref (h)), (1, .int (nI (a))), (2, .int (nI (b))), (3, .int (nI (kb (pAl S a b i j)))), (5, .int (nI (j)))]) hx hb dX6_areAlike_83 hl (k := 4) rfl (kn_iinc i 1) (by decide) rfl (fun ls hl => ?_)
                  refine lv_goto (tgt := 22) hx hb dX6_areAlike_86 (by decide) ?_
                  exact ihL22 (i + 1) rl2 rw2 (by omega) (by omega) _ _ hV hS ls (by rw [show kb (pAl S a b (i + 1) 0) = kb (pAl S a b i j) from by rw [show j = 40 from by omega, propext pAl_row]]; exact lv_sub hl [1, 2, 3, 4, 0] rfl)
                · have h9 := c40.1
                  refine lv_aload_n hx hb dX6_areAlike_50 rfl (lv_at hl 0 rfl) ?_
                  refine lv_iload_n hx hb dX6_areAlike_51 rfl (lv_at hl 1 rfl) ?_
                  refine lv_iload hx hb dX6_areAlike_52 (lv_at hl 4 rfl) ?_
                  refine lv_iload hx hb dX6_areAlike_54 (lv_at hl 5 rfl) ?_
                  refine kc_i (va_runV (As := [.int (nI (a)), .int (nI (i)), .int (nI (j))]) (rest := []) hF (c_X6_stitchOf l G h ad rf rl2 rw2 S wr a i j (by omega) (by omega) (by omega) (by omega)) (cwV 3 hts gX6_areAlike_X6_stitchOf rfl rfl rfl (by decide +kernel) ⟨Nat.le_of_ble_eq_true rfl, Nat.le_of_ble_eq_true rfl⟩) (kPreV hE hS hV 0 rfl rfl) rfl rfl hl.1 rfl (lv_room (Nat.le_of_ble_eq_true rfl)) dX6_areAlike_56 ⟨Nat.le_of_ble_eq_true rfl, Nat.le_of_ble_eq_true rfl⟩) hS (fun r_6 u_5 H locs hp_4 hV hS => ?_)
                  subst hp_4
                  have hV : kV G (kM G h ad rf (pL S a i) (pW S a i) S ++ wr) H := hV
                  refine lv_aload_n hx hb dX6_areAlike_59 rfl (lv_at hl 0 rfl) ?_
                  refine lv_iload_n hx hb dX6_areAlike_60 rfl (lv_at hl 2 rfl) ?_
                  refine lv_iload hx hb dX6_areAlike_61 (lv_at hl 4 rfl) ?_
                  refine lv_iload hx hb dX6_areAlike_63 (lv_at hl 5 rfl) ?_
                  refine kc_i (va_runV (As := [.int (nI (b)), .int (nI (i)), .int (nI (j))]) (rest := [.int (nI (pSt S a i j))]) hF (c_X6_stitchOf l G h ad rf (pL S a i) (pW S a i) S wr b i j (by omega) (by omega) (by omega) (by omega)) (cwV 3 hts gX6_areAlike_X6_stitchOf rfl rfl rfl (by decide +kernel) ⟨Nat.le_of_ble_eq_true rfl, Nat.le_of_ble_eq_true rfl⟩) (kPreV hE hS hV 0 rfl rfl) rfl rfl hl.1 rfl (lv_room (Nat.le_of_ble_eq_true rfl)) dX6_areAlike_65 ⟨Nat.le_of_ble_eq_true rfl, Nat.le_of_ble_eq_true rfl⟩) hS (fun r_9 u_8 H locs hp_7 hV hS => ?_)
                  subst hp_7
                  have hV : kV G (kM G h ad rf (pL S b i) (pW S b i) S ++ wr) H := hV
                  have hs1 := pSt_le S a i j
                  have hs2 := pSt_le S b i j
                  refine kn_ne (tgt := 75) hx hb (by omega) (by omega) dX6_areAlike_68 (by decide) (fun c68 => ?_) (fun c68 => ?_)
                  · refine lv_iconst (v := nI 0) hx hb dX6_areAlike_75 (by decide) ?_
                    refine lv_istore_n (lv' := [(3, .int (nI (0))), (0, .ref (h)), (1, .int (nI (a))), (2, .int (nI (b))), (4, .int (nI (i))), (5, .int (nI (j)))]) hx hb dX6_areAlike_76 rfl hl (by decide) rfl (fun ls hl => ?_)
                    refine lv_iinc (lv' := [(5, .int (nI (j + 1))), (3, .int (nI (0))), (0, .ref (h)), (1, .int (nI (a))), (2, .int (nI (b))), (4, .int (nI (i)))]) hx hb dX6_areAlike_77 hl (k := 5) rfl (kn_iinc j 1) (by decide) rfl (fun ls hl => ?_)
                    refine lv_goto (tgt := 39) hx hb dX6_areAlike_80 (by decide) ?_
                    exact ihL39 (j + 1) (pL S b i) (pW S b i) (by omega) (by omega) (by omega) _ _ hV hS ls (by rw [kb_f (fun z => c68 ((pAl_s c40).mp z))]; exact lv_sub hl [2, 3, 4, 1, 5, 0] rfl)
                  · refine lv_iconst (v := nI 1) hx hb dX6_areAlike_71 (by decide) ?_
                    refine lv_goto (tgt := 76) hx hb dX6_areAlike_72 (by decide) ?_
                    refine lv_istore_n (lv' := [(3, .int (nI (1))), (0, .ref (h)), (1, .int (nI (a))), (2, .int (nI (b))), (4, .int (nI (i))), (5, .int (nI (j)))]) hx hb dX6_areAlike_76 rfl hl (by decide) rfl (fun ls hl => ?_)
                    refine lv_iinc (lv' := [(5, .int (nI (j + 1))), (3, .int (nI (1))), (0, .ref (h)), (1, .int (nI (a))), (2, .int (nI (b))), (4, .int (nI (i)))]) hx hb dX6_areAlike_77 hl (k := 5) rfl (kn_iinc j 1) (by decide) rfl (fun ls hl => ?_)
                    refine lv_goto (tgt := 39) hx hb dX6_areAlike_80 (by decide) ?_
                    exact ihL39 (j + 1) (pL S b i) (pW S b i) (by omega) (by omega) (by omega) _ _ hV hS ls (by rw [kb_t ((pAl_s c40).mpr c68)]; exact lv_sub hl [2, 3, 4, 1, 5, 0] rfl)
          exact L39 ((40 - 0) + 1) 0 rl1 rw1 (by omega) (by omega) (Nat.lt_succ_self _) _ _ hV hS ls (lv_sub hl [1, 2, 3, 4, 5, 0] rfl)
  refine lv_aload_n hx hb dX6_areAlike_0 rfl (lv_at hl 0 rfl) ?_
  refine lv_iload_n hx hb dX6_areAlike_1 rfl (lv_at hl 1 rfl) ?_
  refine kc_i (va_runV (As := [.int (nI (a))]) (rest := []) hF (c_X6_rowsOf l G h ad rf rl rw S wr a (by omega) (by omega)) (cwV 1 hts gX6_areAlike_X6_rowsOf rfl rfl rfl (by decide +kernel) ⟨Nat.le_of_ble_eq_true rfl, Nat.le_of_ble_eq_true rfl⟩) (kPreV hE hS hV 0 rfl rfl) rfl rfl hl.1 rfl (lv_room (Nat.le_of_ble_eq_true rfl)) dX6_areAlike_2 ⟨Nat.le_of_ble_eq_true rfl, Nat.le_of_ble_eq_true rfl⟩) hS (fun r_12 u_11 H locs hp_10 hV hS => ?_)
  subst hp_10
  have hV : kV G (kM G h ad rf rl rw S ++ wr) H := hV
  refine lv_aload_n hx hb dX6_areAlike_5 rfl (lv_at hl 0 rfl) ?_
  refine lv_iload_n hx hb dX6_areAlike_6 rfl (lv_at hl 2 rfl) ?_
  refine kc_i (va_runV (As := [.int (nI (b))]) (rest := [.int (nI (pRows S a))]) hF (c_X6_rowsOf l G h ad rf rl rw S wr b (by omega) (by omega)) (cwV 1 hts gX6_areAlike_X6_rowsOf rfl rfl rfl (by decide +kernel) ⟨Nat.le_of_ble_eq_true rfl, Nat.le_of_ble_eq_true rfl⟩) (kPreV hE hS hV 0 rfl rfl) rfl rfl hl.1 rfl (lv_room (Nat.le_of_ble_eq_true rfl)) dX6_areAlike_7 ⟨Nat.le_of_ble_eq_true rfl, Nat.le_of_ble_eq_true rfl⟩) hS (fun r_15 u_14 H locs hp_13 hV hS => ?_)
  subst hp_13
  have hV : kV G (kM G h ad rf rl rw S ++ wr) H := hV
  refine kn_ne (tgt := 17) hx hb (by omega) (by omega) dX6_areAlike_10 (by decide) (fun c10 => ?_) (fun c10 => ?_)
  · refine lv_iconst (v := nI 0) hx hb dX6_areAlike_17 (by decide) ?_
    refine lv_istore_n (lv' := [(3, .int (nI (0))), (0, .ref (h)), (1, .int (nI (a))), (2, .int (nI (b)))]) hx hb dX6_areAlike_18 rfl hl (by decide) rfl (fun ls hl => ?_)
    refine lv_iconst (v := nI 0) hx hb dX6_areAlike_19 (by decide) ?_
    refine lv_istore (lv' := [(4, .int (nI (0))), (3, .int (nI (0))), (0, .ref (h)), (1, .int (nI (a))), (2, .int (nI (b)))]) hx hb dX6_areAlike_20 hl (by decide) rfl (fun ls hl => ?_)
    exact L22 ((pRows S a - 0) + 1) 0 rl rw (by omega) (Nat.lt_succ_self _) _ _ hV hS ls (by rw [kb_f (fun z => c10 (pAl_0.mp z))]; exact lv_sub hl [2, 3, 4, 1, 0] rfl)
  · refine lv_iconst (v := nI 1) hx hb dX6_areAlike_13 (by decide) ?_
    refine lv_goto (tgt := 18) hx hb dX6_areAlike_14 (by decide) ?_
    refine lv_istore_n (lv' := [(3, .int (nI (1))), (0, .ref (h)), (1, .int (nI (a))), (2, .int (nI (b)))]) hx hb dX6_areAlike_18 rfl hl (by decide) rfl (fun ls hl => ?_)
    refine lv_iconst (v := nI 0) hx hb dX6_areAlike_19 (by decide) ?_
    refine lv_istore (lv' := [(4, .int (nI (0))), (3, .int (nI (1))), (0, .ref (h)), (1, .int (nI (a))), (2, .int (nI (b)))]) hx hb dX6_areAlike_20 hl (by decide) rfl (fun ls hl => ?_)
    exact L22 ((pRows S a - 0) + 1) 0 rl rw (by omega) (Nat.lt_succ_self _) _ _ hV hS ls (by rw [kb_t (pAl_0.mpr c10)]; exact lv_sub hl [2, 3, 4, 1, 0] rfl)
set_option maxHeartbeats 4000000 in
set_option maxRecDepth 100000 in
theorem c_X6_originalOf (l : Launch) (G : kG) (h : Nat) (ad : Nat → Nat) (rf : Nat) (rl : Nat) (rw : Nat) (S : kS) (wr : va_W) (p : Nat) (hp : p < S.1 1 0) (hn : S.1 1 0 ≤ 16) (hok : ∀ q, q < S.1 1 0 → okP S q) (ho : ∀ q, q < S.1 1 0 → S.1 10 q < 2 ^ 31) : Met l yX6_originalOf wsX6_originalOf ({ frames := 3, cells := 0, slots := 0, locals := 73 } : Room) (kPc G [.ref (h), .int (nI (p))] (kM G h ad rf rl rw S ++ wr)) (kQi G (S := Nat × Nat) (fun q _ => q = nI (pOrig S p)) (fun u => kM G h ad rf u.1 u.2 S ++ wr)) 0 0 (kA G) := by
  refine Met.ofW (cc := cX6_originalOf) (maxL := 4) (ret := (some .int)) (by decide) rfl ?_
  intro pp ee s m args below meth cc0 s₁ B hml hv
  obtain ⟨rfl, hE, hV⟩ := hv
  have hK := hE.1
  have hx := B.exec
  have hb := B.bytes
  have hrt := B.returns
  have hts := atoms_spec (ws := wsX6_originalOf) B.pre
  have hown : s.vm.findClass RX6 = some m.cls := findClass_of_methodNamed B.named
  have hlocks := B.notSynchronized
  have hF : CallFix pp m cc0 cX6_originalOf 4 s _ wsX6_originalOf RX6 := ⟨hx, hb, hml, hown, hts⟩
  have hinX6 : ∀ w ∈ wsX60, w ∈ wsX6_originalOf := tb_of [32, 33, 34, 35, 36, 37, 38, 39, 40, 41, 42, 43, 44, 45, 46, 47, 48, 49, 50, 51, 52, 53, 54, 55, 56, 57] rfl
  have hS : va_S (kA G) s.heap s.heap [] := va_S.rf
  have hB0 := hE.2.1
  have hl := lv_entry ([.ref (h), .int (nI (p))]) (n := 4) (Nat.le_of_ble_eq_true rfl)
  rw [lg_entry_eq]
  generalize (lg_sl ([.ref (h), .int (nI (p))]) ++ List.replicate (4 - (lg_sl ([.ref (h), .int (nI (p))])).length) Slot.unset).toArray = ls at hl ⊢
  have hl : lv_has ls 4 [(0, .ref (h)), (1, .int (nI (p)))] := hl
  refine lv_iload_n hx hb dX6_originalOf_0 rfl (lv_at hl 1 rfl) ?_
  refine lv_istore_n (lv' := [(2, .int (nI (p))), (0, .ref (h)), (1, .int (nI (p)))]) hx hb dX6_originalOf_1 rfl hl (by decide) rfl (fun ls hl => ?_)
  refine lv_iconst (v := nI 0) hx hb dX6_originalOf_2 (by decide) ?_
  refine lv_istore_n (lv' := [(3, .int (nI (0))), (2, .int (nI (p))), (0, .ref (h)), (1, .int (nI (p)))]) hx hb dX6_originalOf_3 rfl hl (by decide) rfl (fun ls hl => ?_)
  have L4 : ∀ (nL4 : Nat) (k : Nat) (rl1 : Nat) (rw1 : Nat) (hk : k ≤ S.1 1 0) (hmL4 : S.1 1 0 - k < nL4) (H : Heap) (locs : List Loc), kV G (kM G h ad rf rl1 rw1 S ++ wr) H → va_S (kA G) s.heap H locs → ∀ (ls : Array Slot), lv_has ls 4 [(0, .ref (h)), (1, .int (nI (p))), (2, .int (nI (pOrigN S p k))), (3, .int (nI (k)))] → W pp l ee (headSpec wsX6_originalOf ({ frames := 3, cells := 0, slots := 0, locals := 73 } : Room)).room s m [.ref (h), .int (nI (p))].toArray below meth cc0 H locs 0 0 (MQ below (kQi G (S := Nat × Nat) (fun q _ => q = nI (pOrig S p)) (fun u => kM G h ad rf u.1 u.2 S ++ wr)) [.ref (h), .int (nI (p))].toArray s 0 0 (kA G)) (F0 m 4 ls []) := by
    intro nL4
    induction nL4 with
    | zero => intro k rl1 rw1 hk hmL4; exact absurd hmL4 (Nat.not_lt_zero _)
    | succ nL4 ihL4 =>
      intro k rl1 rw1 hk hmL4 H locs hV hS ls hl
      refine lv_iload_n hx hb dX6_originalOf_4 rfl (lv_at hl 3 rfl) ?_
      refine lv_aload_n hx hb dX6_originalOf_5 rfl (lv_at hl 0 rfl) ?_
      refine va_get (D := kD G) (ci := 7) (v := .int (nI (S.1 1 0))) (C := RX6) (T := TX6) (N := 26) hx hb hts hinX6 hown hK hV.1 0 rfl rfl 1 (by decide) (hts (Cond.fieldLink RX6 76 "YarncourtModel" "patterns" "I") (List.mem_of_getElem? (i := 1) rfl)) (fun _ h9 => h9) rfl dX6_originalOf_6 ?_
      refine kn_ge (tgt := 48) hx hb (by omega) (by omega) dX6_originalOf_9 (by decide) (fun c9 => ?_) (fun c9 => ?_)
      · refine lv_iload_n hx hb dX6_originalOf_48 rfl (lv_at hl 2 rfl) ?_
        exact W.iret (v := nI (pOrigN S p k)) hx hb hrt (fun t ht hW => ⟨⟨_, (rl1, rw1), rfl, by rw [show k = S.1 1 0 from by omega]; rfl, kV_eq ht hV⟩, hS.F ht⟩) hS.2.2 dX6_originalOf_49
      · have hb2 := pOrigN_lt (S := S) hp k (by omega)
        have ho1 := ho k (by omega)
        have ho2 := ho _ hb2
        refine lv_aload_n hx hb dX6_originalOf_12 rfl (lv_at hl 0 rfl) ?_
        refine va_get (D := kD G) (ci := 7) (v := .ref (ad 10)) (C := RX6) (T := TX6) (N := 26) hx hb hts hinX6 hown hK hV.1 0 rfl rfl 10 (by decide) (hts (Cond.fieldLink RX6 34 "YarncourtModel" "orders" "[I") (List.mem_of_getElem? (i := 2) rfl)) (fun _ h9 => h9) rfl dX6_originalOf_13 ?_
        refine lv_iload_n hx hb dX6_originalOf_16 rfl (lv_at hl 3 rfl) ?_
        refine kn_iald (G := G) (n := 16) (g := S.1 10) (j := k) hx hb hK hV 9 rfl (by omega) (by decide) dX6_originalOf_17 ?_
        refine lv_aload_n hx hb dX6_originalOf_18 rfl (lv_at hl 0 rfl) ?_
        refine va_get (D := kD G) (ci := 7) (v := .ref (ad 10)) (C := RX6) (T := TX6) (N := 26) hx hb hts hinX6 hown hK hV.1 0 rfl rfl 10 (by decide) (hts (Cond.fieldLink RX6 34 "YarncourtModel" "orders" "[I") (List.mem_of_getElem? (i := 2) rfl)) (fun _ h9 => h9) rfl dX6_originalOf_19 ?_
        refine lv_iload_n hx hb dX6_originalOf_22 rfl (lv_at hl 2 rfl) ?_
        refine kn_iald (G := G) (n := 16) (g := S.1 10) (j := pOrigN S p k) hx hb hK hV 9 rfl (by omega) (by decide) dX6_originalOf_23 ?_
        refine kn_ge (tgt := 40) hx hb (by omega) (by omega) dX6_originalOf_24 (by decide) (fun c24 => ?_) (fun c24 => ?_)
        · refine lv_iload_n hx hb dX6_originalOf_40 rfl (lv_at hl 2 rfl) ?_
          refine lv_istore_n (lv' := [(2, .int (nI (pOrigN S p k))), (0, .ref (h)), (1, .int (nI (p))), (3, .int (nI (k)))]) hx hb dX6_originalOf_41 rfl hl (by decide) rfl (fun ls hl => ?_)
          refine lv_iinc (lv' := [(3, .int (nI (k + 1))), (2, .int (nI (pOrigN S p k))), (0, .ref (h)), (1, .int (nI (p)))]) hx hb dX6_originalOf_42 hl (k := 3) rfl (kn_iinc k 1) (by decide) rfl (fun ls hl => ?_)
          refine lv_goto (tgt := 4) hx hb dX6_originalOf_45 (by decide) ?_
          exact ihL4 (k + 1) rl1 rw1 (by omega) (by omega) _ _ hV hS ls (by rw [show pOrigN S p (k + 1) = pOrigN S p k from kif_f (fun z => absurd z.1 (by omega))]; exact lv_sub hl [2, 3, 1, 0] rfl)
        · refine lv_aload_n hx hb dX6_originalOf_27 rfl (lv_at hl 0 rfl) ?_
          refine lv_iload_n hx hb dX6_originalOf_28 rfl (lv_at hl 3 rfl) ?_
          refine lv_iload_n hx hb dX6_originalOf_29 rfl (lv_at hl 1 rfl) ?_
          refine kc_i (va_runV (As := [.int (nI (k)), .int (nI (p))]) (rest := []) hF (c_X6_areAlike l G h ad rf rl1 rw1 S wr k p (by omega) (by omega) (hok k (by omega)) (hok p hp)) (cwV 2 hts gX6_originalOf_X6_areAlike rfl rfl rfl (by decide +kernel) ⟨Nat.le_of_ble_eq_true rfl, Nat.le_of_ble_eq_true rfl⟩) (kPreV hE hS hV 0 rfl rfl) rfl rfl hl.1 rfl (lv_room (Nat.le_of_ble_eq_true rfl)) dX6_originalOf_30 ⟨Nat.le_of_ble_eq_true rfl, Nat.le_of_ble_eq_true rfl⟩) hS (fun r_3 u_2 H locs hp_1 hV hS => ?_)
          subst hp_1
          have hV : kV G (kM G h ad rf u_2.1 u_2.2 S ++ wr) H := hV
          refine kb_if_eq (tgt := 40) hx hb dX6_originalOf_33 (by decide) (fun c33 => ?_) (fun c33 => ?_)
          · refine lv_iload_n hx hb dX6_originalOf_40 rfl (lv_at hl 2 rfl) ?_
            refine lv_istore_n (lv' := [(2, .int (nI (pOrigN S p k))), (0, .ref (h)), (1, .int (nI (p))), (3, .int (nI (k)))]) hx hb dX6_originalOf_41 rfl hl (by decide) rfl (fun ls hl => ?_)
            refine lv_iinc (lv' := [(3, .int (nI (k + 1))), (2, .int (nI (pOrigN S p k))), (0, .ref (h)), (1, .int (nI (p)))]) hx hb dX6_originalOf_42 hl (k := 3) rfl (kn_iinc k 1) (by decide) rfl (fun ls hl => ?_)
            refine lv_goto (tgt := 4) hx hb dX6_originalOf_45 (by decide) ?_
            exact ihL4 (k + 1) u_2.1 u_2.2 (by omega) (by omega) _ _ hV hS ls (by rw [show pOrigN S p (k + 1) = pOrigN S p k from kif_f (fun z => c33 z.2)]; exact lv_sub hl [2, 3, 1, 0] rfl)
          · refine lv_iload_n hx hb dX6_originalOf_36 rfl (lv_at hl 3 rfl) ?_
            refine lv_goto (tgt := 41) hx hb dX6_originalOf_37 (by decide) ?_
            refine lv_istore_n (lv' := [(2, .int (nI (k))), (0, .ref (h)), (1, .int (nI (p))), (3, .int (nI (k)))]) hx hb dX6_originalOf_41 rfl hl (by decide) rfl (fun ls hl => ?_)
            refine lv_iinc (lv' := [(3, .int (nI (k + 1))), (2, .int (nI (k))), (0, .ref (h)), (1, .int (nI (p)))]) hx hb dX6_originalOf_42 hl (k := 3) rfl (kn_iinc k 1) (by decide) rfl (fun ls hl => ?_)
            refine lv_goto (tgt := 4) hx hb dX6_originalOf_45 (by decide) ?_
            exact ihL4 (k + 1) u_2.1 u_2.2 (by omega) (by omega) _ _ hV hS ls (by rw [show pOrigN S p (k + 1) = k from kif_t ⟨c24, c33⟩]; exact lv_sub hl [2, 3, 1, 0] rfl)
  exact L4 ((S.1 1 0 - 0) + 1) 0 rl rw (by omega) (Nat.lt_succ_self _) _ _ hV hS ls (lv_sub hl [2, 3, 1, 0] rfl)
set_option maxHeartbeats 4000000 in
set_option maxRecDepth 100000 in
theorem c_X6_noPattern (l : Launch) (G : kG) (h : Nat) (ad : Nat → Nat) (rf : Nat) (rl : Nat) (rw : Nat) (S : kS) (wr : va_W) (v : Int32) (hn : S.1 1 0 < 2 ^ 31) : Met l yX6_noPattern wsX6_noPattern ({ frames := 2, cells := 0, slots := 0, locals := 43 } : Room) (kPc G [.ref (h), .int (v)] (kM G h ad rf rl rw S ++ wr)) (kQi G (S := Unit) (fun q _ => q = nI (kb (¬ isIn v (S.1 1 0)))) (fun _ => kM G h ad (kb (¬ isIn v (S.1 1 0))) rl rw S ++ wr)) 0 0 (kA G) := by
  refine Met.ofW (cc := cX6_noPattern) (maxL := 2) (ret := (some .boolean)) (by decide) rfl ?_
  intro pp ee s m args below meth cc0 s₁ B hml hv
  obtain ⟨rfl, hE, hV⟩ := hv
  have hK := hE.1
  have hx := B.exec
  have hb := B.bytes
  have hrt := B.returns
  have hts := atoms_spec (ws := wsX6_noPattern) B.pre
  have hown : s.vm.findClass RX6 = some m.cls := findClass_of_methodNamed B.named
  have hlocks := B.notSynchronized
  have hF : CallFix pp m cc0 cX6_noPattern 2 s _ wsX6_noPattern RX6 := ⟨hx, hb, hml, hown, hts⟩
  have hS : va_S (kA G) s.heap s.heap [] := va_S.rf
  have hB0 := hE.2.1
  have hl := lv_entry ([.ref (h), .int (v)]) (n := 2) (Nat.le_of_ble_eq_true rfl)
  rw [lg_entry_eq]
  generalize (lg_sl ([.ref (h), .int (v)]) ++ List.replicate (2 - (lg_sl ([.ref (h), .int (v)])).length) Slot.unset).toArray = ls at hl ⊢
  have hl : lv_has ls 2 [(0, .ref (h)), (1, .int (v))] := hl
  refine lv_aload_n hx hb dX6_noPattern_0 rfl (lv_at hl 0 rfl) ?_
  refine lv_aload_n hx hb dX6_noPattern_1 rfl (lv_at hl 0 rfl) ?_
  refine lv_iload_n hx hb dX6_noPattern_2 rfl (lv_at hl 1 rfl) ?_
  refine kc_i (va_runV (As := [.int (v)]) (rest := [.ref (h)]) hF (c_X6_isPattern l G h ad rf rl rw S wr v (by omega)) (cwV 1 hts gX6_noPattern_X6_isPattern rfl rfl rfl (by decide +kernel) ⟨Nat.le_of_ble_eq_true rfl, Nat.le_of_ble_eq_true rfl⟩) (kPreV hE hS hV 0 rfl rfl) rfl rfl hl.1 rfl (lv_room (Nat.le_of_ble_eq_true rfl)) dX6_noPattern_3 ⟨Nat.le_of_ble_eq_true rfl, Nat.le_of_ble_eq_true rfl⟩) hS (fun r_3 u_2 H locs hp_1 hV hS => ?_)
  subst hp_1
  have hV : kV G (kM G h ad rf rl rw S ++ wr) H := hV
  refine kb_if_eq (tgt := 13) hx hb dX6_noPattern_6 (by decide) (fun c6 => ?_) (fun c6 => ?_)
  · refine lv_iconst (v := nI 1) hx hb dX6_noPattern_13 (by decide) ?_
    refine kc_i (va_runV (As := [.int (nI (1))]) (rest := []) hF (c_X6_refused l G h ad rf rl rw S wr 1 (by omega)) (cwV 1 hts gX6_noPattern_X6_refused rfl rfl rfl (by decide +kernel) ⟨Nat.le_of_ble_eq_true rfl, Nat.le_of_ble_eq_true rfl⟩) (kPreV hE hS hV 0 rfl rfl) rfl rfl hl.1 rfl (lv_room (Nat.le_of_ble_eq_true rfl)) dX6_noPattern_14 ⟨Nat.le_of_ble_eq_true rfl, Nat.le_of_ble_eq_true rfl⟩) hS (fun r_6 u_5 H locs hp_4 hV hS => ?_)
    subst hp_4
    refine W.eq (g2 := F0 m 17 ls [.int (nI (1))]) (by rw [kb_t (by decide)]) ?_
    have hV : kV G (kM G h ad 1 rl rw S ++ wr) H := hV
    exact W.zret (v := nI 1) hx hb hrt (by decide) (fun t ht hW => ⟨⟨_, (), rfl, by rw [kb_t c6], kV_eq ht (by rw [kb_t c6]; exact hV)⟩, hS.F ht⟩) hS.2.2 dX6_noPattern_17
  · refine lv_iconst (v := nI 0) hx hb dX6_noPattern_9 (by decide) ?_
    refine lv_goto (tgt := 14) hx hb dX6_noPattern_10 (by decide) ?_
    refine kc_i (va_runV (As := [.int (nI (0))]) (rest := []) hF (c_X6_refused l G h ad rf rl rw S wr 0 (by omega)) (cwV 1 hts gX6_noPattern_X6_refused rfl rfl rfl (by decide +kernel) ⟨Nat.le_of_ble_eq_true rfl, Nat.le_of_ble_eq_true rfl⟩) (kPreV hE hS hV 0 rfl rfl) rfl rfl hl.1 rfl (lv_room (Nat.le_of_ble_eq_true rfl)) dX6_noPattern_14 ⟨Nat.le_of_ble_eq_true rfl, Nat.le_of_ble_eq_true rfl⟩) hS (fun r_9 u_8 H locs hp_7 hV hS => ?_)
    subst hp_7
    refine W.eq (g2 := F0 m 17 ls [.int (nI (0))]) (by rw [kb_f (by decide)]) ?_
    have hV : kV G (kM G h ad 0 rl rw S ++ wr) H := hV
    exact W.zret (v := nI 0) hx hb hrt (by decide) (fun t ht hW => ⟨⟨_, (), rfl, by rw [kb_f (fun z => z c6)], kV_eq ht (by rw [kb_f (fun z => z c6)]; exact hV)⟩, hS.F ht⟩) hS.2.2 dX6_noPattern_17
set_option maxHeartbeats 4000000 in
set_option maxRecDepth 100000 in
theorem c_X6_rowNeed (l : Launch) (G : kG) (h : Nat) (ad : Nat → Nat) (rf : Nat) (rl : Nat) (rw : Nat) (S : kS) (wr : va_W) (p : Nat) (r : Nat) (g : Nat) (hp : p < 16) (hok : okP S p) (hrr : r < pRows S p) : Met l yX6_rowNeed wsX6_rowNeed ({ frames := 1, cells := 0, slots := 0, locals := 25 } : Room) (kPc G [.ref (h), .int (nI (p)), .int (nI (r)), .int (nI (g))] (kM G h ad rf rl rw S ++ wr)) (kQi G (S := Unit) (fun q _ => q = nI (g * pYn S p r)) (fun _ => kM G h ad rf (pL S p r) (pW S p r) S ++ wr)) 0 0 (kA G) := by
  refine Met.ofW (cc := cX6_rowNeed) (maxL := 6) (ret := (some .int)) (by decide) rfl ?_
  intro pp ee s m args below meth cc0 s₁ B hml hv
  obtain ⟨rfl, hE, hV⟩ := hv
  have hK := hE.1
  have hx := B.exec
  have hb := B.bytes
  have hrt := B.returns
  have hts := atoms_spec (ws := wsX6_rowNeed) B.pre
  have hown : s.vm.findClass RX6 = some m.cls := findClass_of_methodNamed B.named
  have hlocks := B.notSynchronized
  have hF : CallFix pp m cc0 cX6_rowNeed 6 s _ wsX6_rowNeed RX6 := ⟨hx, hb, hml, hown, hts⟩
  have hinX6 : ∀ w ∈ wsX60, w ∈ wsX6_rowNeed := tb_of [17, 18, 19, 20, 21, 22, 23, 24, 25, 26, 27, 28, 29, 30, 31, 32, 33, 34, 35, 36, 37, 38, 39, 40, 41, 42] rfl
  have hS : va_S (kA G) s.heap s.heap [] := va_S.rf
  have hB0 := hE.2.1
  have hl := lv_entry ([.ref (h), .int (nI (p)), .int (nI (r)), .int (nI (g))]) (n := 6) (Nat.le_of_ble_eq_true rfl)
  rw [lg_entry_eq]
  generalize (lg_sl ([.ref (h), .int (nI (p)), .int (nI (r)), .int (nI (g))]) ++ List.replicate (6 - (lg_sl ([.ref (h), .int (nI (p)), .int (nI (r)), .int (nI (g))])).length) Slot.unset).toArray = ls at hl ⊢
  have hl : lv_has ls 6 [(0, .ref (h)), (1, .int (nI (p))), (2, .int (nI (r))), (3, .int (nI (g)))] := hl
  obtain ⟨k, hk, eL⟩ := pL_at hok hrr
  have hw := pW_in hok r
  have hz := hok.2.2.2.2 k hk
  rw [← eL] at hz
  have h6 := hok.1
  refine lv_aload_n hx hb dX6_rowNeed_0 rfl (lv_at hl 0 rfl) ?_
  refine lv_iload_n hx hb dX6_rowNeed_1 rfl (lv_at hl 1 rfl) ?_
  refine lv_iload_n hx hb dX6_rowNeed_2 rfl (lv_at hl 2 rfl) ?_
  refine kc_v (va_runV (As := [.int (nI (p)), .int (nI (r))]) (rest := []) hF (c_X6_goTo l G h ad rf rl rw S wr p r (by omega) (by omega) (by omega)) (cwV 2 hts gX6_rowNeed_X6_goTo rfl rfl rfl (by decide +kernel) ⟨Nat.le_of_ble_eq_true rfl, Nat.le_of_ble_eq_true rfl⟩) (kPreV hE hS hV 0 rfl rfl) rfl rfl hl.1 rfl (lv_room (Nat.le_of_ble_eq_true rfl)) dX6_rowNeed_3 ⟨Nat.le_of_ble_eq_true rfl, Nat.le_of_ble_eq_true rfl⟩) hS (fun u_2 H locs hp_1 hV hS => ?_)
  have hV : kV G (kM G h ad rf (pL S p r) (pW S p r) S ++ wr) H := hV
  refine lv_iconst (v := nI 0) hx hb dX6_rowNeed_6 (by decide) ?_
  refine lv_istore (lv' := [(4, .int (nI (0))), (0, .ref (h)), (1, .int (nI (p))), (2, .int (nI (r))), (3, .int (nI (g)))]) hx hb dX6_rowNeed_7 hl (by decide) rfl (fun ls hl => ?_)
  refine lv_iconst (v := nI 0) hx hb dX6_rowNeed_9 (by decide) ?_
  refine lv_istore (lv' := [(5, .int (nI (0))), (4, .int (nI (0))), (0, .ref (h)), (1, .int (nI (p))), (2, .int (nI (r))), (3, .int (nI (g)))]) hx hb dX6_rowNeed_10 hl (by decide) rfl (fun ls hl => ?_)
  have L12 : ∀ (nL12 : Nat) (j : Nat) (hj : j ≤ pW S p r) (hmL12 : pW S p r - j < nL12) (H : Heap) (locs : List Loc), kV G (kM G h ad rf (pL S p r) (pW S p r) S ++ wr) H → va_S (kA G) s.heap H locs → ∀ (ls : Array Slot), lv_has ls 6 [(0, .ref (h)), (3, .int (nI (g))), (4, .int (nI (sumN (fun c => if pSt S p r c = 1 then 2 else 3) j))), (5, .int (nI (j)))] → W pp l ee (headSpec wsX6_rowNeed ({ frames := 1, cells := 0, slots := 0, locals := 25 } : Room)).room s m [.ref (h), .int (nI (p)), .int (nI (r)), .int (nI (g))].toArray below meth cc0 H locs 0 0 (MQ below (kQi G (S := Unit) (fun q _ => q = nI (g * pYn S p r)) (fun _ => kM G h ad rf (pL S p r) (pW S p r) S ++ wr)) [.ref (h), .int (nI (p)), .int (nI (r)), .int (nI (g))].toArray s 0 0 (kA G)) (F0 m 12 ls []) := by
    intro nL12
    induction nL12 with
    | zero => intro j hj hmL12; exact absurd hmL12 (Nat.not_lt_zero _)
    | succ nL12 ihL12 =>
      intro j hj hmL12 H locs hV hS ls hl
      refine lv_iload hx hb dX6_rowNeed_12 (lv_at hl 3 rfl) ?_
      refine lv_aload_n hx hb dX6_rowNeed_14 rfl (lv_at hl 0 rfl) ?_
      refine va_get (D := kD G) (ci := 7) (v := .int (nI (pW S p r))) (C := RX6) (T := TX6) (N := 26) hx hb hts hinX6 hown hK hV.1 0 rfl rfl 25 (by decide) (hts (Cond.fieldLink RX6 117 "YarncourtModel" "rowWidth" "I") (List.mem_of_getElem? (i := 1) rfl)) (fun _ h9 => h9) rfl dX6_rowNeed_15 ?_
      refine kn_ge (tgt := 47) hx hb (by omega) (by omega) dX6_rowNeed_18 (by decide) (fun c18 => ?_) (fun c18 => ?_)
      · refine lv_iload_n hx hb dX6_rowNeed_47 rfl (lv_at hl 1 rfl) ?_
        refine lv_iload hx hb dX6_rowNeed_48 (lv_at hl 2 rfl) ?_
        refine kn_mul hx hb dX6_rowNeed_50 ?_
        exact W.iret (v := nI (g * (sumN (fun c => if pSt S p r c = 1 then 2 else 3) j))) hx hb hrt (fun t ht hW => ⟨⟨_, (), rfl, by rw [show j = pW S p r from by omega]; rfl, kV_eq ht hV⟩, hS.F ht⟩) hS.2.2 dX6_rowNeed_51
      · refine lv_iload hx hb dX6_rowNeed_21 (lv_at hl 2 rfl) ?_
        refine lv_aload_n hx hb dX6_rowNeed_23 rfl (lv_at hl 0 rfl) ?_
        refine lv_iload hx hb dX6_rowNeed_24 (lv_at hl 3 rfl) ?_
        refine kc_i (va_runV (As := [.int (nI (j))]) (rest := [.int (nI (sumN (fun c => if pSt S p r c = 1 then 2 else 3) j))]) hF (c_X6_stitchAt l G h ad rf (pL S p r) (pW S p r) S wr j (by omega) (by omega) (by omega) (by omega) (by omega) (by omega)) (cwV 1 hts gX6_rowNeed_X6_stitchAt rfl rfl rfl (by decide +kernel) ⟨Nat.le_of_ble_eq_true rfl, Nat.le_of_ble_eq_true rfl⟩) (kPreV hE hS hV 0 rfl rfl) rfl rfl hl.1 rfl (lv_room (Nat.le_of_ble_eq_true rfl)) dX6_rowNeed_26 ⟨Nat.le_of_ble_eq_true rfl, Nat.le_of_ble_eq_true rfl⟩) hS (fun r_6 u_5 H locs hp_4 hV hS => ?_)
        subst hp_4
        have hV : kV G (kM G h ad rf (pL S p r) (pW S p r) S ++ wr) H := hV
        have hst := pSt_le S p r j
        refine W.eq (g2 := F0 m 29 ls [.int (nI (pSt S p r j)), .int (nI (sumN (fun c => if pSt S p r c = 1 then 2 else 3) j))]) rfl ?_
        refine lv_iconst (v := nI 1) hx hb dX6_rowNeed_29 (by decide) ?_
        refine kn_ne (tgt := 37) hx hb (by omega) (by decide) dX6_rowNeed_30 (by decide) (fun c30 => ?_) (fun c30 => ?_)
        · refine lv_iconst (v := nI 3) hx hb dX6_rowNeed_37 (by decide) ?_
          refine kn_add hx hb dX6_rowNeed_38 ?_
          refine lv_istore (lv' := [(4, .int (nI ((sumN (fun c => if pSt S p r c = 1 then 2 else 3) j) + 3))), (0, .ref (h)), (3, .int (nI (g))), (5, .int (nI (j)))]) hx hb dX6_rowNeed_39 hl (by decide) rfl (fun ls hl => ?_)
          refine lv_iinc (lv' := [(5, .int (nI (j + 1))), (4, .int (nI ((sumN (fun c => if pSt S p r c = 1 then 2 else 3) j) + 3))), (0, .ref (h)), (3, .int (nI (g)))]) hx hb dX6_rowNeed_41 hl (k := 3) rfl (kn_iinc j 1) (by decide) rfl (fun ls hl => ?_)
          refine lv_goto (tgt := 12) hx hb dX6_rowNeed_44 (by decide) ?_
          exact ihL12 (j + 1) (by omega) (by omega) _ _ hV hS ls (by rw [show sumN (fun c => if pSt S p r c = 1 then 2 else 3) (j + 1) = sumN (fun c => if pSt S p r c = 1 then 2 else 3) j + 3 from by rw [sumN_s, if_neg c30]]; exact lv_sub hl [2, 3, 1, 0] rfl)
        · refine lv_iconst (v := nI 2) hx hb dX6_rowNeed_33 (by decide) ?_
          refine lv_goto (tgt := 38) hx hb dX6_rowNeed_34 (by decide) ?_
          refine kn_add hx hb dX6_rowNeed_38 ?_
          refine lv_istore (lv' := [(4, .int (nI ((sumN (fun c => if pSt S p r c = 1 then 2 else 3) j) + 2))), (0, .ref (h)), (3, .int (nI (g))), (5, .int (nI (j)))]) hx hb dX6_rowNeed_39 hl (by decide) rfl (fun ls hl => ?_)
          refine lv_iinc (lv' := [(5, .int (nI (j + 1))), (4, .int (nI ((sumN (fun c => if pSt S p r c = 1 then 2 else 3) j) + 2))), (0, .ref (h)), (3, .int (nI (g)))]) hx hb dX6_rowNeed_41 hl (k := 3) rfl (kn_iinc j 1) (by decide) rfl (fun ls hl => ?_)
          refine lv_goto (tgt := 12) hx hb dX6_rowNeed_44 (by decide) ?_
          exact ihL12 (j + 1) (by omega) (by omega) _ _ hV hS ls (by rw [show sumN (fun c => if pSt S p r c = 1 then 2 else 3) (j + 1) = sumN (fun c => if pSt S p r c = 1 then 2 else 3) j + 2 from by rw [sumN_s, if_pos c30]]; exact lv_sub hl [2, 3, 1, 0] rfl)
  exact L12 ((pW S p r - 0) + 1) 0 (by omega) (Nat.lt_succ_self _) _ _ hV hS ls (lv_sub hl [2, 5, 1, 0] rfl)
set_option maxHeartbeats 4000000 in
set_option maxRecDepth 100000 in
theorem c_X6_hasBought (l : Launch) (G : kG) (h : Nat) (ad : Nat → Nat) (rf : Nat) (rl : Nat) (rw : Nat) (S : kS) (wr : va_W) (p : Nat) (j : Nat) (hp : p < 16) (hj : j < 5) (h13 : S.1 13 p < 32) : Met l yX6_hasBought wsX6_hasBought ({ frames := 0, cells := 0, slots := 0, locals := 0 } : Room) (kPc G [.ref (h), .int (nI (p)), .int (nI (j))] (kM G h ad rf rl rw S ++ wr)) (kQi G (S := Unit) (fun q _ => q = nI (kb (bought S p j))) (fun _ => kM G h ad rf rl rw S ++ wr)) 0 0 (kA G) := by
  refine Met.ofW (cc := cX6_hasBought) (maxL := 3) (ret := (some .boolean)) (by decide) rfl ?_
  intro pp ee s m args below meth cc0 s₁ B hml hv
  obtain ⟨rfl, hE, hV⟩ := hv
  have hK := hE.1
  have hx := B.exec
  have hb := B.bytes
  have hrt := B.returns
  have hts := atoms_spec (ws := wsX6_hasBought) B.pre
  have hown : s.vm.findClass RX6 = some m.cls := findClass_of_methodNamed B.named
  have hlocks := B.notSynchronized
  have hF : CallFix pp m cc0 cX6_hasBought 3 s _ wsX6_hasBought RX6 := ⟨hx, hb, hml, hown, hts⟩
  have hinX6 : ∀ w ∈ wsX60, w ∈ wsX6_hasBought := tb_of [2, 3, 4, 5, 6, 7, 8, 9, 10, 11, 12, 13, 14, 15, 16, 17, 18, 19, 20, 21, 22, 23, 24, 25, 26, 27] rfl
  have hS : va_S (kA G) s.heap s.heap [] := va_S.rf
  have hB0 := hE.2.1
  have hl := lv_entry ([.ref (h), .int (nI (p)), .int (nI (j))]) (n := 3) (Nat.le_of_ble_eq_true rfl)
  rw [lg_entry_eq]
  generalize (lg_sl ([.ref (h), .int (nI (p)), .int (nI (j))]) ++ List.replicate (3 - (lg_sl ([.ref (h), .int (nI (p)), .int (nI (j))])).length) Slot.unset).toArray = ls at hl ⊢
  have hl : lv_has ls 3 [(0, .ref (h)), (1, .int (nI (p))), (2, .int (nI (j)))] := hl
  refine lv_aload_n hx hb dX6_hasBought_0 rfl (lv_at hl 0 rfl) ?_
  refine va_get (D := kD G) (ci := 7) (v := .ref (ad 13)) (C := RX6) (T := TX6) (N := 26) hx hb hts hinX6 hown hK hV.1 0 rfl rfl 13 (by decide) (hts (Cond.fieldLink RX6 41 "YarncourtModel" "buyers" "[I") (List.mem_of_getElem? (i := 1) rfl)) (fun _ h9 => h9) rfl dX6_hasBought_1 ?_
  refine lv_iload_n hx hb dX6_hasBought_4 rfl (lv_at hl 1 rfl) ?_
  refine kn_iald (G := G) (n := 16) (g := S.1 13) (j := p) hx hb hK hV 11 rfl (by omega) (by decide) dX6_hasBought_5 ?_
  refine lv_iload_n hx hb dX6_hasBought_6 rfl (lv_at hl 2 rfl) ?_
  refine kn_ishr hx hb (by omega) (by omega) dX6_hasBought_7 ?_
  have hd : S.1 13 p / 2 ^ j ≤ S.1 13 p := Nat.div_le_self _ _
  refine lv_iconst (v := nI 1) hx hb dX6_hasBought_8 (by decide) ?_
  refine kn_iand1 hx hb (by omega) dX6_hasBought_9 ?_
  refine lv_iconst (v := nI 1) hx hb dX6_hasBought_10 (by decide) ?_
  have hm2 : S.1 13 p / 2 ^ j % 2 < 2 := Nat.mod_lt _ (by decide)
  refine kn_ne (tgt := 18) hx hb (by omega) (by decide) dX6_hasBought_11 (by decide) (fun c11 => ?_) (fun c11 => ?_)
  · refine lv_iconst (v := nI 0) hx hb dX6_hasBought_18 (by decide) ?_
    exact W.zret (v := nI 0) hx hb hrt (by decide) (fun t ht hW => ⟨⟨_, (), rfl, by rw [kb_f (fun z => c11 (bought_iff.mp z))], kV_eq ht hV⟩, hS.F ht⟩) hS.2.2 dX6_hasBought_19
  · refine lv_iconst (v := nI 1) hx hb dX6_hasBought_14 (by decide) ?_
    refine lv_goto (tgt := 19) hx hb dX6_hasBought_15 (by decide) ?_
    exact W.zret (v := nI 1) hx hb hrt (by decide) (fun t ht hW => ⟨⟨_, (), rfl, by rw [kb_t (bought_iff.mpr c11)], kV_eq ht hV⟩, hS.F ht⟩) hS.2.2 dX6_hasBought_19
