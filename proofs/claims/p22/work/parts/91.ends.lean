set_option maxHeartbeats 4000000 in
set_option maxRecDepth 100000 in
theorem c_L_ends (l : Launch) (G : kG) (S : kS) (y : kY) (yh : Nat) (f : Nat → Nat) (na : Nat) (wr : va_W) (x : Nat) (hn : nOk S f) (hx9 : x < 2 ^ 31) (hlt : l.stackTraces = false) (hh : yH y 0 = yh) (hI : kInv S) (hY : yI G S y) : Met l yL_ends wsL_ends ({ frames := 10, cells := 360, slots := 6000, locals := 262 } : Room) (kPc G [.ref (yh), .ref (na), .int (nI (x))] (siteW G S y ++ ([(na, aN (kcI G) 3 f)] ++ wr))) (kQi G (S := kS × kY) (fun z _ => z = nI 1) (fun u => siteW G u.1 u.2 ++ ([(na, aN (kcI G) 3 f)] ++ wr))) 360 6000 (kA G) := by
  refine Met.ofW (cc := cL_ends) (maxL := 18) (ret := (some .boolean)) (by decide) rfl ?_
  intro pp ee s m args below meth cc0 s₁ Bd0 hml hv
  obtain ⟨rfl, hE, hV⟩ := hv
  have hK := hE.1
  have hx := Bd0.exec
  have hb := Bd0.bytes
  have hrt := Bd0.returns
  have hts := atoms_spec (ws := wsL_ends) Bd0.pre
  have hown : s.vm.findClass RL = some m.cls := findClass_of_methodNamed Bd0.named
  have hlocks := Bd0.notSynchronized
  have hF : CallFix pp m cc0 cL_ends 18 s _ wsL_ends RL := ⟨hx, hb, hml, hown, hts⟩
  have hS : va_S (kA G) s.heap s.heap [] := va_S.rf
  have hB0 := hE.2.1
  have hl := lv_entry ([.ref (yh), .ref (na), .int (nI (x))]) (n := 18) (Nat.le_of_ble_eq_true rfl)
  rw [lg_entry_eq]
  generalize (lg_sl ([.ref (yh), .ref (na), .int (nI (x))]) ++ List.replicate (18 - (lg_sl ([.ref (yh), .ref (na), .int (nI (x))])).length) Slot.unset).toArray = ls at hl ⊢
  have hl : lv_has ls 18 [(0, .ref (yh)), (1, .ref (na)), (2, .int (nI (x)))] := hl
  obtain ⟨n, hnn⟩ : ∃ n, S.1 1 0 = n := ⟨_, rfl⟩
  obtain ⟨lt, hlt9⟩ : ∃ n, S.1 15 0 = n := ⟨_, rfl⟩
  obtain ⟨pj, hpj9⟩ : ∃ n, S.1 19 0 = n := ⟨_, rfl⟩
  have hb16 := hI.1.1
  have hb20 := hI.1.2.1
  have hb12 := hI.1.2.2.1
  obtain ⟨hn0, hn1, hn2⟩ := id hn
  rw [hnn] at hn0 hb16
  rw [hlt9] at hn1 hb20
  rw [hpj9] at hn2 hb12
  refine lv_aload_n hx hb dL_ends_0 rfl (lv_at hl 1 rfl) ?_
  refine lv_iconst (v := nI 0) hx hb dL_ends_1 (by decide) ?_
  have hV9 : kV G ([(na, aN (kcI G) 3 f)] ++ (siteW G S y ++ (wr))) _ := kV_wc hV (fun e => by simp only [wc_app]; omega)
  refine kn_iald (G := G) (n := 3) (g := f) (j := 0) hx hb hK hV9 0 rfl (by decide) (by decide) dL_ends_2 ?_
  rw [show f 0 = n from hn0]
  refine lv_bipush (v := nI 14) hx hb dL_ends_3 (by decide) ?_
  refine kn_gt (tgt := 24) hx hb (by omega) (by decide) dL_ends_5 (by decide) (fun c5 => ?_) (fun c5 => ?_)
  · refine lv_iconst (v := nI 1) hx hb dL_ends_24 (by decide) ?_
    refine W.widen (k := 360) (n := 6000) (by decide) (by decide) ?_
    exact W.zret (v := nI 1) hx hb hrt (by decide) (fun t ht hW => ⟨⟨_, (S, y), rfl, rfl, kV_eq ht hV⟩, hS.F ht⟩) hS.2.2 dL_ends_25
  · refine lv_aload_n hx hb dL_ends_8 rfl (lv_at hl 1 rfl) ?_
    refine lv_iconst (v := nI 1) hx hb dL_ends_9 (by decide) ?_
    have hV9 : kV G ([(na, aN (kcI G) 3 f)] ++ (siteW G S y ++ (wr))) _ := kV_wc hV (fun e => by simp only [wc_app]; omega)
    refine kn_iald (G := G) (n := 3) (g := f) (j := 1) hx hb hK hV9 0 rfl (by decide) (by decide) dL_ends_10 ?_
    rw [show f 1 = lt from hn1]
    refine lv_bipush (v := nI 19) hx hb dL_ends_11 (by decide) ?_
    refine kn_gt (tgt := 24) hx hb (by omega) (by decide) dL_ends_13 (by decide) (fun c13 => ?_) (fun c13 => ?_)
    · refine lv_iconst (v := nI 1) hx hb dL_ends_24 (by decide) ?_
      refine W.widen (k := 360) (n := 6000) (by decide) (by decide) ?_
      exact W.zret (v := nI 1) hx hb hrt (by decide) (fun t ht hW => ⟨⟨_, (S, y), rfl, rfl, kV_eq ht hV⟩, hS.F ht⟩) hS.2.2 dL_ends_25
    · refine lv_aload_n hx hb dL_ends_16 rfl (lv_at hl 1 rfl) ?_
      refine lv_iconst (v := nI 2) hx hb dL_ends_17 (by decide) ?_
      have hV9 : kV G ([(na, aN (kcI G) 3 f)] ++ (siteW G S y ++ (wr))) _ := kV_wc hV (fun e => by simp only [wc_app]; omega)
      refine kn_iald (G := G) (n := 3) (g := f) (j := 2) hx hb hK hV9 0 rfl (by decide) (by decide) dL_ends_18 ?_
      rw [show f 2 = pj from hn2]
      refine lv_bipush (v := nI 11) hx hb dL_ends_19 (by decide) ?_
      refine kn_le (tgt := 26) hx hb (by omega) (by decide) dL_ends_21 (by decide) (fun c21 => ?_) (fun c21 => ?_)
      · refine lv_aload_n hx hb dL_ends_26 rfl (lv_at hl 1 rfl) ?_
        refine lv_iconst (v := nI 0) hx hb dL_ends_27 (by decide) ?_
        have hV9 : kV G ([(na, aN (kcI G) 3 f)] ++ (siteW G S y ++ (wr))) _ := kV_wc hV (fun e => by simp only [wc_app]; omega)
        refine kn_iald (G := G) (n := 3) (g := f) (j := 0) hx hb hK hV9 0 rfl (by decide) (by decide) dL_ends_28 ?_
        rw [show f 0 = n from hn0]
        refine lv_istore_n (lv' := [(3, .int (nI (n))), (0, .ref (yh)), (1, .ref (na)), (2, .int (nI (x)))]) hx hb dL_ends_29 rfl hl (by decide) rfl (fun ls hl => ?_)
        refine lv_iconst (v := nI 1) hx hb dL_ends_30 (by decide) ?_
        refine lv_iload_n hx hb dL_ends_31 rfl (lv_at hl 3 rfl) ?_
        refine lv_bipush (v := nI 20) hx hb dL_ends_32 (by decide) ?_
        refine kn_rem hx hb (by omega) (by omega) (by omega) dL_ends_34 ?_
        refine kn_add hx hb dL_ends_35 ?_
        obtain ⟨w9, hw9⟩ : ∃ q, 1 + (x % 20) = q := ⟨_, rfl⟩
        rw [hw9]
        refine lv_istore (lv' := [(4, .int (nI (w9))), (3, .int (nI (n))), (0, .ref (yh)), (1, .ref (na)), (2, .int (nI (x)))]) hx hb dL_ends_36 hl (by decide) rfl (fun ls hl => ?_)
        refine lv_iload_n hx hb dL_ends_38 rfl (lv_at hl 4 rfl) ?_
        refine lv_bipush (v := nI 20) hx hb dL_ends_39 (by decide) ?_
        refine kn_div hx hb (by omega) (by omega) (by omega) dL_ends_41 ?_
        refine lv_iconst (v := nI 3) hx hb dL_ends_42 (by decide) ?_
        refine kn_rem hx hb (by omega) (by omega) (by omega) dL_ends_43 ?_
        obtain ⟨u9, hu9⟩ : ∃ q, (x / 20) % 3 = q := ⟨_, rfl⟩
        rw [hu9]
        refine lv_istore (lv' := [(5, .int (nI (u9))), (4, .int (nI (w9))), (3, .int (nI (n))), (0, .ref (yh)), (1, .ref (na)), (2, .int (nI (x)))]) hx hb dL_ends_44 hl (by decide) rfl (fun ls hl => ?_)
        refine lv_iconst (v := nI 1) hx hb dL_ends_46 (by decide) ?_
        refine lv_iload_n hx hb dL_ends_47 rfl (lv_at hl 5 rfl) ?_
        refine lv_bipush (v := nI 60) hx hb dL_ends_48 (by decide) ?_
        refine kn_div hx hb (by omega) (by omega) (by omega) dL_ends_50 ?_
        refine lv_bipush (v := nI 12) hx hb dL_ends_51 (by decide) ?_
        refine kn_rem hx hb (by omega) (by omega) (by omega) dL_ends_53 ?_
        refine kn_add hx hb dL_ends_54 ?_
        obtain ⟨t9, ht9⟩ : ∃ q, 1 + ((x / 60) % 12) = q := ⟨_, rfl⟩
        rw [ht9]
        refine lv_istore (lv' := [(6, .int (nI (t9))), (5, .int (nI (u9))), (4, .int (nI (w9))), (3, .int (nI (n))), (0, .ref (yh)), (1, .ref (na)), (2, .int (nI (x)))]) hx hb dL_ends_55 hl (by decide) rfl (fun ls hl => ?_)
        obtain ⟨S1, S2, S3, S4, S5, S6, S7, S8, o9, b1, b2, b3, b4, b5, b6, b7, b8, hB, b15, b19⟩ := ends_A (w := w9) (u := u9) (t := t9) hI hnn (by omega) (by omega) (by omega) (by omega)
        have ho9 : o9 ≤ n := hB.2.2.1
        have hb8 := hB.1
        obtain ⟨al, hal⟩ : ∃ q, nd5 S8 n = q := ⟨_, rfl⟩
        obtain ⟨S9, b9, b9b, b9m, hR⟩ := ends_B b8.2 hB (by omega)
        refine lv_aload_n hx hb dL_ends_57 rfl (lv_at hl 4 rfl) ?_
        refine lv_iconst (v := nI 1) hx hb dL_ends_58 (by decide) ?_
        refine lv_iload hx hb dL_ends_59 (lv_at hl 2 rfl) ?_
        refine lv_bipush (v := nI 40) hx hb dL_ends_61 (by decide) ?_
        refine kc_i (vx_runSW (As := [.ref (yh), .int (nI (1)), .int (nI (w9)), .int (nI (40))]) (rest := []) hF (c_L_begins l G S y yh ([(na, aN (kcI G) 3 f)] ++ wr) (nI 1) (nI w9) (nI 40) ((0, (nI (n)), S1)) (b1.1) hlt hh hI hY) (vx_cwSW 4 hts gL_ends_L_begins rfl rfl rfl (by decide +kernel) ⟨Nat.le_of_ble_eq_true rfl, Nat.le_of_ble_eq_true rfl⟩) (kPreS hE hS hV) rfl rfl hl.1 rfl (lv_room (Nat.le_of_ble_eq_true rfl)) dL_ends_63 ⟨Nat.le_of_ble_eq_true rfl, Nat.le_of_ble_eq_true rfl⟩) hS (fun r_3 u_2 H locs hp_1 hV hS => ?_)
        obtain ⟨hp_10, hY, hh⟩ := hp_1
        have hY : yI G S1 u_2 := hY
        have hp_10 : (nI (n)) = r_3 := (hp_10.trans (vIAS_0 ((nI (n))) S1)).symm
        subst hp_10
        have hV : kV G (siteW G S1 u_2 ++ ([(na, aN (kcI G) 3 f)] ++ wr)) _ := hV
        have hI := b1.2
        refine lv_iload_n hx hb dL_ends_66 rfl (lv_at hl 3 rfl) ?_
        refine lv_icmp_ne (tgt := 89) hx hb dL_ends_67 (by decide) (fun z => absurd rfl z) (fun _ => ?_)
        refine lv_aload_n hx hb dL_ends_70 rfl (lv_at hl 4 rfl) ?_
        refine lv_iconst (v := nI 2) hx hb dL_ends_71 (by decide) ?_
        refine lv_iload hx hb dL_ends_72 (lv_at hl 2 rfl) ?_
        refine lv_bipush (v := nI 60) hx hb dL_ends_74 (by decide) ?_
        refine kc_i (vx_runSW (As := [.ref (yh), .int (nI (2)), .int (nI (w9)), .int (nI (60))]) (rest := []) hF (c_L_begins l G S1 u_2 yh ([(na, aN (kcI G) 3 f)] ++ wr) (nI 2) (nI w9) (nI 60) ((0, (nI (n + 1)), S2)) (b2.1) hlt hh hI hY) (vx_cwSW 4 hts gL_ends_L_begins rfl rfl rfl (by decide +kernel) ⟨Nat.le_of_ble_eq_true rfl, Nat.le_of_ble_eq_true rfl⟩) (kPreS hE hS hV) rfl rfl hl.1 rfl (lv_room (Nat.le_of_ble_eq_true rfl)) dL_ends_76 ⟨Nat.le_of_ble_eq_true rfl, Nat.le_of_ble_eq_true rfl⟩) hS (fun r_6 u_5 H locs hp_4 hV hS => ?_)
        obtain ⟨hp_40, hY, hh⟩ := hp_4
        have hY : yI G S2 u_5 := hY
        have hp_40 : (nI (n + 1)) = r_6 := (hp_40.trans (vIAS_0 ((nI (n + 1))) S2)).symm
        subst hp_40
        have hV : kV G (siteW G S2 u_5 ++ ([(na, aN (kcI G) 3 f)] ++ wr)) _ := hV
        have hI := b2.2
        refine lv_iload_n hx hb dL_ends_79 rfl (lv_at hl 3 rfl) ?_
        refine lv_iconst (v := nI 1) hx hb dL_ends_80 (by decide) ?_
        refine kn_add hx hb dL_ends_81 ?_
        refine lv_icmp_ne (tgt := 89) hx hb dL_ends_82 (by decide) (fun z => absurd rfl z) (fun _ => ?_)
        refine lv_iconst (v := nI 1) hx hb dL_ends_85 (by decide) ?_
        refine lv_goto (tgt := 90) hx hb dL_ends_86 (by decide) ?_
        refine lv_istore (lv' := [(7, .int (nI (1))), (6, .int (nI (t9))), (5, .int (nI (u9))), (4, .int (nI (w9))), (3, .int (nI (n))), (0, .ref (yh)), (1, .ref (na)), (2, .int (nI (x)))]) hx hb dL_ends_90 hl (by decide) rfl (fun ls hl => ?_)
        refine lv_iload_n hx hb dL_ends_92 rfl (lv_at hl 4 rfl) ?_
        refine lv_istore (lv' := [(8, .int (nI (n))), (7, .int (nI (1))), (6, .int (nI (t9))), (5, .int (nI (u9))), (4, .int (nI (w9))), (3, .int (nI (n))), (0, .ref (yh)), (1, .ref (na)), (2, .int (nI (x)))]) hx hb dL_ends_93 hl (by decide) rfl (fun ls hl => ?_)
        refine lv_iload hx hb dL_ends_95 (lv_at hl 0 rfl) ?_
        refine lv_iload_n hx hb dL_ends_97 rfl (lv_at hl 5 rfl) ?_
        refine lv_iconst (v := nI 2) hx hb dL_ends_98 (by decide) ?_
        refine kn_add hx hb dL_ends_99 ?_
        refine kn_ge (tgt := 156) hx hb (by omega) (by omega) dL_ends_100 (by decide) (fun z => absurd z (by omega)) (fun c100 => ?_)
        refine lv_iload hx hb dL_ends_103 (lv_at hl 1 rfl) ?_
        refine kn_if_eq_not hx hb (by decide) dL_ends_105 ?_ 156 (by decide)
        refine lv_aload_n hx hb dL_ends_108 rfl (lv_at hl 6 rfl) ?_
        refine lv_iload hx hb dL_ends_109 (lv_at hl 0 rfl) ?_
        refine lv_iconst (v := nI 2) hx hb dL_ends_111 (by decide) ?_
        refine lv_iload hx hb dL_ends_112 (lv_at hl 3 rfl) ?_
        refine lv_iconst (v := nI 1) hx hb dL_ends_114 (by decide) ?_
        refine lv_iload hx hb dL_ends_115 (lv_at hl 2 rfl) ?_
        refine kc_i (vx_runSW (As := [.ref (yh), .int (nI (n)), .int (nI (2)), .int (nI (u9)), .int (nI (1)), .int (nI (t9))]) (rest := []) hF (c_L_lines l G S2 u_5 yh ([(na, aN (kcI G) 3 f)] ++ wr) (nI n) (nI 2) (nI u9) (nI 1) (nI t9) ((0, (nI (t9)), S3)) (b3.1) hlt hh hI hY) (vx_cwSW 6 hts gL_ends_L_lines rfl rfl rfl (by decide +kernel) ⟨Nat.le_of_ble_eq_true rfl, Nat.le_of_ble_eq_true rfl⟩) (kPreS hE hS hV) rfl rfl hl.1 rfl (lv_room (Nat.le_of_ble_eq_true rfl)) dL_ends_117 ⟨Nat.le_of_ble_eq_true rfl, Nat.le_of_ble_eq_true rfl⟩) hS (fun r_9 u_8 H locs hp_7 hV hS => ?_)
        obtain ⟨hp_70, hY, hh⟩ := hp_7
        have hY : yI G S3 u_8 := hY
        have hp_70 : (nI (t9)) = r_9 := (hp_70.trans (vIAS_0 ((nI (t9))) S3)).symm
        subst hp_70
        have hV : kV G (siteW G S3 u_8 ++ ([(na, aN (kcI G) 3 f)] ++ wr)) _ := hV
        have hI := b3.2
        refine lv_iload hx hb dL_ends_120 (lv_at hl 2 rfl) ?_
        refine lv_icmp_ne (tgt := 147) hx hb dL_ends_122 (by decide) (fun z => absurd rfl z) (fun _ => ?_)
        refine lv_aload_n hx hb dL_ends_125 rfl (lv_at hl 6 rfl) ?_
        refine lv_iload hx hb dL_ends_126 (lv_at hl 0 rfl) ?_
        refine lv_iconst (v := nI 1) hx hb dL_ends_128 (by decide) ?_
        refine lv_iconst (v := nI 1) hx hb dL_ends_129 (by decide) ?_
        refine lv_iconst (v := zI (-1)) hx hb dL_ends_130 (by decide) ?_
        refine lv_iload hx hb dL_ends_131 (lv_at hl 2 rfl) ?_
        refine kc_i (vx_runSW (As := [.ref (yh), .int (nI (n)), .int (nI (1)), .int (nI (1)), .int (zI (-1)), .int (nI (t9))]) (rest := []) hF (c_L_lines l G S3 u_8 yh ([(na, aN (kcI G) 3 f)] ++ wr) (nI n) (nI 1) (nI 1) (zI (-1)) (nI t9) ((0, (nI (2 * t9)), S4)) (b4.1) hlt hh hI hY) (vx_cwSW 6 hts gL_ends_L_lines rfl rfl rfl (by decide +kernel) ⟨Nat.le_of_ble_eq_true rfl, Nat.le_of_ble_eq_true rfl⟩) (kPreS hE hS hV) rfl rfl hl.1 rfl (lv_room (Nat.le_of_ble_eq_true rfl)) dL_ends_133 ⟨Nat.le_of_ble_eq_true rfl, Nat.le_of_ble_eq_true rfl⟩) hS (fun r_12 u_11 H locs hp_10 hV hS => ?_)
        obtain ⟨hp_100, hY, hh⟩ := hp_10
        have hY : yI G S4 u_11 := hY
        have hp_100 : (nI (2 * t9)) = r_12 := (hp_100.trans (vIAS_0 ((nI (2 * t9))) S4)).symm
        subst hp_100
        have hV : kV G (siteW G S4 u_11 ++ ([(na, aN (kcI G) 3 f)] ++ wr)) _ := hV
        have hI := b4.2
        refine lv_iconst (v := nI 2) hx hb dL_ends_136 (by decide) ?_
        refine lv_iload hx hb dL_ends_137 (lv_at hl 2 rfl) ?_
        refine kn_mul hx hb dL_ends_139 ?_
        refine lv_icmp_ne (tgt := 147) hx hb dL_ends_140 (by decide) (fun z => absurd rfl z) (fun _ => ?_)
        refine lv_iconst (v := nI 1) hx hb dL_ends_143 (by decide) ?_
        refine lv_goto (tgt := 148) hx hb dL_ends_144 (by decide) ?_
        refine lv_istore (lv' := [(7, .int (nI (1))), (8, .int (nI (n))), (6, .int (nI (t9))), (5, .int (nI (u9))), (4, .int (nI (w9))), (3, .int (nI (n))), (0, .ref (yh)), (1, .ref (na)), (2, .int (nI (x)))]) hx hb dL_ends_148 hl (by decide) rfl (fun ls hl => ?_)
        refine lv_iinc (lv' := [(8, .int (nI (n + 1))), (7, .int (nI (1))), (6, .int (nI (t9))), (5, .int (nI (u9))), (4, .int (nI (w9))), (3, .int (nI (n))), (0, .ref (yh)), (1, .ref (na)), (2, .int (nI (x)))]) hx hb dL_ends_150 hl (k := 1) rfl (kn_iinc n 1) (by decide) rfl (fun ls hl => ?_)
        refine lv_goto (tgt := 95) hx hb dL_ends_153 (by decide) ?_
        refine lv_iload hx hb dL_ends_95 (lv_at hl 0 rfl) ?_
        refine lv_iload_n hx hb dL_ends_97 rfl (lv_at hl 5 rfl) ?_
        refine lv_iconst (v := nI 2) hx hb dL_ends_98 (by decide) ?_
        refine kn_add hx hb dL_ends_99 ?_
        refine kn_ge (tgt := 156) hx hb (by omega) (by omega) dL_ends_100 (by decide) (fun z => absurd z (by omega)) (fun c100 => ?_)
        refine lv_iload hx hb dL_ends_103 (lv_at hl 1 rfl) ?_
        refine kn_if_eq_not hx hb (by decide) dL_ends_105 ?_ 156 (by decide)
        refine lv_aload_n hx hb dL_ends_108 rfl (lv_at hl 6 rfl) ?_
        refine lv_iload hx hb dL_ends_109 (lv_at hl 0 rfl) ?_
        refine lv_iconst (v := nI 2) hx hb dL_ends_111 (by decide) ?_
        refine lv_iload hx hb dL_ends_112 (lv_at hl 3 rfl) ?_
        refine lv_iconst (v := nI 1) hx hb dL_ends_114 (by decide) ?_
        refine lv_iload hx hb dL_ends_115 (lv_at hl 2 rfl) ?_
        refine kc_i (vx_runSW (As := [.ref (yh), .int (nI (n + 1)), .int (nI (2)), .int (nI (u9)), .int (nI (1)), .int (nI (t9))]) (rest := []) hF (c_L_lines l G S4 u_11 yh ([(na, aN (kcI G) 3 f)] ++ wr) (nI (n + 1)) (nI 2) (nI u9) (nI 1) (nI t9) ((0, (nI (t9)), S5)) (b5.1) hlt hh hI hY) (vx_cwSW 6 hts gL_ends_L_lines rfl rfl rfl (by decide +kernel) ⟨Nat.le_of_ble_eq_true rfl, Nat.le_of_ble_eq_true rfl⟩) (kPreS hE hS hV) rfl rfl hl.1 rfl (lv_room (Nat.le_of_ble_eq_true rfl)) dL_ends_117 ⟨Nat.le_of_ble_eq_true rfl, Nat.le_of_ble_eq_true rfl⟩) hS (fun r_15 u_14 H locs hp_13 hV hS => ?_)
        obtain ⟨hp_130, hY, hh⟩ := hp_13
        have hY : yI G S5 u_14 := hY
        have hp_130 : (nI (t9)) = r_15 := (hp_130.trans (vIAS_0 ((nI (t9))) S5)).symm
        subst hp_130
        have hV : kV G (siteW G S5 u_14 ++ ([(na, aN (kcI G) 3 f)] ++ wr)) _ := hV
        have hI := b5.2
        refine lv_iload hx hb dL_ends_120 (lv_at hl 2 rfl) ?_
        refine lv_icmp_ne (tgt := 147) hx hb dL_ends_122 (by decide) (fun z => absurd rfl z) (fun _ => ?_)
        refine lv_aload_n hx hb dL_ends_125 rfl (lv_at hl 6 rfl) ?_
        refine lv_iload hx hb dL_ends_126 (lv_at hl 0 rfl) ?_
        refine lv_iconst (v := nI 1) hx hb dL_ends_128 (by decide) ?_
        refine lv_iconst (v := nI 1) hx hb dL_ends_129 (by decide) ?_
        refine lv_iconst (v := zI (-1)) hx hb dL_ends_130 (by decide) ?_
        refine lv_iload hx hb dL_ends_131 (lv_at hl 2 rfl) ?_
        refine kc_i (vx_runSW (As := [.ref (yh), .int (nI (n + 1)), .int (nI (1)), .int (nI (1)), .int (zI (-1)), .int (nI (t9))]) (rest := []) hF (c_L_lines l G S5 u_14 yh ([(na, aN (kcI G) 3 f)] ++ wr) (nI (n + 1)) (nI 1) (nI 1) (zI (-1)) (nI t9) ((0, (nI (2 * t9)), S6)) (b6.1) hlt hh hI hY) (vx_cwSW 6 hts gL_ends_L_lines rfl rfl rfl (by decide +kernel) ⟨Nat.le_of_ble_eq_true rfl, Nat.le_of_ble_eq_true rfl⟩) (kPreS hE hS hV) rfl rfl hl.1 rfl (lv_room (Nat.le_of_ble_eq_true rfl)) dL_ends_133 ⟨Nat.le_of_ble_eq_true rfl, Nat.le_of_ble_eq_true rfl⟩) hS (fun r_18 u_17 H locs hp_16 hV hS => ?_)
        obtain ⟨hp_160, hY, hh⟩ := hp_16
        have hY : yI G S6 u_17 := hY
        have hp_160 : (nI (2 * t9)) = r_18 := (hp_160.trans (vIAS_0 ((nI (2 * t9))) S6)).symm
        subst hp_160
        have hV : kV G (siteW G S6 u_17 ++ ([(na, aN (kcI G) 3 f)] ++ wr)) _ := hV
        have hI := b6.2
        refine lv_iconst (v := nI 2) hx hb dL_ends_136 (by decide) ?_
        refine lv_iload hx hb dL_ends_137 (lv_at hl 2 rfl) ?_
        refine kn_mul hx hb dL_ends_139 ?_
        refine lv_icmp_ne (tgt := 147) hx hb dL_ends_140 (by decide) (fun z => absurd rfl z) (fun _ => ?_)
        refine lv_iconst (v := nI 1) hx hb dL_ends_143 (by decide) ?_
        refine lv_goto (tgt := 148) hx hb dL_ends_144 (by decide) ?_
        refine lv_istore (lv' := [(7, .int (nI (1))), (8, .int (nI (n + 1))), (6, .int (nI (t9))), (5, .int (nI (u9))), (4, .int (nI (w9))), (3, .int (nI (n))), (0, .ref (yh)), (1, .ref (na)), (2, .int (nI (x)))]) hx hb dL_ends_148 hl (by decide) rfl (fun ls hl => ?_)
        refine lv_iinc (lv' := [(8, .int (nI (n + 1 + 1))), (7, .int (nI (1))), (6, .int (nI (t9))), (5, .int (nI (u9))), (4, .int (nI (w9))), (3, .int (nI (n))), (0, .ref (yh)), (1, .ref (na)), (2, .int (nI (x)))]) hx hb dL_ends_150 hl (k := 1) rfl (kn_iinc (n + 1) 1) (by decide) rfl (fun ls hl => ?_)
        refine lv_goto (tgt := 95) hx hb dL_ends_153 (by decide) ?_
        refine lv_iload hx hb dL_ends_95 (lv_at hl 0 rfl) ?_
        refine lv_iload_n hx hb dL_ends_97 rfl (lv_at hl 5 rfl) ?_
        refine lv_iconst (v := nI 2) hx hb dL_ends_98 (by decide) ?_
        refine kn_add hx hb dL_ends_99 ?_
        refine kn_ge (tgt := 156) hx hb (by omega) (by omega) dL_ends_100 (by decide) (fun c100 => ?_) (fun z => absurd z (by omega))
        refine lv_aload_n hx hb dL_ends_156 rfl (lv_at hl 6 rfl) ?_
        refine lv_iload_n hx hb dL_ends_157 rfl (lv_at hl 5 rfl) ?_
        refine kc_i (vx_runSW (As := [.ref (yh), .int (nI (n))]) (rest := []) hF (c_L_publishes l G S6 u_17 yh ([(na, aN (kcI G) 3 f)] ++ wr) (nI n) ((0, (nI (o9)), S7)) (b7.1) hlt hh hI hY) (vx_cwSW 2 hts gL_ends_L_publishes rfl rfl rfl (by decide +kernel) ⟨Nat.le_of_ble_eq_true rfl, Nat.le_of_ble_eq_true rfl⟩) (kPreS hE hS hV) rfl rfl hl.1 rfl (lv_room (Nat.le_of_ble_eq_true rfl)) dL_ends_158 ⟨Nat.le_of_ble_eq_true rfl, Nat.le_of_ble_eq_true rfl⟩) hS (fun r_21 u_20 H locs hp_19 hV hS => ?_)
        obtain ⟨hp_190, hY, hh⟩ := hp_19
        have hY : yI G S7 u_20 := hY
        have hp_190 : (nI (o9)) = r_21 := (hp_190.trans (vIS_0 ((nI (o9))) S7)).symm
        subst hp_190
        have hV : kV G (siteW G S7 u_20 ++ ([(na, aN (kcI G) 3 f)] ++ wr)) _ := hV
        have hI := b7.2
        refine lv_istore (lv' := [(8, .int (nI (o9))), (7, .int (nI (1))), (6, .int (nI (t9))), (5, .int (nI (u9))), (4, .int (nI (w9))), (3, .int (nI (n))), (0, .ref (yh)), (1, .ref (na)), (2, .int (nI (x)))]) hx hb dL_ends_161 hl (by decide) rfl (fun ls hl => ?_)
        refine lv_iload hx hb dL_ends_163 (lv_at hl 1 rfl) ?_
        refine kn_if_eq_not hx hb (by decide) dL_ends_165 ?_ 207 (by decide)
        refine lv_iload hx hb dL_ends_168 (lv_at hl 0 rfl) ?_
        refine lv_if_lt (tgt := 207) hx hb dL_ends_170 (by decide) (fun z => absurd z (nI_pos (by omega))) (fun _ => ?_)
        refine lv_iload hx hb dL_ends_173 (lv_at hl 0 rfl) ?_
        refine lv_iload_n hx hb dL_ends_175 rfl (lv_at hl 5 rfl) ?_
        refine kn_gt (tgt := 207) hx hb (by omega) (by omega) dL_ends_176 (by decide) (fun z => absurd z (by omega)) (fun c176 => ?_)
        refine lv_aload_n hx hb dL_ends_179 rfl (lv_at hl 6 rfl) ?_
        refine lv_iload_n hx hb dL_ends_180 rfl (lv_at hl 5 rfl) ?_
        refine lv_iconst (v := nI 1) hx hb dL_ends_181 (by decide) ?_
        refine kn_add hx hb dL_ends_182 ?_
        refine kc_i (vx_runSW (As := [.ref (yh), .int (nI (n + 1))]) (rest := []) hF (c_L_publishes l G S7 u_20 yh ([(na, aN (kcI G) 3 f)] ++ wr) (nI (n + 1)) ((0, (nI (o9)), S8)) (b8.1) hlt hh hI hY) (vx_cwSW 2 hts gL_ends_L_publishes rfl rfl rfl (by decide +kernel) ⟨Nat.le_of_ble_eq_true rfl, Nat.le_of_ble_eq_true rfl⟩) (kPreS hE hS hV) rfl rfl hl.1 rfl (lv_room (Nat.le_of_ble_eq_true rfl)) dL_ends_183 ⟨Nat.le_of_ble_eq_true rfl, Nat.le_of_ble_eq_true rfl⟩) hS (fun r_24 u_23 H locs hp_22 hV hS => ?_)
        obtain ⟨hp_220, hY, hh⟩ := hp_22
        have hY : yI G S8 u_23 := hY
        have hp_220 : (nI (o9)) = r_24 := (hp_220.trans (vIS_0 ((nI (o9))) S8)).symm
        subst hp_220
        have hV : kV G (siteW G S8 u_23 ++ ([(na, aN (kcI G) 3 f)] ++ wr)) _ := hV
        have hI := b8.2
        refine lv_iload hx hb dL_ends_186 (lv_at hl 0 rfl) ?_
        refine lv_icmp_ne (tgt := 207) hx hb dL_ends_188 (by decide) (fun z => absurd rfl z) (fun _ => ?_)
        refine lv_aload_n hx hb dL_ends_191 rfl (lv_at hl 6 rfl) ?_
        refine lv_iload_n hx hb dL_ends_192 rfl (lv_at hl 5 rfl) ?_
        refine lv_iconst (v := nI 1) hx hb dL_ends_193 (by decide) ?_
        refine kn_add hx hb dL_ends_194 ?_
        refine kc_i (vx_runSW (As := [.ref (yh), .int (nI (n + 1))]) (rest := []) hF (c_L_original l G S8 u_23 yh ([(na, aN (kcI G) 3 f)] ++ wr) (nI (n + 1)) ((0, (nI (o9)), S8)) (by rw [ok_orig1 (by omega) (by omega) hB.2.2.2.2.1, hB.2.1]) hlt hh hI hY) (vx_cwSW 2 hts gL_ends_L_original rfl rfl rfl (by decide +kernel) ⟨Nat.le_of_ble_eq_true rfl, Nat.le_of_ble_eq_true rfl⟩) (kPreS hE hS hV) rfl rfl hl.1 rfl (lv_room (Nat.le_of_ble_eq_true rfl)) dL_ends_195 ⟨Nat.le_of_ble_eq_true rfl, Nat.le_of_ble_eq_true rfl⟩) hS (fun r_27 u_26 H locs hp_25 hV hS => ?_)
        obtain ⟨hp_250, hY, hh⟩ := hp_25
        have hY : yI G S8 u_26 := hY
        have hp_250 : (nI (o9)) = r_27 := (hp_250.trans (vI_0 ((nI (o9))) S8)).symm
        subst hp_250
        have hV : kV G (siteW G S8 u_26 ++ ([(na, aN (kcI G) 3 f)] ++ wr)) _ := hV
        refine lv_iload hx hb dL_ends_198 (lv_at hl 0 rfl) ?_
        refine lv_icmp_ne (tgt := 207) hx hb dL_ends_200 (by decide) (fun z => absurd rfl z) (fun _ => ?_)
        refine lv_iconst (v := nI 1) hx hb dL_ends_203 (by decide) ?_
        refine lv_goto (tgt := 208) hx hb dL_ends_204 (by decide) ?_
        refine lv_istore (lv' := [(7, .int (nI (1))), (8, .int (nI (o9))), (6, .int (nI (t9))), (5, .int (nI (u9))), (4, .int (nI (w9))), (3, .int (nI (n))), (0, .ref (yh)), (1, .ref (na)), (2, .int (nI (x)))]) hx hb dL_ends_208 hl (by decide) rfl (fun ls hl => ?_)
        refine lv_aload_n hx hb dL_ends_210 rfl (lv_at hl 6 rfl) ?_
        refine lv_iconst (v := nI 2) hx hb dL_ends_211 (by decide) ?_
        refine kc_i (vx_runSW (As := [.ref (yh), .int (nI (2))]) (rest := []) hF (c_L_money l G S8 u_26 yh ([(na, aN (kcI G) 3 f)] ++ wr) (nI 2) ((0, (S8.2.2 2), S8)) (ok_money (by decide)) hlt hh hI hY) (vx_cwSW 2 hts gL_ends_L_money rfl rfl rfl (by decide +kernel) ⟨Nat.le_of_ble_eq_true rfl, Nat.le_of_ble_eq_true rfl⟩) (kPreS hE hS hV) rfl rfl hl.1 rfl (lv_room (Nat.le_of_ble_eq_true rfl)) dL_ends_212 ⟨Nat.le_of_ble_eq_true rfl, Nat.le_of_ble_eq_true rfl⟩) hS (fun r_30 u_29 H locs hp_28 hV hS => ?_)
        obtain ⟨hp_280, hY, hh⟩ := hp_28
        have hY : yI G S8 u_29 := hY
        have hp_280 : (S8.2.2 2) = r_30 := (hp_280.trans (vI_0 ((S8.2.2 2)) S8)).symm
        subst hp_280
        have hV : kV G (siteW G S8 u_29 ++ ([(na, aN (kcI G) 3 f)] ++ wr)) _ := hV
        refine lv_istore (lv' := [(9, .int (S8.2.2 2)), (7, .int (nI (1))), (8, .int (nI (o9))), (6, .int (nI (t9))), (5, .int (nI (u9))), (4, .int (nI (w9))), (3, .int (nI (n))), (0, .ref (yh)), (1, .ref (na)), (2, .int (nI (x)))]) hx hb dL_ends_215 hl (by decide) rfl (fun ls hl => ?_)
        refine lv_aload_n hx hb dL_ends_217 rfl (lv_at hl 7 rfl) ?_
        refine lv_iload_n hx hb dL_ends_218 rfl (lv_at hl 6 rfl) ?_
        refine lv_iconst (v := nI 5) hx hb dL_ends_219 (by decide) ?_
        refine kc_i (vx_runSW (As := [.ref (yh), .int (nI (n)), .int (nI (5))]) (rest := []) hF (c_L_need l G S8 u_29 yh ([(na, aN (kcI G) 3 f)] ++ wr) (nI n) (nI 5) ((0, (nI (al)), S8)) (by rw [ok_need (by omega) (by omega) ⟨by decide, by decide⟩]; rw [← hal]; rfl) hlt hh hI hY) (vx_cwSW 3 hts gL_ends_L_need rfl rfl rfl (by decide +kernel) ⟨Nat.le_of_ble_eq_true rfl, Nat.le_of_ble_eq_true rfl⟩) (kPreS hE hS hV) rfl rfl hl.1 rfl (lv_room (Nat.le_of_ble_eq_true rfl)) dL_ends_220 ⟨Nat.le_of_ble_eq_true rfl, Nat.le_of_ble_eq_true rfl⟩) hS (fun r_33 u_32 H locs hp_31 hV hS => ?_)
        obtain ⟨hp_310, hY, hh⟩ := hp_31
        have hY : yI G S8 u_32 := hY
        have hp_310 : (nI (al)) = r_33 := (hp_310.trans (vIA_0 ((nI (al))) S8)).symm
        subst hp_310
        have hV : kV G (siteW G S8 u_32 ++ ([(na, aN (kcI G) 3 f)] ++ wr)) _ := hV
        refine lv_istore (lv' := [(10, .int (nI (al))), (9, .int (S8.2.2 2)), (7, .int (nI (1))), (8, .int (nI (o9))), (6, .int (nI (t9))), (5, .int (nI (u9))), (4, .int (nI (w9))), (3, .int (nI (n))), (0, .ref (yh)), (1, .ref (na)), (2, .int (nI (x)))]) hx hb dL_ends_223 hl (by decide) rfl (fun ls hl => ?_)
        have k364 : ∀ (T7 : kS) (y364 : kY) (hC : EC T7 S8 n t9) (hI : kInv T7) (hY : yI G T7 y364) (hh : yH y364 0 = yh) (H : Heap) (locs : List Loc), kV G (siteW G T7 y364 ++ ([(na, aN (kcI G) 3 f)] ++ wr)) H → va_S (kA G) s.heap H locs → ∀ (ls : Array Slot), lv_has ls 18 [(10, .int (nI (al))), (9, .int (S8.2.2 2)), (7, .int (nI (1))), (8, .int (nI (o9))), (6, .int (nI (t9))), (5, .int (nI (u9))), (4, .int (nI (w9))), (3, .int (nI (n))), (0, .ref (yh)), (1, .ref (na)), (2, .int (nI (x)))] → W pp l ee (headSpec wsL_ends ({ frames := 10, cells := 360, slots := 6000, locals := 262 } : Room)).room s m [.ref (yh), .ref (na), .int (nI (x))].toArray below meth cc0 H locs 92 3968 (MQ below (kQi G (S := kS × kY) (fun z _ => z = nI 1) (fun u => siteW G u.1 u.2 ++ ([(na, aN (kcI G) 3 f)] ++ wr))) [.ref (yh), .ref (na), .int (nI (x))].toArray s 360 6000 (kA G)) (F0 m 364 ls []) := by
          intro T7 y364 hC hI hY hh H locs hV hS ls hl
          obtain ⟨T1, T2, Y9, f1, f2, f3, f4, f5, f6, f7⟩ := ends_C hC hal (by omega) (by omega) (show 1 ≤ t9 ∧ t9 ≤ 12 by omega)
          rw [b15, hlt9] at f1 f3 f4 f7
          rw [b19, hpj9] at f4 f7
          refine lv_aload_n hx hb dL_ends_364 rfl (lv_at hl 9 rfl) ?_
          refine lv_iconst (v := nI 1) hx hb dL_ends_365 (by decide) ?_
          have hV9 : kV G ([(na, aN (kcI G) 3 f)] ++ (siteW G T7 y364 ++ (wr))) _ := kV_wc hV (fun e => by simp only [wc_app]; omega)
          refine kn_iald (G := G) (n := 3) (g := f) (j := 1) hx hb hK hV9 0 rfl (by decide) (by decide) dL_ends_366 ?_
          rw [show f 1 = lt from hn1]
          refine lv_istore (lv' := [(12, .int (nI (lt))), (10, .int (nI (al))), (9, .int (S8.2.2 2)), (7, .int (nI (1))), (8, .int (nI (o9))), (6, .int (nI (t9))), (5, .int (nI (u9))), (4, .int (nI (w9))), (3, .int (nI (n))), (0, .ref (yh)), (1, .ref (na)), (2, .int (nI (x)))]) hx hb dL_ends_367 hl (by decide) rfl (fun ls hl => ?_)
          refine lv_aload_n hx hb dL_ends_369 rfl (lv_at hl 10 rfl) ?_
          refine lv_iconst (v := nI 2) hx hb dL_ends_370 (by decide) ?_
          have hV9 : kV G ([(na, aN (kcI G) 3 f)] ++ (siteW G T7 y364 ++ (wr))) _ := kV_wc hV (fun e => by simp only [wc_app]; omega)
          refine kn_iald (G := G) (n := 3) (g := f) (j := 2) hx hb hK hV9 0 rfl (by decide) (by decide) dL_ends_371 ?_
          rw [show f 2 = pj from hn2]
          refine lv_istore (lv' := [(13, .int (nI (pj))), (12, .int (nI (lt))), (10, .int (nI (al))), (9, .int (S8.2.2 2)), (7, .int (nI (1))), (8, .int (nI (o9))), (6, .int (nI (t9))), (5, .int (nI (u9))), (4, .int (nI (w9))), (3, .int (nI (n))), (0, .ref (yh)), (1, .ref (na)), (2, .int (nI (x)))]) hx hb dL_ends_372 hl (by decide) rfl (fun ls hl => ?_)
          refine lv_iload hx hb dL_ends_374 (lv_at hl 4 rfl) ?_
          refine kn_if_eq_not hx hb (by decide) dL_ends_376 ?_ 422 (by decide)
          refine lv_aload_n hx hb dL_ends_379 rfl (lv_at hl 10 rfl) ?_
          refine lv_iconst (v := nI 1) hx hb dL_ends_380 (by decide) ?_
          refine lv_iconst (v := nI 5) hx hb dL_ends_381 (by decide) ?_
          refine lv_iload hx hb dL_ends_382 (lv_at hl 2 rfl) ?_
          refine kc_i (vx_runSW (As := [.ref (yh), .int (nI (1)), .int (nI (5)), .int (nI (al))]) (rest := []) hF (c_L_lots l G T7 y364 yh ([(na, aN (kcI G) 3 f)] ++ wr) (nI 1) (nI 5) (nI al) ((0, (nI (lt)), T1)) (f1) hlt hh hI hY) (vx_cwSW 4 hts gL_ends_L_lots rfl rfl rfl (by decide +kernel) ⟨Nat.le_of_ble_eq_true rfl, Nat.le_of_ble_eq_true rfl⟩) (kPreS hE hS hV) rfl rfl hl.1 rfl (lv_room (Nat.le_of_ble_eq_true rfl)) dL_ends_384 ⟨Nat.le_of_ble_eq_true rfl, Nat.le_of_ble_eq_true rfl⟩) hS (fun r_36 u_35 H locs hp_34 hV hS => ?_)
          obtain ⟨hp_340, hY, hh⟩ := hp_34
          have hY : yI G T1 u_35 := hY
          have hp_340 : (nI (lt)) = r_36 := (hp_340.trans (vIAS_0 ((nI (lt))) T1)).symm
          subst hp_340
          have hV : kV G (siteW G T1 u_35 ++ ([(na, aN (kcI G) 3 f)] ++ wr)) _ := hV
          have hI := f2
          refine lv_iload hx hb dL_ends_387 (lv_at hl 1 rfl) ?_
          refine lv_icmp_ne (tgt := 422) hx hb dL_ends_389 (by decide) (fun z => absurd rfl z) (fun _ => ?_)
          refine lv_aload_n hx hb dL_ends_392 rfl (lv_at hl 10 rfl) ?_
          refine lv_iconst (v := nI 3) hx hb dL_ends_393 (by decide) ?_
          refine lv_iload_n hx hb dL_ends_394 rfl (lv_at hl 9 rfl) ?_
          refine lv_iload hx hb dL_ends_395 (lv_at hl 1 rfl) ?_
          refine kc_i (vx_runSW (As := [.ref (yh), .int (nI (3)), .int (nI (n)), .int (nI (lt))]) (rest := []) hF (c_L_projects l G T1 u_35 yh ([(na, aN (kcI G) 3 f)] ++ wr) (nI 3) (nI n) (nI lt) ((2, 0, T1)) (f3) hlt hh hI hY) (vx_cwSW 4 hts gL_ends_L_projects rfl rfl rfl (by decide +kernel) ⟨Nat.le_of_ble_eq_true rfl, Nat.le_of_ble_eq_true rfl⟩) (kPreS hE hS hV) rfl rfl hl.1 rfl (lv_room (Nat.le_of_ble_eq_true rfl)) dL_ends_397 ⟨Nat.le_of_ble_eq_true rfl, Nat.le_of_ble_eq_true rfl⟩) hS (fun r_39 u_38 H locs hp_37 hV hS => ?_)
          obtain ⟨hp_370, hY, hh⟩ := hp_37
          have hY : yI G T1 u_38 := hY
          have hp_370 : (-2000000003) = r_39 := (hp_370.trans (vIS_2 0 T1)).symm
          subst hp_370
          have hV : kV G (siteW G T1 u_38 ++ ([(na, aN (kcI G) 3 f)] ++ wr)) _ := hV
          refine lv_ldc (v := -2000000003) hx hb hown (hts (Cond.constant RL 21 (-2000000003)) (List.mem_of_getElem? (i := 1) rfl)) dL_ends_400 ?_
          refine lv_icmp_ne (tgt := 422) hx hb dL_ends_402 (by decide) (fun z => absurd rfl z) (fun _ => ?_)
          refine lv_aload_n hx hb dL_ends_405 rfl (lv_at hl 10 rfl) ?_
          refine lv_iconst (v := nI 1) hx hb dL_ends_406 (by decide) ?_
          refine lv_iload_n hx hb dL_ends_407 rfl (lv_at hl 9 rfl) ?_
          refine lv_iload hx hb dL_ends_408 (lv_at hl 1 rfl) ?_
          refine kc_i (vx_runSW (As := [.ref (yh), .int (nI (1)), .int (nI (n)), .int (nI (lt))]) (rest := []) hF (c_L_projects l G T1 u_38 yh ([(na, aN (kcI G) 3 f)] ++ wr) (nI 1) (nI n) (nI lt) ((0, (nI (pj)), T2)) (f4) hlt hh hI hY) (vx_cwSW 4 hts gL_ends_L_projects rfl rfl rfl (by decide +kernel) ⟨Nat.le_of_ble_eq_true rfl, Nat.le_of_ble_eq_true rfl⟩) (kPreS hE hS hV) rfl rfl hl.1 rfl (lv_room (Nat.le_of_ble_eq_true rfl)) dL_ends_410 ⟨Nat.le_of_ble_eq_true rfl, Nat.le_of_ble_eq_true rfl⟩) hS (fun r_42 u_41 H locs hp_40 hV hS => ?_)
          obtain ⟨hp_400, hY, hh⟩ := hp_40
          have hY : yI G T2 u_41 := hY
          have hp_400 : (nI (pj)) = r_42 := (hp_400.trans (vIS_0 ((nI (pj))) T2)).symm
          subst hp_400
          have hV : kV G (siteW G T2 u_41 ++ ([(na, aN (kcI G) 3 f)] ++ wr)) _ := hV
          have hI := f5
          refine lv_iload hx hb dL_ends_413 (lv_at hl 0 rfl) ?_
          refine lv_icmp_ne (tgt := 422) hx hb dL_ends_415 (by decide) (fun z => absurd rfl z) (fun _ => ?_)
          refine lv_iconst (v := nI 1) hx hb dL_ends_418 (by decide) ?_
          refine lv_goto (tgt := 423) hx hb dL_ends_419 (by decide) ?_
          refine lv_istore (lv' := [(7, .int (nI (1))), (13, .int (nI (pj))), (12, .int (nI (lt))), (10, .int (nI (al))), (9, .int (S8.2.2 2)), (8, .int (nI (o9))), (6, .int (nI (t9))), (5, .int (nI (u9))), (4, .int (nI (w9))), (3, .int (nI (n))), (0, .ref (yh)), (1, .ref (na)), (2, .int (nI (x)))]) hx hb dL_ends_423 hl (by decide) rfl (fun ls hl => ?_)
          refine lv_iconst (v := nI 0) hx hb dL_ends_425 (by decide) ?_
          refine lv_istore (lv' := [(14, .int (nI (0))), (7, .int (nI (1))), (13, .int (nI (pj))), (12, .int (nI (lt))), (10, .int (nI (al))), (9, .int (S8.2.2 2)), (8, .int (nI (o9))), (6, .int (nI (t9))), (5, .int (nI (u9))), (4, .int (nI (w9))), (3, .int (nI (n))), (0, .ref (yh)), (1, .ref (na)), (2, .int (nI (x)))]) hx hb dL_ends_426 hl (by decide) rfl (fun ls hl => ?_)
          have hl : lv_has ls 18 [(14, .int (nI (sumN (fun r => 5 * Y9 r) 0))), (7, .int (nI (1))), (13, .int (nI (pj))), (12, .int (nI (lt))), (10, .int (nI (al))), (9, .int (S8.2.2 2)), (8, .int (nI (o9))), (6, .int (nI (t9))), (5, .int (nI (u9))), (4, .int (nI (w9))), (3, .int (nI (n))), (0, .ref (yh)), (1, .ref (na)), (2, .int (nI (x)))] := hl
          refine lv_iconst (v := nI 0) hx hb dL_ends_428 (by decide) ?_
          refine lv_istore (lv' := [(15, .int (nI (0))), (14, .int (nI (sumN (fun r => 5 * Y9 r) 0))), (7, .int (nI (1))), (13, .int (nI (pj))), (12, .int (nI (lt))), (10, .int (nI (al))), (9, .int (S8.2.2 2)), (8, .int (nI (o9))), (6, .int (nI (t9))), (5, .int (nI (u9))), (4, .int (nI (w9))), (3, .int (nI (n))), (0, .ref (yh)), (1, .ref (na)), (2, .int (nI (x)))]) hx hb dL_ends_429 hl (by decide) rfl (fun ls hl => ?_)
          have k431 : ∀ (nk431 : Nat) (k : Nat) (T6 : kS) (y431 : kY) (hk : k ≤ 2 * t9) (hEk : eK T6 lt pj n (2 * t9) Y9 k) (hY : yI G T6 y431) (hh : yH y431 0 = yh) (hmk431 : 2 * t9 - k < nk431) (H : Heap) (locs : List Loc), kV G (siteW G T6 y431 ++ ([(na, aN (kcI G) 3 f)] ++ wr)) H → va_S (kA G) s.heap H locs → ∀ (ls : Array Slot), lv_has ls 18 [(15, .int (nI (k))), (14, .int (nI (sumN (fun r => 5 * Y9 r) k))), (7, .int (nI (1))), (13, .int (nI (pj))), (12, .int (nI (lt))), (10, .int (nI (al))), (9, .int (S8.2.2 2)), (8, .int (nI (o9))), (6, .int (nI (t9))), (5, .int (nI (u9))), (4, .int (nI (w9))), (3, .int (nI (n))), (0, .ref (yh)), (1, .ref (na)), (2, .int (nI (x)))] → W pp l ee (headSpec wsL_ends ({ frames := 10, cells := 360, slots := 6000, locals := 262 } : Room)).room s m [.ref (yh), .ref (na), .int (nI (x))].toArray below meth cc0 H locs ((200 + 5 * k)) ((5000 + 30 * k)) (MQ below (kQi G (S := kS × kY) (fun z _ => z = nI 1) (fun u => siteW G u.1 u.2 ++ ([(na, aN (kcI G) 3 f)] ++ wr))) [.ref (yh), .ref (na), .int (nI (x))].toArray s 360 6000 (kA G)) (F0 m 431 ls []) := by
            intro nk431
            induction nk431 with
            | zero => intro k T6 y431 hk hEk hY hh hmk431; exact absurd hmk431 (Nat.not_lt_zero _)
            | succ nk431 ihk431 =>
              intro k T6 y431 hk hEk hY hh hmk431 H locs hV hS ls hl
              refine lv_iload hx hb dL_ends_431 (lv_at hl 0 rfl) ?_
              refine lv_iconst (v := nI 2) hx hb dL_ends_433 (by decide) ?_
              refine lv_iload hx hb dL_ends_434 (lv_at hl 8 rfl) ?_
              refine kn_mul hx hb dL_ends_436 ?_
              refine kn_ge (tgt := 535) hx hb (by omega) (by omega) dL_ends_437 (by decide) (fun c437 => ?_) (fun c437 => ?_)
              · have hke : k = 2 * t9 := by omega
                have g7 := eK_end (by rw [hke] at hEk; exact hEk)
                have hI := hEk.1
                have hb6 := hI.1.2.1
                have hb7 := hI.1.2.2.1
                have hal9 : sumN (fun r => 5 * Y9 r) k = al := by rw [hke]; exact f6
                have hal8 : al ≤ 600 * (2 * t9) := by have h9 := (nd5_in (b8.2.2.1 n (by omega)).1).2; rw [hB.2.2.2.2.2.2.2.2.2.2.2.1, hal] at h9; exact h9
                refine lv_iload hx hb dL_ends_535 (lv_at hl 2 rfl) ?_
                refine kn_if_eq_not hx hb (by decide) dL_ends_537 ?_ 584 (by decide)
                refine lv_iload hx hb dL_ends_540 (lv_at hl 1 rfl) ?_
                refine lv_iload hx hb dL_ends_542 (lv_at hl 5 rfl) ?_
                refine kn_ne (tgt := 584) hx hb (by omega) (by omega) dL_ends_544 (by decide) (fun z => absurd hal9 z) (fun c544 => ?_)
                refine lv_aload_n hx hb dL_ends_547 rfl (lv_at hl 12 rfl) ?_
                refine lv_iload hx hb dL_ends_548 (lv_at hl 4 rfl) ?_
                refine kc_i (vx_runSW (As := [.ref (yh), .int (nI (lt))]) (rest := []) hF (c_L_left l G T6 y431 yh ([(na, aN (kcI G) 3 f)] ++ wr) (nI lt) ((0, (nI (0)), T6)) (by rw [ok_left (by omega) hEk.2.1, g7.1]) hlt hh hI hY) (vx_cwSW 2 hts gL_ends_L_left rfl rfl rfl (by decide +kernel) ⟨Nat.le_of_ble_eq_true rfl, Nat.le_of_ble_eq_true rfl⟩) (kPreS hE hS hV) rfl rfl hl.1 rfl (lv_room (Nat.le_of_ble_eq_true rfl)) dL_ends_550 ⟨(show (200 + 5 * k) + 1 ≤ 360 by omega), (show (5000 + 30 * k) + 6 ≤ 6000 by omega)⟩) hS (fun r_45 u_44 H locs hp_43 hV hS => ?_)
                obtain ⟨hp_430, hY, hh⟩ := hp_43
                have hY : yI G T6 u_44 := hY
                have hp_430 : (nI (0)) = r_45 := (hp_430.trans (vI_0 ((nI (0))) T6)).symm
                subst hp_430
                have hV : kV G (siteW G T6 u_44 ++ ([(na, aN (kcI G) 3 f)] ++ wr)) _ := hV
                refine kn_if_ne_not hx hb (by decide) dL_ends_553 ?_ 584 (by decide)
                refine lv_aload_n hx hb dL_ends_556 rfl (lv_at hl 12 rfl) ?_
                refine lv_iload hx hb dL_ends_557 (lv_at hl 3 rfl) ?_
                refine lv_bipush (v := nI 40) hx hb dL_ends_559 (by decide) ?_
                refine kc_i (vx_runSW (As := [.ref (yh), .int (nI (pj)), .int (nI (40))]) (rest := []) hF (c_L_knits l G T6 u_44 yh ([(na, aN (kcI G) 3 f)] ++ wr) (nI pj) (nI 40) ((0, (nI (0)), T6)) (g7.2.1) hlt hh hI hY) (vx_cwSW 3 hts gL_ends_L_knits rfl rfl rfl (by decide +kernel) ⟨Nat.le_of_ble_eq_true rfl, Nat.le_of_ble_eq_true rfl⟩) (kPreS hE hS hV) rfl rfl hl.1 rfl (lv_room (Nat.le_of_ble_eq_true rfl)) dL_ends_561 ⟨(show (200 + 5 * k) + 1 + 2 ≤ 360 by omega), (show (5000 + 30 * k) + 6 + 12 ≤ 6000 by omega)⟩) hS (fun r_48 u_47 H locs hp_46 hV hS => ?_)
                obtain ⟨hp_460, hY, hh⟩ := hp_46
                have hY : yI G T6 u_47 := hY
                have hp_460 : (nI (0)) = r_48 := (hp_460.trans (vIA_0 ((nI (0))) T6)).symm
                subst hp_460
                have hV : kV G (siteW G T6 u_47 ++ ([(na, aN (kcI G) 3 f)] ++ wr)) _ := hV
                refine kn_if_ne_not hx hb (by decide) dL_ends_564 ?_ 584 (by decide)
                refine lv_aload_n hx hb dL_ends_567 rfl (lv_at hl 12 rfl) ?_
                refine lv_iload hx hb dL_ends_568 (lv_at hl 3 rfl) ?_
                refine lv_iload hx hb dL_ends_570 (lv_at hl 4 rfl) ?_
                refine kc_i (vx_runSW (As := [.ref (yh), .int (nI (pj)), .int (nI (lt))]) (rest := []) hF (c_L_takes l G T6 u_47 yh ([(na, aN (kcI G) 3 f)] ++ wr) (nI pj) (nI lt) ((0, (nI (lt)), (st T6 22 pj lt))) (g7.2.2) hlt hh hI hY) (vx_cwSW 3 hts gL_ends_L_takes rfl rfl rfl (by decide +kernel) ⟨Nat.le_of_ble_eq_true rfl, Nat.le_of_ble_eq_true rfl⟩) (kPreS hE hS hV) rfl rfl hl.1 rfl (lv_room (Nat.le_of_ble_eq_true rfl)) dL_ends_572 ⟨(show (200 + 5 * k) + 1 + 2 + 3 ≤ 360 by omega), (show (5000 + 30 * k) + 6 + 12 + 18 ≤ 6000 by omega)⟩) hS (fun r_51 u_50 H locs hp_49 hV hS => ?_)
                obtain ⟨hp_490, hY, hh⟩ := hp_49
                have hY : yI G ((st T6 22 pj lt)) u_50 := hY
                have hp_490 : (nI (lt)) = r_51 := (hp_490.trans (vIS_0 ((nI (lt))) ((st T6 22 pj lt)))).symm
                subst hp_490
                have hV : kV G (siteW G ((st T6 22 pj lt)) u_50 ++ ([(na, aN (kcI G) 3 f)] ++ wr)) _ := hV
                refine lv_iload hx hb dL_ends_575 (lv_at hl 4 rfl) ?_
                refine lv_icmp_ne (tgt := 584) hx hb dL_ends_577 (by decide) (fun z => absurd rfl z) (fun _ => ?_)
                refine lv_iconst (v := nI 1) hx hb dL_ends_580 (by decide) ?_
                refine lv_goto (tgt := 585) hx hb dL_ends_581 (by decide) ?_
                refine W.widen (k := 360) (n := 6000) (by omega) (by omega) ?_
                exact W.zret (v := nI 1) hx hb hrt (by decide) (fun t ht hW => ⟨⟨_, ((st T6 22 pj lt), u_50), rfl, rfl, kV_eq ht hV⟩, hS.F ht⟩) hS.2.2 dL_ends_585
              · refine lv_iload hx hb dL_ends_440 (lv_at hl 2 rfl) ?_
                refine kn_if_eq_not hx hb (by decide) dL_ends_442 ?_ 535 (by decide)
                obtain ⟨g1, g2, g3, g4⟩ := eK_step hEk c437
                have hI := hEk.1
                have hb6 := hI.1.2.1
                have hb7 := hI.1.2.2.1
                have hb8 := g2.1.1.2.1
                have hb9 := g2.1.1.2.2.1
                have hYk := hEk.2.2.2.2.2.2.2.2.2.2.2.2 k
                refine lv_aload_n hx hb dL_ends_445 rfl (lv_at hl 12 rfl) ?_
                refine lv_iload hx hb dL_ends_446 (lv_at hl 4 rfl) ?_
                refine kc_i (vx_runSW (As := [.ref (yh), .int (nI (lt))]) (rest := []) hF (c_L_left l G T6 y431 yh ([(na, aN (kcI G) 3 f)] ++ wr) (nI lt) ((0, (nI (T6.1 18 lt)), T6)) (ok_left (by omega) hEk.2.1) hlt hh hI hY) (vx_cwSW 2 hts gL_ends_L_left rfl rfl rfl (by decide +kernel) ⟨Nat.le_of_ble_eq_true rfl, Nat.le_of_ble_eq_true rfl⟩) (kPreS hE hS hV) rfl rfl hl.1 rfl (lv_room (Nat.le_of_ble_eq_true rfl)) dL_ends_448 ⟨(show (200 + 5 * k) + 1 ≤ 360 by omega), (show (5000 + 30 * k) + 6 ≤ 6000 by omega)⟩) hS (fun r_54 u_53 H locs hp_52 hV hS => ?_)
                obtain ⟨hp_520, hY, hh⟩ := hp_52
                have hY : yI G T6 u_53 := hY
                have hp_520 : (nI (T6.1 18 lt)) = r_54 := (hp_520.trans (vI_0 ((nI (T6.1 18 lt))) T6)).symm
                subst hp_520
                have hV : kV G (siteW G T6 u_53 ++ ([(na, aN (kcI G) 3 f)] ++ wr)) _ := hV
                refine lv_istore (lv' := [(16, .int (nI (T6.1 18 lt))), (15, .int (nI (k))), (14, .int (nI (sumN (fun r => 5 * Y9 r) k))), (7, .int (nI (1))), (13, .int (nI (pj))), (12, .int (nI (lt))), (10, .int (nI (al))), (9, .int (S8.2.2 2)), (8, .int (nI (o9))), (6, .int (nI (t9))), (5, .int (nI (u9))), (4, .int (nI (w9))), (3, .int (nI (n))), (0, .ref (yh)), (1, .ref (na)), (2, .int (nI (x)))]) hx hb dL_ends_451 hl (by decide) rfl (fun ls hl => ?_)
                refine lv_aload_n hx hb dL_ends_453 rfl (lv_at hl 13 rfl) ?_
                refine lv_iload hx hb dL_ends_454 (lv_at hl 4 rfl) ?_
                refine lv_iconst (v := nI 1) hx hb dL_ends_456 (by decide) ?_
                refine kc_i (vx_runSW (As := [.ref (yh), .int (nI (pj)), .int (nI (1))]) (rest := []) hF (c_L_knits l G T6 u_53 yh ([(na, aN (kcI G) 3 f)] ++ wr) (nI pj) (nI 1) ((0, (nI (1)), (knit1 T6 pj))) (g1) hlt hh hI hY) (vx_cwSW 3 hts gL_ends_L_knits rfl rfl rfl (by decide +kernel) ⟨Nat.le_of_ble_eq_true rfl, Nat.le_of_ble_eq_true rfl⟩) (kPreS hE hS hV) rfl rfl hl.1 rfl (lv_room (Nat.le_of_ble_eq_true rfl)) dL_ends_457 ⟨(show (200 + 5 * k) + 1 + 2 ≤ 360 by omega), (show (5000 + 30 * k) + 6 + 12 ≤ 6000 by omega)⟩) hS (fun r_57 u_56 H locs hp_55 hV hS => ?_)
                obtain ⟨hp_550, hY, hh⟩ := hp_55
                have hY : yI G ((knit1 T6 pj)) u_56 := hY
                have hp_550 : (nI (1)) = r_57 := (hp_550.trans (vIA_0 ((nI (1))) ((knit1 T6 pj)))).symm
                subst hp_550
                have hV : kV G (siteW G ((knit1 T6 pj)) u_56 ++ ([(na, aN (kcI G) 3 f)] ++ wr)) _ := hV
                have hI := g2.1
                refine lv_iconst (v := nI 1) hx hb dL_ends_460 (by decide) ?_
                refine lv_icmp_ne (tgt := 481) hx hb dL_ends_461 (by decide) (fun z => absurd rfl z) (fun _ => ?_)
                refine lv_aload_n hx hb dL_ends_464 rfl (lv_at hl 13 rfl) ?_
                refine lv_iload hx hb dL_ends_465 (lv_at hl 4 rfl) ?_
                refine kc_i (vx_runSW (As := [.ref (yh), .int (nI (pj))]) (rest := []) hF (c_L_progress l G ((knit1 T6 pj)) u_56 yh ([(na, aN (kcI G) 3 f)] ++ wr) (nI pj) ((0, (nI (k + 1)), (knit1 T6 pj))) (by rw [ok_progress (by omega) g2.2.2.1, g2.2.2.2.2.2.2.2.2.1]) hlt hh hI hY) (vx_cwSW 2 hts gL_ends_L_progress rfl rfl rfl (by decide +kernel) ⟨Nat.le_of_ble_eq_true rfl, Nat.le_of_ble_eq_true rfl⟩) (kPreS hE hS hV) rfl rfl hl.1 rfl (lv_room (Nat.le_of_ble_eq_true rfl)) dL_ends_467 ⟨(show (200 + 5 * k) + 1 + 2 + 1 ≤ 360 by omega), (show (5000 + 30 * k) + 6 + 12 + 6 ≤ 6000 by omega)⟩) hS (fun r_60 u_59 H locs hp_58 hV hS => ?_)
                obtain ⟨hp_580, hY, hh⟩ := hp_58
                have hY : yI G ((knit1 T6 pj)) u_59 := hY
                have hp_580 : (nI (k + 1)) = r_60 := (hp_580.trans (vI_0 ((nI (k + 1))) ((knit1 T6 pj)))).symm
                subst hp_580
                have hV : kV G (siteW G ((knit1 T6 pj)) u_59 ++ ([(na, aN (kcI G) 3 f)] ++ wr)) _ := hV
                refine lv_iload hx hb dL_ends_470 (lv_at hl 1 rfl) ?_
                refine lv_iconst (v := nI 1) hx hb dL_ends_472 (by decide) ?_
                refine kn_add hx hb dL_ends_473 ?_
                refine lv_icmp_ne (tgt := 481) hx hb dL_ends_474 (by decide) (fun z => absurd rfl z) (fun _ => ?_)
                refine lv_iconst (v := nI 1) hx hb dL_ends_477 (by decide) ?_
                refine lv_goto (tgt := 482) hx hb dL_ends_478 (by decide) ?_
                refine lv_istore (lv' := [(7, .int (nI (1))), (16, .int (nI (T6.1 18 lt))), (15, .int (nI (k))), (14, .int (nI (sumN (fun r => 5 * Y9 r) k))), (13, .int (nI (pj))), (12, .int (nI (lt))), (10, .int (nI (al))), (9, .int (S8.2.2 2)), (8, .int (nI (o9))), (6, .int (nI (t9))), (5, .int (nI (u9))), (4, .int (nI (w9))), (3, .int (nI (n))), (0, .ref (yh)), (1, .ref (na)), (2, .int (nI (x)))]) hx hb dL_ends_482 hl (by decide) rfl (fun ls hl => ?_)
                refine lv_iload hx hb dL_ends_484 (lv_at hl 1 rfl) ?_
                refine lv_aload_n hx hb dL_ends_486 rfl (lv_at hl 13 rfl) ?_
                refine lv_iload hx hb dL_ends_487 (lv_at hl 5 rfl) ?_
                refine kc_i (vx_runSW (As := [.ref (yh), .int (nI (lt))]) (rest := [.int (nI (T6.1 18 lt))]) hF (c_L_left l G ((knit1 T6 pj)) u_59 yh ([(na, aN (kcI G) 3 f)] ++ wr) (nI lt) ((0, (nI ((knit1 T6 pj).1 18 lt)), (knit1 T6 pj))) (ok_left (by omega) g2.2.1) hlt hh hI hY) (vx_cwSW 2 hts gL_ends_L_left rfl rfl rfl (by decide +kernel) ⟨Nat.le_of_ble_eq_true rfl, Nat.le_of_ble_eq_true rfl⟩) (kPreS hE hS hV) rfl rfl hl.1 rfl (lv_room (Nat.le_of_ble_eq_true rfl)) dL_ends_489 ⟨(show (200 + 5 * k) + 1 + 2 + 1 + 1 ≤ 360 by omega), (show (5000 + 30 * k) + 6 + 12 + 6 + 6 ≤ 6000 by omega)⟩) hS (fun r_63 u_62 H locs hp_61 hV hS => ?_)
                obtain ⟨hp_610, hY, hh⟩ := hp_61
                have hY : yI G ((knit1 T6 pj)) u_62 := hY
                have hp_610 : (nI ((knit1 T6 pj).1 18 lt)) = r_63 := (hp_610.trans (vI_0 ((nI ((knit1 T6 pj).1 18 lt))) ((knit1 T6 pj)))).symm
                subst hp_610
                have hV : kV G (siteW G ((knit1 T6 pj)) u_62 ++ ([(na, aN (kcI G) 3 f)] ++ wr)) _ := hV
                refine kn_sub hx hb (by omega) dL_ends_492 ?_
                rw [show (T6.1 18 lt) - ((knit1 T6 pj).1 18 lt) = 5 * Y9 k from by omega]
                refine lv_istore (lv' := [(17, .int (nI (5 * Y9 k))), (7, .int (nI (1))), (16, .int (nI (T6.1 18 lt))), (15, .int (nI (k))), (14, .int (nI (sumN (fun r => 5 * Y9 r) k))), (13, .int (nI (pj))), (12, .int (nI (lt))), (10, .int (nI (al))), (9, .int (S8.2.2 2)), (8, .int (nI (o9))), (6, .int (nI (t9))), (5, .int (nI (u9))), (4, .int (nI (w9))), (3, .int (nI (n))), (0, .ref (yh)), (1, .ref (na)), (2, .int (nI (x)))]) hx hb dL_ends_493 hl (by decide) rfl (fun ls hl => ?_)
                refine lv_iload hx hb dL_ends_495 (lv_at hl 4 rfl) ?_
                refine lv_iload hx hb dL_ends_497 (lv_at hl 0 rfl) ?_
                refine kn_add hx hb dL_ends_499 ?_
                refine lv_istore (lv' := [(14, .int (nI ((sumN (fun r => 5 * Y9 r) k) + (5 * Y9 k)))), (17, .int (nI (5 * Y9 k))), (7, .int (nI (1))), (16, .int (nI (T6.1 18 lt))), (15, .int (nI (k))), (13, .int (nI (pj))), (12, .int (nI (lt))), (10, .int (nI (al))), (9, .int (S8.2.2 2)), (8, .int (nI (o9))), (6, .int (nI (t9))), (5, .int (nI (u9))), (4, .int (nI (w9))), (3, .int (nI (n))), (0, .ref (yh)), (1, .ref (na)), (2, .int (nI (x)))]) hx hb dL_ends_500 hl (by decide) rfl (fun ls hl => ?_)
                refine lv_iload hx hb dL_ends_502 (lv_at hl 2 rfl) ?_
                refine kn_if_eq_not hx hb (by decide) dL_ends_504 ?_ 526 (by decide)
                refine lv_iload hx hb dL_ends_507 (lv_at hl 1 rfl) ?_
                refine lv_bipush (v := nI 10) hx hb dL_ends_509 (by decide) ?_
                refine kn_lt (tgt := 526) hx hb (by omega) (by decide) dL_ends_511 (by decide) (fun z => absurd z (by omega)) (fun c511 => ?_)
                refine lv_iload hx hb dL_ends_514 (lv_at hl 1 rfl) ?_
                refine lv_sipush (v := nI 600) hx hb dL_ends_516 (by decide) ?_
                refine kn_gt (tgt := 526) hx hb (by omega) (by decide) dL_ends_519 (by decide) (fun z => absurd z (by omega)) (fun c519 => ?_)
                refine lv_iconst (v := nI 1) hx hb dL_ends_522 (by decide) ?_
                refine lv_goto (tgt := 527) hx hb dL_ends_523 (by decide) ?_
                refine lv_istore (lv' := [(7, .int (nI (1))), (14, .int (nI ((sumN (fun r => 5 * Y9 r) k) + (5 * Y9 k)))), (17, .int (nI (5 * Y9 k))), (16, .int (nI (T6.1 18 lt))), (15, .int (nI (k))), (13, .int (nI (pj))), (12, .int (nI (lt))), (10, .int (nI (al))), (9, .int (S8.2.2 2)), (8, .int (nI (o9))), (6, .int (nI (t9))), (5, .int (nI (u9))), (4, .int (nI (w9))), (3, .int (nI (n))), (0, .ref (yh)), (1, .ref (na)), (2, .int (nI (x)))]) hx hb dL_ends_527 hl (by decide) rfl (fun ls hl => ?_)
                refine lv_iinc (lv' := [(15, .int (nI (k + 1))), (7, .int (nI (1))), (14, .int (nI ((sumN (fun r => 5 * Y9 r) k) + (5 * Y9 k)))), (17, .int (nI (5 * Y9 k))), (16, .int (nI (T6.1 18 lt))), (13, .int (nI (pj))), (12, .int (nI (lt))), (10, .int (nI (al))), (9, .int (S8.2.2 2)), (8, .int (nI (o9))), (6, .int (nI (t9))), (5, .int (nI (u9))), (4, .int (nI (w9))), (3, .int (nI (n))), (0, .ref (yh)), (1, .ref (na)), (2, .int (nI (x)))]) hx hb dL_ends_529 hl (k := 4) rfl (kn_iinc k 1) (by decide) rfl (fun ls hl => ?_)
                refine lv_goto (tgt := 431) hx hb dL_ends_532 (by decide) ?_
                refine W.widen (k := (200 + 5 * (k + 1))) (n := (5000 + 30 * (k + 1))) (by omega) (by omega) ?_
                exact ihk431 (k + 1) ((knit1 T6 pj)) u_62 (by omega) g2 hY hh (by omega) _ _ hV hS ls (lv_sub hl [0, 2, 1, 5, 6, 7, 8, 9, 10, 11, 12, 13, 14, 15, 16] rfl)
          refine W.widen (k := (200 + 5 * 0)) (n := (5000 + 30 * 0)) (by omega) (by omega) ?_
          exact k431 ((2 * t9 - 0) + 1) 0 T2 u_41 (by omega) f7 hY hh (Nat.lt_succ_self _) _ _ hV hS ls (lv_sub hl [0, 1, 2, 3, 4, 5, 6, 7, 8, 9, 10, 11, 12, 13, 14] rfl)
        refine lv_iload hx hb dL_ends_225 (lv_at hl 2 rfl) ?_
        refine kn_if_eq_not hx hb (by decide) dL_ends_227 ?_ 263 (by decide)
        refine lv_aload_n hx hb dL_ends_230 rfl (lv_at hl 8 rfl) ?_
        refine lv_iload_n hx hb dL_ends_231 rfl (lv_at hl 7 rfl) ?_
        refine lv_iconst (v := nI 1) hx hb dL_ends_232 (by decide) ?_
        refine kn_add hx hb dL_ends_233 ?_
        refine lv_iconst (v := nI 3) hx hb dL_ends_234 (by decide) ?_
        refine kc_i (vx_runSW (As := [.ref (yh), .int (nI (n + 1)), .int (nI (3))]) (rest := []) hF (c_L_buys l G S8 u_32 yh ([(na, aN (kcI G) 3 f)] ++ wr) (nI (n + 1)) (nI 3) ((0, ((S8.2.2 2) + nI 60), S9)) (b9.1) hlt hh hI hY) (vx_cwSW 3 hts gL_ends_L_buys rfl rfl rfl (by decide +kernel) ⟨Nat.le_of_ble_eq_true rfl, Nat.le_of_ble_eq_true rfl⟩) (kPreS hE hS hV) rfl rfl hl.1 rfl (lv_room (Nat.le_of_ble_eq_true rfl)) dL_ends_235 ⟨Nat.le_of_ble_eq_true rfl, Nat.le_of_ble_eq_true rfl⟩) hS (fun r_66 u_65 H locs hp_64 hV hS => ?_)
        obtain ⟨hp_640, hY, hh⟩ := hp_64
        have hY : yI G S9 u_65 := hY
        have hp_640 : ((S8.2.2 2) + nI 60) = r_66 := (hp_640.trans (vIS_0 (((S8.2.2 2) + nI 60)) S9)).symm
        subst hp_640
        have hV : kV G (siteW G S9 u_65 ++ ([(na, aN (kcI G) 3 f)] ++ wr)) _ := hV
        have hI := b9.2
        refine lv_iload hx hb dL_ends_238 (lv_at hl 1 rfl) ?_
        refine lv_bipush (v := nI 60) hx hb dL_ends_240 (by decide) ?_
        refine lv_iadd hx hb dL_ends_242 ?_
        refine lv_icmp_ne (tgt := 263) hx hb dL_ends_243 (by decide) (fun z => absurd rfl z) (fun _ => ?_)
        refine lv_aload_n hx hb dL_ends_246 rfl (lv_at hl 8 rfl) ?_
        refine lv_iload_n hx hb dL_ends_247 rfl (lv_at hl 7 rfl) ?_
        refine lv_iconst (v := nI 1) hx hb dL_ends_248 (by decide) ?_
        refine kn_add hx hb dL_ends_249 ?_
        refine lv_iconst (v := nI 3) hx hb dL_ends_250 (by decide) ?_
        refine kc_i (vx_runSW (As := [.ref (yh), .int (nI (n + 1)), .int (nI (3))]) (rest := []) hF (c_L_buys l G S9 u_65 yh ([(na, aN (kcI G) 3 f)] ++ wr) (nI (n + 1)) (nI 3) ((2, 0, S9)) (b9b) hlt hh hI hY) (vx_cwSW 3 hts gL_ends_L_buys rfl rfl rfl (by decide +kernel) ⟨Nat.le_of_ble_eq_true rfl, Nat.le_of_ble_eq_true rfl⟩) (kPreS hE hS hV) rfl rfl hl.1 rfl (lv_room (Nat.le_of_ble_eq_true rfl)) dL_ends_251 ⟨Nat.le_of_ble_eq_true rfl, Nat.le_of_ble_eq_true rfl⟩) hS (fun r_69 u_68 H locs hp_67 hV hS => ?_)
        obtain ⟨hp_670, hY, hh⟩ := hp_67
        have hY : yI G S9 u_68 := hY
        have hp_670 : (-2000000003) = r_69 := (hp_670.trans (vIS_2 0 S9)).symm
        subst hp_670
        have hV : kV G (siteW G S9 u_68 ++ ([(na, aN (kcI G) 3 f)] ++ wr)) _ := hV
        refine lv_ldc (v := -2000000003) hx hb hown (hts (Cond.constant RL 21 (-2000000003)) (List.mem_of_getElem? (i := 1) rfl)) dL_ends_254 ?_
        refine lv_icmp_ne (tgt := 263) hx hb dL_ends_256 (by decide) (fun z => absurd rfl z) (fun _ => ?_)
        refine lv_iconst (v := nI 1) hx hb dL_ends_259 (by decide) ?_
        refine lv_goto (tgt := 264) hx hb dL_ends_260 (by decide) ?_
        refine lv_istore (lv' := [(7, .int (nI (1))), (10, .int (nI (al))), (9, .int (S8.2.2 2)), (8, .int (nI (o9))), (6, .int (nI (t9))), (5, .int (nI (u9))), (4, .int (nI (w9))), (3, .int (nI (n))), (0, .ref (yh)), (1, .ref (na)), (2, .int (nI (x)))]) hx hb dL_ends_264 hl (by decide) rfl (fun ls hl => ?_)
        rcases hR with ⟨T8, d1, d2, d3, d4, d5⟩ | ⟨d1, d2, d5⟩
        · refine lv_aload_n hx hb dL_ends_266 rfl (lv_at hl 8 rfl) ?_
          refine lv_iload_n hx hb dL_ends_267 rfl (lv_at hl 7 rfl) ?_
          refine lv_iconst (v := nI 1) hx hb dL_ends_268 (by decide) ?_
          refine kn_add hx hb dL_ends_269 ?_
          refine kc_i (vx_runSW (As := [.ref (yh), .int (nI (n + 1))]) (rest := []) hF (c_L_rules l G S9 u_68 yh ([(na, aN (kcI G) 3 f)] ++ wr) (nI (n + 1)) ((0, (nI (60)), T8)) (d1) hlt hh hI hY) (vx_cwSW 2 hts gL_ends_L_rules rfl rfl rfl (by decide +kernel) ⟨Nat.le_of_ble_eq_true rfl, Nat.le_of_ble_eq_true rfl⟩) (kPreS hE hS hV) rfl rfl hl.1 rfl (lv_room (Nat.le_of_ble_eq_true rfl)) dL_ends_270 ⟨Nat.le_of_ble_eq_true rfl, Nat.le_of_ble_eq_true rfl⟩) hS (fun r_72 u_71 H locs hp_70 hV hS => ?_)
          obtain ⟨hp_700, hY, hh⟩ := hp_70
          have hY : yI G T8 u_71 := hY
          have hp_700 : (nI (60)) = r_72 := (hp_700.trans (vIS_0 ((nI (60))) T8)).symm
          subst hp_700
          have hV : kV G (siteW G T8 u_71 ++ ([(na, aN (kcI G) 3 f)] ++ wr)) _ := hV
          have hI := d5.1
          refine lv_istore (lv' := [(11, .int (nI (60))), (7, .int (nI (1))), (10, .int (nI (al))), (9, .int (S8.2.2 2)), (8, .int (nI (o9))), (6, .int (nI (t9))), (5, .int (nI (u9))), (4, .int (nI (w9))), (3, .int (nI (n))), (0, .ref (yh)), (1, .ref (na)), (2, .int (nI (x)))]) hx hb dL_ends_273 hl (by decide) rfl (fun ls hl => ?_)
          refine lv_iload hx hb dL_ends_275 (lv_at hl 1 rfl) ?_
          refine kn_if_eq_not hx hb (by decide) dL_ends_277 ?_ 361 (by decide)
          refine lv_iload hx hb dL_ends_280 (lv_at hl 0 rfl) ?_
          refine lv_bipush (v := nI 60) hx hb dL_ends_282 (by decide) ?_
          refine kn_eq (tgt := 300) hx hb (by decide) (by decide) dL_ends_284 (by decide) (fun _ => ?_) (fun z => absurd z (by decide))
          refine lv_aload_n hx hb dL_ends_300 rfl (lv_at hl 9 rfl) ?_
          refine lv_iconst (v := nI 2) hx hb dL_ends_301 (by decide) ?_
          refine kc_i (vx_runSW (As := [.ref (yh), .int (nI (2))]) (rest := []) hF (c_L_money l G T8 u_71 yh ([(na, aN (kcI G) 3 f)] ++ wr) (nI 2) ((0, (S8.2.2 2), T8)) (d2) hlt hh hI hY) (vx_cwSW 2 hts gL_ends_L_money rfl rfl rfl (by decide +kernel) ⟨Nat.le_of_ble_eq_true rfl, Nat.le_of_ble_eq_true rfl⟩) (kPreS hE hS hV) rfl rfl hl.1 rfl (lv_room (Nat.le_of_ble_eq_true rfl)) dL_ends_302 ⟨Nat.le_of_ble_eq_true rfl, Nat.le_of_ble_eq_true rfl⟩) hS (fun r_75 u_74 H locs hp_73 hV hS => ?_)
          obtain ⟨hp_730, hY, hh⟩ := hp_73
          have hY : yI G T8 u_74 := hY
          have hp_730 : (S8.2.2 2) = r_75 := (hp_730.trans (vI_0 ((S8.2.2 2)) T8)).symm
          subst hp_730
          have hV : kV G (siteW G T8 u_74 ++ ([(na, aN (kcI G) 3 f)] ++ wr)) _ := hV
          refine lv_iload hx hb dL_ends_305 (lv_at hl 0 rfl) ?_
          refine lv_bipush (v := nI 60) hx hb dL_ends_307 (by decide) ?_
          refine kn_ne (tgt := 317) hx hb (by decide) (by decide) dL_ends_309 (by decide) (fun z => absurd z (by decide)) (fun _ => ?_)
          refine lv_iload hx hb dL_ends_312 (lv_at hl 3 rfl) ?_
          refine lv_goto (tgt := 322) hx hb dL_ends_314 (by decide) ?_
          refine lv_icmp_ne (tgt := 361) hx hb dL_ends_322 (by decide) (fun z => absurd rfl z) (fun _ => ?_)
          refine lv_iload hx hb dL_ends_325 (lv_at hl 0 rfl) ?_
          refine lv_bipush (v := nI 60) hx hb dL_ends_327 (by decide) ?_
          refine kn_ne (tgt := 357) hx hb (by decide) (by decide) dL_ends_329 (by decide) (fun z => absurd z (by decide)) (fun _ => ?_)
          refine lv_aload_n hx hb dL_ends_332 rfl (lv_at hl 9 rfl) ?_
          refine lv_iload_n hx hb dL_ends_333 rfl (lv_at hl 8 rfl) ?_
          refine lv_iconst (v := nI 1) hx hb dL_ends_334 (by decide) ?_
          refine kn_add hx hb dL_ends_335 ?_
          refine lv_iconst (v := nI 4) hx hb dL_ends_336 (by decide) ?_
          refine kc_i (vx_runSW (As := [.ref (yh), .int (nI (n + 1)), .int (nI (4))]) (rest := []) hF (c_L_buys l G T8 u_74 yh ([(na, aN (kcI G) 3 f)] ++ wr) (nI (n + 1)) (nI 4) ((2, 0, T8)) (d3) hlt hh hI hY) (vx_cwSW 3 hts gL_ends_L_buys rfl rfl rfl (by decide +kernel) ⟨Nat.le_of_ble_eq_true rfl, Nat.le_of_ble_eq_true rfl⟩) (kPreS hE hS hV) rfl rfl hl.1 rfl (lv_room (Nat.le_of_ble_eq_true rfl)) dL_ends_337 ⟨Nat.le_of_ble_eq_true rfl, Nat.le_of_ble_eq_true rfl⟩) hS (fun r_78 u_77 H locs hp_76 hV hS => ?_)
          obtain ⟨hp_760, hY, hh⟩ := hp_76
          have hY : yI G T8 u_77 := hY
          have hp_760 : (-2000000003) = r_78 := (hp_760.trans (vIS_2 0 T8)).symm
          subst hp_760
          have hV : kV G (siteW G T8 u_77 ++ ([(na, aN (kcI G) 3 f)] ++ wr)) _ := hV
          refine lv_ldc (v := -2000000003) hx hb hown (hts (Cond.constant RL 21 (-2000000003)) (List.mem_of_getElem? (i := 1) rfl)) dL_ends_340 ?_
          refine lv_icmp_ne (tgt := 361) hx hb dL_ends_342 (by decide) (fun z => absurd rfl z) (fun _ => ?_)
          refine lv_aload_n hx hb dL_ends_345 rfl (lv_at hl 9 rfl) ?_
          refine lv_iload_n hx hb dL_ends_346 rfl (lv_at hl 8 rfl) ?_
          refine lv_iconst (v := nI 1) hx hb dL_ends_347 (by decide) ?_
          refine kn_add hx hb dL_ends_348 ?_
          refine kc_i (vx_runSW (As := [.ref (yh), .int (nI (n + 1))]) (rest := []) hF (c_L_rules l G T8 u_77 yh ([(na, aN (kcI G) 3 f)] ++ wr) (nI (n + 1)) ((2, 0, T8)) (d4) hlt hh hI hY) (vx_cwSW 2 hts gL_ends_L_rules rfl rfl rfl (by decide +kernel) ⟨Nat.le_of_ble_eq_true rfl, Nat.le_of_ble_eq_true rfl⟩) (kPreS hE hS hV) rfl rfl hl.1 rfl (lv_room (Nat.le_of_ble_eq_true rfl)) dL_ends_349 ⟨Nat.le_of_ble_eq_true rfl, Nat.le_of_ble_eq_true rfl⟩) hS (fun r_81 u_80 H locs hp_79 hV hS => ?_)
          obtain ⟨hp_790, hY, hh⟩ := hp_79
          have hY : yI G T8 u_80 := hY
          have hp_790 : (-2000000003) = r_81 := (hp_790.trans (vIS_2 0 T8)).symm
          subst hp_790
          have hV : kV G (siteW G T8 u_80 ++ ([(na, aN (kcI G) 3 f)] ++ wr)) _ := hV
          refine lv_ldc (v := -2000000003) hx hb hown (hts (Cond.constant RL 21 (-2000000003)) (List.mem_of_getElem? (i := 1) rfl)) dL_ends_352 ?_
          refine lv_icmp_ne (tgt := 361) hx hb dL_ends_354 (by decide) (fun z => absurd rfl z) (fun _ => ?_)
          refine lv_iconst (v := nI 1) hx hb dL_ends_357 (by decide) ?_
          refine lv_goto (tgt := 362) hx hb dL_ends_358 (by decide) ?_
          refine lv_istore (lv' := [(7, .int (nI (1))), (11, .int (nI (60))), (10, .int (nI (al))), (9, .int (S8.2.2 2)), (8, .int (nI (o9))), (6, .int (nI (t9))), (5, .int (nI (u9))), (4, .int (nI (w9))), (3, .int (nI (n))), (0, .ref (yh)), (1, .ref (na)), (2, .int (nI (x)))]) hx hb dL_ends_362 hl (by decide) rfl (fun ls hl => ?_)
          refine W.widen (k := 92) (n := 3968) (by omega) (by omega) ?_
          exact k364 T8 u_80 d5 d5.1 hY hh _ _ hV hS ls (lv_sub hl [2, 3, 0, 4, 5, 6, 7, 8, 9, 10, 11] rfl)
        · refine lv_aload_n hx hb dL_ends_266 rfl (lv_at hl 8 rfl) ?_
          refine lv_iload_n hx hb dL_ends_267 rfl (lv_at hl 7 rfl) ?_
          refine lv_iconst (v := nI 1) hx hb dL_ends_268 (by decide) ?_
          refine kn_add hx hb dL_ends_269 ?_
          refine kc_i (vx_runSW (As := [.ref (yh), .int (nI (n + 1))]) (rest := []) hF (c_L_rules l G S9 u_68 yh ([(na, aN (kcI G) 3 f)] ++ wr) (nI (n + 1)) ((2, 0, S9)) (d1) hlt hh hI hY) (vx_cwSW 2 hts gL_ends_L_rules rfl rfl rfl (by decide +kernel) ⟨Nat.le_of_ble_eq_true rfl, Nat.le_of_ble_eq_true rfl⟩) (kPreS hE hS hV) rfl rfl hl.1 rfl (lv_room (Nat.le_of_ble_eq_true rfl)) dL_ends_270 ⟨Nat.le_of_ble_eq_true rfl, Nat.le_of_ble_eq_true rfl⟩) hS (fun r_84 u_83 H locs hp_82 hV hS => ?_)
          obtain ⟨hp_820, hY, hh⟩ := hp_82
          have hY : yI G S9 u_83 := hY
          have hp_820 : (-2000000003) = r_84 := (hp_820.trans (vIS_2 0 S9)).symm
          subst hp_820
          have hV : kV G (siteW G S9 u_83 ++ ([(na, aN (kcI G) 3 f)] ++ wr)) _ := hV
          refine lv_istore (lv' := [(11, .int (-2000000003)), (7, .int (nI (1))), (10, .int (nI (al))), (9, .int (S8.2.2 2)), (8, .int (nI (o9))), (6, .int (nI (t9))), (5, .int (nI (u9))), (4, .int (nI (w9))), (3, .int (nI (n))), (0, .ref (yh)), (1, .ref (na)), (2, .int (nI (x)))]) hx hb dL_ends_273 hl (by decide) rfl (fun ls hl => ?_)
          refine lv_iload hx hb dL_ends_275 (lv_at hl 1 rfl) ?_
          refine kn_if_eq_not hx hb (by decide) dL_ends_277 ?_ 361 (by decide)
          refine lv_iload hx hb dL_ends_280 (lv_at hl 0 rfl) ?_
          refine lv_bipush (v := nI 60) hx hb dL_ends_282 (by decide) ?_
          refine lv_icmp_eq (tgt := 300) hx hb dL_ends_284 (by decide) (fun z => absurd z (by decide)) (fun c284 => ?_)
          refine lv_iload hx hb dL_ends_287 (lv_at hl 0 rfl) ?_
          refine lv_ldc (v := -2000000003) hx hb hown (hts (Cond.constant RL 21 (-2000000003)) (List.mem_of_getElem? (i := 1) rfl)) dL_ends_289 ?_
          refine lv_icmp_ne (tgt := 361) hx hb dL_ends_291 (by decide) (fun z => absurd rfl z) (fun _ => ?_)
          refine lv_iload hx hb dL_ends_294 (lv_at hl 4 rfl) ?_
          refine lv_iload_n hx hb dL_ends_296 rfl (lv_at hl 8 rfl) ?_
          refine kn_ge (tgt := 361) hx hb (by omega) (by omega) dL_ends_297 (by decide) (fun z => absurd z (by omega)) (fun c297 => ?_)
          refine lv_aload_n hx hb dL_ends_300 rfl (lv_at hl 9 rfl) ?_
          refine lv_iconst (v := nI 2) hx hb dL_ends_301 (by decide) ?_
          refine kc_i (vx_runSW (As := [.ref (yh), .int (nI (2))]) (rest := []) hF (c_L_money l G S9 u_83 yh ([(na, aN (kcI G) 3 f)] ++ wr) (nI 2) ((0, ((S8.2.2 2) + nI 60), S9)) (b9m) hlt hh hI hY) (vx_cwSW 2 hts gL_ends_L_money rfl rfl rfl (by decide +kernel) ⟨Nat.le_of_ble_eq_true rfl, Nat.le_of_ble_eq_true rfl⟩) (kPreS hE hS hV) rfl rfl hl.1 rfl (lv_room (Nat.le_of_ble_eq_true rfl)) dL_ends_302 ⟨Nat.le_of_ble_eq_true rfl, Nat.le_of_ble_eq_true rfl⟩) hS (fun r_87 u_86 H locs hp_85 hV hS => ?_)
          obtain ⟨hp_850, hY, hh⟩ := hp_85
          have hY : yI G S9 u_86 := hY
          have hp_850 : ((S8.2.2 2) + nI 60) = r_87 := (hp_850.trans (vI_0 (((S8.2.2 2) + nI 60)) S9)).symm
          subst hp_850
          have hV : kV G (siteW G S9 u_86 ++ ([(na, aN (kcI G) 3 f)] ++ wr)) _ := hV
          refine lv_iload hx hb dL_ends_305 (lv_at hl 0 rfl) ?_
          refine lv_bipush (v := nI 60) hx hb dL_ends_307 (by decide) ?_
          refine lv_icmp_ne (tgt := 317) hx hb dL_ends_309 (by decide) (fun c309 => ?_) (fun z => absurd z (by decide))
          refine lv_iload hx hb dL_ends_317 (lv_at hl 3 rfl) ?_
          refine lv_bipush (v := nI 60) hx hb dL_ends_319 (by decide) ?_
          refine lv_iadd hx hb dL_ends_321 ?_
          refine lv_icmp_ne (tgt := 361) hx hb dL_ends_322 (by decide) (fun z => absurd rfl z) (fun _ => ?_)
          refine lv_iload hx hb dL_ends_325 (lv_at hl 0 rfl) ?_
          refine lv_bipush (v := nI 60) hx hb dL_ends_327 (by decide) ?_
          refine lv_icmp_ne (tgt := 357) hx hb dL_ends_329 (by decide) (fun c329 => ?_) (fun z => absurd z (by decide))
          refine lv_iconst (v := nI 1) hx hb dL_ends_357 (by decide) ?_
          refine lv_goto (tgt := 362) hx hb dL_ends_358 (by decide) ?_
          refine lv_istore (lv' := [(7, .int (nI (1))), (11, .int (-2000000003)), (10, .int (nI (al))), (9, .int (S8.2.2 2)), (8, .int (nI (o9))), (6, .int (nI (t9))), (5, .int (nI (u9))), (4, .int (nI (w9))), (3, .int (nI (n))), (0, .ref (yh)), (1, .ref (na)), (2, .int (nI (x)))]) hx hb dL_ends_362 hl (by decide) rfl (fun ls hl => ?_)
          refine W.widen (k := 92) (n := 3968) (by omega) (by omega) ?_
          exact k364 S9 u_86 d5 d5.1 hY hh _ _ hV hS ls (lv_sub hl [2, 3, 0, 4, 5, 6, 7, 8, 9, 10, 11] rfl)
      · refine lv_iconst (v := nI 1) hx hb dL_ends_24 (by decide) ?_
        refine W.widen (k := 360) (n := 6000) (by decide) (by decide) ?_
        exact W.zret (v := nI 1) hx hb hrt (by decide) (fun t ht hW => ⟨⟨_, (S, y), rfl, rfl, kV_eq ht hV⟩, hS.F ht⟩) hS.2.2 dL_ends_25
