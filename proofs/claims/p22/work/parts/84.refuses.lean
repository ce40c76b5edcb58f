set_option maxHeartbeats 4000000 in
set_option maxRecDepth 100000 in
theorem c_L_refuses (l : Launch) (G : kG) (S : kS) (y : kY) (yh : Nat) (f : Nat → Nat) (na : Nat) (wr : va_W) (x : Nat) (hn : nOk S f) (hx9 : x < 9973) (hlt : l.stackTraces = false) (hh : yH y 0 = yh) (hI : kInv S) (hY : yI G S y) : Met l yL_refuses wsL_refuses ({ frames := 10, cells := 700, slots := 28000, locals := 263 } : Room) (kPc G [.ref (yh), .ref (na), .int (nI (x))] (siteW G S y ++ ([(na, aN (kcI G) 3 f)] ++ wr))) (kQi G (S := kY) (fun z u => z = nI 1 ∧ yI G S u ∧ yH u 0 = yh) (fun u => siteW G S u ++ ([(na, aN (kcI G) 3 f)] ++ wr))) 700 28000 (kA G) := by
  refine Met.ofW (cc := cL_refuses) (maxL := 13) (ret := (some .boolean)) (by decide) rfl ?_
  intro pp ee s m args below meth cc0 s₁ Bd0 hml hv
  obtain ⟨rfl, hE, hV⟩ := hv
  have hK := hE.1
  have hx := Bd0.exec
  have hb := Bd0.bytes
  have hrt := Bd0.returns
  have hts := atoms_spec (ws := wsL_refuses) Bd0.pre
  have hown : s.vm.findClass RL = some m.cls := findClass_of_methodNamed Bd0.named
  have hlocks := Bd0.notSynchronized
  have hF : CallFix pp m cc0 cL_refuses 13 s _ wsL_refuses RL := ⟨hx, hb, hml, hown, hts⟩
  have hS : va_S (kA G) s.heap s.heap [] := va_S.rf
  have hB0 := hE.2.1
  have hl := lv_entry ([.ref (yh), .ref (na), .int (nI (x))]) (n := 13) (Nat.le_of_ble_eq_true rfl)
  rw [lg_entry_eq]
  generalize (lg_sl ([.ref (yh), .ref (na), .int (nI (x))]) ++ List.replicate (13 - (lg_sl ([.ref (yh), .ref (na), .int (nI (x))])).length) Slot.unset).toArray = ls at hl ⊢
  have hl : lv_has ls 13 [(0, .ref (yh)), (1, .ref (na)), (2, .int (nI (x)))] := hl
  obtain ⟨⟨hn16, hl20, hp12, -⟩, hpat, -⟩ := id hI
  obtain ⟨hn0, hn1, hn2⟩ := id hn
  have k11 : ∀ (low : Nat) (hlow : low < 2) (H : Heap) (locs : List Loc), kV G (siteW G S y ++ ([(na, aN (kcI G) 3 f)] ++ wr)) H → va_S (kA G) s.heap H locs → ∀ (ls : Array Slot), lv_has ls 13 [(0, .ref (yh)), (1, .ref (na)), (2, .int (nI (x)))] → W pp l ee (headSpec wsL_refuses ({ frames := 10, cells := 700, slots := 28000, locals := 263 } : Room)).room s m [.ref (yh), .ref (na), .int (nI (x))].toArray below meth cc0 H locs 0 0 (MQ below (kQi G (S := kY) (fun z u => z = nI 1 ∧ yI G S u ∧ yH u 0 = yh) (fun u => siteW G S u ++ ([(na, aN (kcI G) 3 f)] ++ wr))) [.ref (yh), .ref (na), .int (nI (x))].toArray s 700 28000 (kA G)) (F0 m 11 ls [.int (nI (low))]) := by
    intro low hlow H locs hV hS ls hl
    refine lv_istore_n (lv' := [(3, .int (nI (low))), (0, .ref (yh)), (1, .ref (na)), (2, .int (nI (x)))]) hx hb dL_refuses_11 rfl hl (by decide) rfl (fun ls hl => ?_)
    have k31 : ∀ (pe : Int32) (hpe : ¬ isIn pe 5) (H : Heap) (locs : List Loc), kV G (siteW G S y ++ ([(na, aN (kcI G) 3 f)] ++ wr)) H → va_S (kA G) s.heap H locs → ∀ (ls : Array Slot), lv_has ls 13 [(3, .int (nI (low))), (0, .ref (yh)), (1, .ref (na)), (2, .int (nI (x)))] → W pp l ee (headSpec wsL_refuses ({ frames := 10, cells := 700, slots := 28000, locals := 263 } : Room)).room s m [.ref (yh), .ref (na), .int (nI (x))].toArray below meth cc0 H locs 0 0 (MQ below (kQi G (S := kY) (fun z u => z = nI 1 ∧ yI G S u ∧ yH u 0 = yh) (fun u => siteW G S u ++ ([(na, aN (kcI G) 3 f)] ++ wr))) [.ref (yh), .ref (na), .int (nI (x))].toArray s 700 28000 (kA G)) (F0 m 31 ls [.int (pe)]) := by
      intro pe hpe H locs hV hS ls hl
      refine lv_istore (lv' := [(4, .int (pe)), (3, .int (nI (low))), (0, .ref (yh)), (1, .ref (na)), (2, .int (nI (x)))]) hx hb dL_refuses_31 hl (by decide) rfl (fun ls hl => ?_)
      have k54 : ∀ (pa : Int32) (hpa : ¬ isIn pa (S.1 1 0)) (H : Heap) (locs : List Loc), kV G (siteW G S y ++ ([(na, aN (kcI G) 3 f)] ++ wr)) H → va_S (kA G) s.heap H locs → ∀ (ls : Array Slot), lv_has ls 13 [(4, .int (pe)), (3, .int (nI (low))), (0, .ref (yh)), (1, .ref (na)), (2, .int (nI (x)))] → W pp l ee (headSpec wsL_refuses ({ frames := 10, cells := 700, slots := 28000, locals := 263 } : Room)).room s m [.ref (yh), .ref (na), .int (nI (x))].toArray below meth cc0 H locs 0 0 (MQ below (kQi G (S := kY) (fun z u => z = nI 1 ∧ yI G S u ∧ yH u 0 = yh) (fun u => siteW G S u ++ ([(na, aN (kcI G) 3 f)] ++ wr))) [.ref (yh), .ref (na), .int (nI (x))].toArray s 700 28000 (kA G)) (F0 m 54 ls [.int (pa)]) := by
        intro pa hpa H locs hV hS ls hl
        refine lv_istore (lv' := [(5, .int (pa)), (4, .int (pe)), (3, .int (nI (low))), (0, .ref (yh)), (1, .ref (na)), (2, .int (nI (x)))]) hx hb dL_refuses_54 hl (by decide) rfl (fun ls hl => ?_)
        have k77 : ∀ (lo : Int32) (hlo : ¬ isIn lo (S.1 15 0)) (H : Heap) (locs : List Loc), kV G (siteW G S y ++ ([(na, aN (kcI G) 3 f)] ++ wr)) H → va_S (kA G) s.heap H locs → ∀ (ls : Array Slot), lv_has ls 13 [(5, .int (pa)), (4, .int (pe)), (3, .int (nI (low))), (0, .ref (yh)), (1, .ref (na)), (2, .int (nI (x)))] → W pp l ee (headSpec wsL_refuses ({ frames := 10, cells := 700, slots := 28000, locals := 263 } : Room)).room s m [.ref (yh), .ref (na), .int (nI (x))].toArray below meth cc0 H locs 0 0 (MQ below (kQi G (S := kY) (fun z u => z = nI 1 ∧ yI G S u ∧ yH u 0 = yh) (fun u => siteW G S u ++ ([(na, aN (kcI G) 3 f)] ++ wr))) [.ref (yh), .ref (na), .int (nI (x))].toArray s 700 28000 (kA G)) (F0 m 77 ls [.int (lo)]) := by
          intro lo hlo H locs hV hS ls hl
          refine lv_istore (lv' := [(6, .int (lo)), (5, .int (pa)), (4, .int (pe)), (3, .int (nI (low))), (0, .ref (yh)), (1, .ref (na)), (2, .int (nI (x)))]) hx hb dL_refuses_77 hl (by decide) rfl (fun ls hl => ?_)
          have k100 : ∀ (pr : Int32) (hpr : ¬ isIn pr (S.1 19 0)) (H : Heap) (locs : List Loc), kV G (siteW G S y ++ ([(na, aN (kcI G) 3 f)] ++ wr)) H → va_S (kA G) s.heap H locs → ∀ (ls : Array Slot), lv_has ls 13 [(6, .int (lo)), (5, .int (pa)), (4, .int (pe)), (3, .int (nI (low))), (0, .ref (yh)), (1, .ref (na)), (2, .int (nI (x)))] → W pp l ee (headSpec wsL_refuses ({ frames := 10, cells := 700, slots := 28000, locals := 263 } : Room)).room s m [.ref (yh), .ref (na), .int (nI (x))].toArray below meth cc0 H locs 0 0 (MQ below (kQi G (S := kY) (fun z u => z = nI 1 ∧ yI G S u ∧ yH u 0 = yh) (fun u => siteW G S u ++ ([(na, aN (kcI G) 3 f)] ++ wr))) [.ref (yh), .ref (na), .int (nI (x))].toArray s 700 28000 (kA G)) (F0 m 100 ls [.int (pr)]) := by
            intro pr hpr H locs hV hS ls hl
            refine lv_istore (lv' := [(7, .int (pr)), (6, .int (lo)), (5, .int (pa)), (4, .int (pe)), (3, .int (nI (low))), (0, .ref (yh)), (1, .ref (na)), (2, .int (nI (x)))]) hx hb dL_refuses_100 hl (by decide) rfl (fun ls hl => ?_)
            refine lv_aload_n hx hb dL_refuses_102 rfl (lv_at hl 5 rfl) ?_
            refine lv_iload hx hb dL_refuses_103 (lv_at hl 3 rfl) ?_
            refine lv_iconst (v := nI 0) hx hb dL_refuses_105 (by decide) ?_
            refine lv_iconst (v := nI 0) hx hb dL_refuses_106 (by decide) ?_
            refine kc_i (vx_runSW (As := [.ref (yh), .int (pe), .int (nI (0)), .int (nI (0))]) (rest := []) hF (c_L_begins l G S y yh ([(na, aN (kcI G) 3 f)] ++ wr) (pe) (nI 0) (nI 0) ((1, 0, S)) (rf_begin1 hpe) hlt hh hI hY) (vx_cwSW 4 hts gL_refuses_L_begins rfl rfl rfl (by decide +kernel) ⟨Nat.le_of_ble_eq_true rfl, Nat.le_of_ble_eq_true rfl⟩) (kPreS hE hS hV) rfl rfl hl.1 rfl (lv_room (Nat.le_of_ble_eq_true rfl)) dL_refuses_107 ⟨Nat.le_of_ble_eq_true rfl, Nat.le_of_ble_eq_true rfl⟩) hS (fun r_3 u_2 H locs hp_1 hV hS => ?_)
            obtain ⟨hp_10, hY, hh⟩ := hp_1
            have hY : yI G S u_2 := hY
            have hp_10 : r_3 = (-2000000001) := hp_10.trans (vIAS_1 0 S)
            subst hp_10
            have hV : kV G (siteW G S u_2 ++ ([(na, aN (kcI G) 3 f)] ++ wr)) _ := hV
            refine lv_ldc (v := -2000000001) hx hb hown (hts (Cond.constant RL 15 (-2000000001)) (List.mem_of_getElem? (i := 1) rfl)) dL_refuses_110 ?_
            refine lv_icmp_ne (tgt := 549) hx hb dL_refuses_112 (by decide) (fun z => absurd rfl z) (fun _ => ?_)
            refine lv_aload_n hx hb dL_refuses_115 rfl (lv_at hl 5 rfl) ?_
            refine lv_iload_n hx hb dL_refuses_116 rfl (lv_at hl 7 rfl) ?_
            refine lv_iconst (v := nI 5) hx hb dL_refuses_117 (by decide) ?_
            refine kn_rem hx hb (by omega) (by omega) (by omega) dL_refuses_118 ?_
            refine lv_bipush (v := nI 21) hx hb dL_refuses_119 (by decide) ?_
            refine lv_iload_n hx hb dL_refuses_121 rfl (lv_at hl 7 rfl) ?_
            refine kn_add hx hb dL_refuses_122 ?_
            refine lv_iconst (v := nI 0) hx hb dL_refuses_123 (by decide) ?_
            refine kc_i (vx_runSW (As := [.ref (yh), .int (nI (x % 5)), .int (nI (21 + x)), .int (nI (0))]) (rest := []) hF (c_L_begins l G S u_2 yh ([(na, aN (kcI G) 3 f)] ++ wr) (nI (x % 5)) (nI (21 + x)) (nI 0) ((2, 0, S)) (rf_begin2 (isIn_nI (show x % 5 < 5 by omega)) (fun z => nrg_hi (by omega) (by omega) z.1)) hlt hh hI hY) (vx_cwSW 4 hts gL_refuses_L_begins rfl rfl rfl (by decide +kernel) ⟨Nat.le_of_ble_eq_true rfl, Nat.le_of_ble_eq_true rfl⟩) (kPreS hE hS hV) rfl rfl hl.1 rfl (lv_room (Nat.le_of_ble_eq_true rfl)) dL_refuses_124 ⟨Nat.le_of_ble_eq_true rfl, Nat.le_of_ble_eq_true rfl⟩) hS (fun r_6 u_5 H locs hp_4 hV hS => ?_)
            obtain ⟨hp_40, hY, hh⟩ := hp_4
            have hY : yI G S u_5 := hY
            have hp_40 : r_6 = (-2000000002) := hp_40.trans (vIAS_2 0 S)
            subst hp_40
            have hV : kV G (siteW G S u_5 ++ ([(na, aN (kcI G) 3 f)] ++ wr)) _ := hV
            refine lv_ldc (v := -2000000002) hx hb hown (hts (Cond.constant RL 18 (-2000000002)) (List.mem_of_getElem? (i := 2) rfl)) dL_refuses_127 ?_
            refine lv_icmp_ne (tgt := 549) hx hb dL_refuses_129 (by decide) (fun z => absurd rfl z) (fun _ => ?_)
            refine lv_aload_n hx hb dL_refuses_132 rfl (lv_at hl 5 rfl) ?_
            refine lv_iload_n hx hb dL_refuses_133 rfl (lv_at hl 7 rfl) ?_
            refine lv_iconst (v := nI 5) hx hb dL_refuses_134 (by decide) ?_
            refine kn_rem hx hb (by omega) (by omega) (by omega) dL_refuses_135 ?_
            refine lv_iload_n hx hb dL_refuses_136 rfl (lv_at hl 7 rfl) ?_
            refine W.eq (g2 := F0 m 137 ls [.int (zI (((x : Nat) : Int))), .int (nI (x % 5)), .ref (yh)]) rfl ?_
            refine kz_neg hx hb dL_refuses_137 ?_
            refine lv_iconst (v := nI 0) hx hb dL_refuses_138 (by decide) ?_
            refine kc_i (vx_runSW (As := [.ref (yh), .int (nI (x % 5)), .int (zI (-((x : Nat) : Int))), .int (nI (0))]) (rest := []) hF (c_L_begins l G S u_5 yh ([(na, aN (kcI G) 3 f)] ++ wr) (nI (x % 5)) (zI (-((x : Nat) : Int))) (nI 0) ((2, 0, S)) (rf_begin2 (isIn_nI (show x % 5 < 5 by omega)) (fun z => nrg_lo (by omega) (by omega) (by decide) z.1)) hlt hh hI hY) (vx_cwSW 4 hts gL_refuses_L_begins rfl rfl rfl (by decide +kernel) ⟨Nat.le_of_ble_eq_true rfl, Nat.le_of_ble_eq_true rfl⟩) (kPreS hE hS hV) rfl rfl hl.1 rfl (lv_room (Nat.le_of_ble_eq_true rfl)) dL_refuses_139 ⟨Nat.le_of_ble_eq_true rfl, Nat.le_of_ble_eq_true rfl⟩) hS (fun r_9 u_8 H locs hp_7 hV hS => ?_)
            obtain ⟨hp_70, hY, hh⟩ := hp_7
            have hY : yI G S u_8 := hY
            have hp_70 : r_9 = (-2000000002) := hp_70.trans (vIAS_2 0 S)
            subst hp_70
            have hV : kV G (siteW G S u_8 ++ ([(na, aN (kcI G) 3 f)] ++ wr)) _ := hV
            refine lv_ldc (v := -2000000002) hx hb hown (hts (Cond.constant RL 18 (-2000000002)) (List.mem_of_getElem? (i := 2) rfl)) dL_refuses_142 ?_
            refine lv_icmp_ne (tgt := 549) hx hb dL_refuses_144 (by decide) (fun z => absurd rfl z) (fun _ => ?_)
            refine lv_aload_n hx hb dL_refuses_147 rfl (lv_at hl 5 rfl) ?_
            refine lv_iload_n hx hb dL_refuses_148 rfl (lv_at hl 7 rfl) ?_
            refine lv_iconst (v := nI 5) hx hb dL_refuses_149 (by decide) ?_
            refine kn_rem hx hb (by omega) (by omega) (by omega) dL_refuses_150 ?_
            refine lv_iconst (v := nI 1) hx hb dL_refuses_151 (by decide) ?_
            refine lv_sipush (v := nI 1001) hx hb dL_refuses_152 (by decide) ?_
            refine lv_iload_n hx hb dL_refuses_155 rfl (lv_at hl 7 rfl) ?_
            refine kn_add hx hb dL_refuses_156 ?_
            refine kc_i (vx_runSW (As := [.ref (yh), .int (nI (x % 5)), .int (nI (1)), .int (nI (1001 + x))]) (rest := []) hF (c_L_begins l G S u_8 yh ([(na, aN (kcI G) 3 f)] ++ wr) (nI (x % 5)) (nI 1) (nI (1001 + x)) ((2, 0, S)) (rf_begin2 (isIn_nI (show x % 5 < 5 by omega)) (fun z => nrg_hi (by omega) (by omega) z.2)) hlt hh hI hY) (vx_cwSW 4 hts gL_refuses_L_begins rfl rfl rfl (by decide +kernel) ⟨Nat.le_of_ble_eq_true rfl, Nat.le_of_ble_eq_true rfl⟩) (kPreS hE hS hV) rfl rfl hl.1 rfl (lv_room (Nat.le_of_ble_eq_true rfl)) dL_refuses_157 ⟨Nat.le_of_ble_eq_true rfl, Nat.le_of_ble_eq_true rfl⟩) hS (fun r_12 u_11 H locs hp_10 hV hS => ?_)
            obtain ⟨hp_100, hY, hh⟩ := hp_10
            have hY : yI G S u_11 := hY
            have hp_100 : r_12 = (-2000000002) := hp_100.trans (vIAS_2 0 S)
            subst hp_100
            have hV : kV G (siteW G S u_11 ++ ([(na, aN (kcI G) 3 f)] ++ wr)) _ := hV
            refine lv_ldc (v := -2000000002) hx hb hown (hts (Cond.constant RL 18 (-2000000002)) (List.mem_of_getElem? (i := 2) rfl)) dL_refuses_160 ?_
            refine lv_icmp_ne (tgt := 549) hx hb dL_refuses_162 (by decide) (fun z => absurd rfl z) (fun _ => ?_)
            refine lv_aload_n hx hb dL_refuses_165 rfl (lv_at hl 5 rfl) ?_
            refine lv_iload_n hx hb dL_refuses_166 rfl (lv_at hl 7 rfl) ?_
            refine lv_iconst (v := nI 5) hx hb dL_refuses_167 (by decide) ?_
            refine kn_rem hx hb (by omega) (by omega) (by omega) dL_refuses_168 ?_
            refine lv_iconst (v := nI 1) hx hb dL_refuses_169 (by decide) ?_
            refine lv_iconst (v := zI (-1)) hx hb dL_refuses_170 (by decide) ?_
            refine lv_iload_n hx hb dL_refuses_171 rfl (lv_at hl 7 rfl) ?_
            refine W.eq (g2 := F0 m 172 ls [.int (zI (((x : Nat) : Int))), .int (zI ((-1 : Int))), .int (nI (1)), .int (nI (x % 5)), .ref (yh)]) rfl ?_
            refine kz_sub hx hb dL_refuses_172 ?_
            refine kc_i (vx_runSW (As := [.ref (yh), .int (nI (x % 5)), .int (nI (1)), .int (zI ((-1 : Int) - ((x : Nat) : Int)))]) (rest := []) hF (c_L_begins l G S u_11 yh ([(na, aN (kcI G) 3 f)] ++ wr) (nI (x % 5)) (nI 1) (zI ((-1 : Int) - ((x : Nat) : Int))) ((2, 0, S)) (rf_begin2 (isIn_nI (show x % 5 < 5 by omega)) (fun z => nrg_lo (by omega) (by omega) (by decide) z.2)) hlt hh hI hY) (vx_cwSW 4 hts gL_refuses_L_begins rfl rfl rfl (by decide +kernel) ⟨Nat.le_of_ble_eq_true rfl, Nat.le_of_ble_eq_true rfl⟩) (kPreS hE hS hV) rfl rfl hl.1 rfl (lv_room (Nat.le_of_ble_eq_true rfl)) dL_refuses_173 ⟨Nat.le_of_ble_eq_true rfl, Nat.le_of_ble_eq_true rfl⟩) hS (fun r_15 u_14 H locs hp_13 hV hS => ?_)
            obtain ⟨hp_130, hY, hh⟩ := hp_13
            have hY : yI G S u_14 := hY
            have hp_130 : r_15 = (-2000000002) := hp_130.trans (vIAS_2 0 S)
            subst hp_130
            have hV : kV G (siteW G S u_14 ++ ([(na, aN (kcI G) 3 f)] ++ wr)) _ := hV
            refine lv_ldc (v := -2000000002) hx hb hown (hts (Cond.constant RL 18 (-2000000002)) (List.mem_of_getElem? (i := 2) rfl)) dL_refuses_176 ?_
            refine lv_icmp_ne (tgt := 549) hx hb dL_refuses_178 (by decide) (fun z => absurd rfl z) (fun _ => ?_)
            refine lv_aload_n hx hb dL_refuses_181 rfl (lv_at hl 5 rfl) ?_
            refine lv_iload hx hb dL_refuses_182 (lv_at hl 2 rfl) ?_
            refine lv_iconst (v := nI 0) hx hb dL_refuses_184 (by decide) ?_
            refine lv_iconst (v := nI 0) hx hb dL_refuses_185 (by decide) ?_
            refine lv_iconst (v := nI 0) hx hb dL_refuses_186 (by decide) ?_
            refine lv_iconst (v := nI 0) hx hb dL_refuses_187 (by decide) ?_
            refine kc_i (vx_runSW (As := [.ref (yh), .int (pa), .int (nI (0)), .int (nI (0)), .int (nI (0)), .int (nI (0))]) (rest := []) hF (c_L_lines l G S u_14 yh ([(na, aN (kcI G) 3 f)] ++ wr) (pa) (nI 0) (nI 0) (nI 0) (nI 0) ((1, 0, S)) (rf_line1 hpa) hlt hh hI hY) (vx_cwSW 6 hts gL_refuses_L_lines rfl rfl rfl (by decide +kernel) ⟨Nat.le_of_ble_eq_true rfl, Nat.le_of_ble_eq_true rfl⟩) (kPreS hE hS hV) rfl rfl hl.1 rfl (lv_room (Nat.le_of_ble_eq_true rfl)) dL_refuses_188 ⟨Nat.le_of_ble_eq_true rfl, Nat.le_of_ble_eq_true rfl⟩) hS (fun r_18 u_17 H locs hp_16 hV hS => ?_)
            obtain ⟨hp_160, hY, hh⟩ := hp_16
            have hY : yI G S u_17 := hY
            have hp_160 : r_18 = (-2000000001) := hp_160.trans (vIAS_1 0 S)
            subst hp_160
            have hV : kV G (siteW G S u_17 ++ ([(na, aN (kcI G) 3 f)] ++ wr)) _ := hV
            refine lv_ldc (v := -2000000001) hx hb hown (hts (Cond.constant RL 15 (-2000000001)) (List.mem_of_getElem? (i := 1) rfl)) dL_refuses_191 ?_
            refine lv_icmp_ne (tgt := 549) hx hb dL_refuses_193 (by decide) (fun z => absurd rfl z) (fun _ => ?_)
            refine lv_aload_n hx hb dL_refuses_196 rfl (lv_at hl 5 rfl) ?_
            refine lv_iload hx hb dL_refuses_197 (lv_at hl 2 rfl) ?_
            refine lv_iconst (v := nI 0) hx hb dL_refuses_199 (by decide) ?_
            refine kc_i (vx_runSW (As := [.ref (yh), .int (pa), .int (nI (0))]) (rest := []) hF (c_L_anews l G S u_17 yh ([(na, aN (kcI G) 3 f)] ++ wr) (pa) (nI 0) ((1, 0, S)) (rf_anew1 hpa) hlt hh hI hY) (vx_cwSW 3 hts gL_refuses_L_anews rfl rfl rfl (by decide +kernel) ⟨Nat.le_of_ble_eq_true rfl, Nat.le_of_ble_eq_true rfl⟩) (kPreS hE hS hV) rfl rfl hl.1 rfl (lv_room (Nat.le_of_ble_eq_true rfl)) dL_refuses_200 ⟨Nat.le_of_ble_eq_true rfl, Nat.le_of_ble_eq_true rfl⟩) hS (fun r_21 u_20 H locs hp_19 hV hS => ?_)
            obtain ⟨hp_190, hY, hh⟩ := hp_19
            have hY : yI G S u_20 := hY
            have hp_190 : r_21 = (-2000000001) := hp_190.trans (vIAS_1 0 S)
            subst hp_190
            have hV : kV G (siteW G S u_20 ++ ([(na, aN (kcI G) 3 f)] ++ wr)) _ := hV
            refine lv_ldc (v := -2000000001) hx hb hown (hts (Cond.constant RL 15 (-2000000001)) (List.mem_of_getElem? (i := 1) rfl)) dL_refuses_203 ?_
            refine lv_icmp_ne (tgt := 549) hx hb dL_refuses_205 (by decide) (fun z => absurd rfl z) (fun _ => ?_)
            refine lv_aload_n hx hb dL_refuses_208 rfl (lv_at hl 5 rfl) ?_
            refine lv_iload hx hb dL_refuses_209 (lv_at hl 2 rfl) ?_
            refine kc_i (vx_runSW (As := [.ref (yh), .int (pa)]) (rest := []) hF (c_L_publishes l G S u_20 yh ([(na, aN (kcI G) 3 f)] ++ wr) (pa) ((1, 0, S)) (rf_publish1 hpa) hlt hh hI hY) (vx_cwSW 2 hts gL_refuses_L_publishes rfl rfl rfl (by decide +kernel) ⟨Nat.le_of_ble_eq_true rfl, Nat.le_of_ble_eq_true rfl⟩) (kPreS hE hS hV) rfl rfl hl.1 rfl (lv_room (Nat.le_of_ble_eq_true rfl)) dL_refuses_211 ⟨Nat.le_of_ble_eq_true rfl, Nat.le_of_ble_eq_true rfl⟩) hS (fun r_24 u_23 H locs hp_22 hV hS => ?_)
            obtain ⟨hp_220, hY, hh⟩ := hp_22
            have hY : yI G S u_23 := hY
            have hp_220 : r_24 = (-2000000001) := hp_220.trans (vIS_1 0 S)
            subst hp_220
            have hV : kV G (siteW G S u_23 ++ ([(na, aN (kcI G) 3 f)] ++ wr)) _ := hV
            refine lv_ldc (v := -2000000001) hx hb hown (hts (Cond.constant RL 15 (-2000000001)) (List.mem_of_getElem? (i := 1) rfl)) dL_refuses_214 ?_
            refine lv_icmp_ne (tgt := 549) hx hb dL_refuses_216 (by decide) (fun z => absurd rfl z) (fun _ => ?_)
            refine lv_aload_n hx hb dL_refuses_219 rfl (lv_at hl 5 rfl) ?_
            refine lv_iload hx hb dL_refuses_220 (lv_at hl 2 rfl) ?_
            refine kc_i (vx_runSW (As := [.ref (yh), .int (pa)]) (rest := []) hF (c_L_original l G S u_23 yh ([(na, aN (kcI G) 3 f)] ++ wr) (pa) ((1, 0, S)) (rf_original1 hpa) hlt hh hI hY) (vx_cwSW 2 hts gL_refuses_L_original rfl rfl rfl (by decide +kernel) ⟨Nat.le_of_ble_eq_true rfl, Nat.le_of_ble_eq_true rfl⟩) (kPreS hE hS hV) rfl rfl hl.1 rfl (lv_room (Nat.le_of_ble_eq_true rfl)) dL_refuses_222 ⟨Nat.le_of_ble_eq_true rfl, Nat.le_of_ble_eq_true rfl⟩) hS (fun r_27 u_26 H locs hp_25 hV hS => ?_)
            obtain ⟨hp_250, hY, hh⟩ := hp_25
            have hY : yI G S u_26 := hY
            have hp_250 : r_27 = (-2000000001) := hp_250.trans (vI_1 0 S)
            subst hp_250
            have hV : kV G (siteW G S u_26 ++ ([(na, aN (kcI G) 3 f)] ++ wr)) _ := hV
            refine lv_ldc (v := -2000000001) hx hb hown (hts (Cond.constant RL 15 (-2000000001)) (List.mem_of_getElem? (i := 1) rfl)) dL_refuses_225 ?_
            refine lv_icmp_ne (tgt := 549) hx hb dL_refuses_227 (by decide) (fun z => absurd rfl z) (fun _ => ?_)
            refine lv_aload_n hx hb dL_refuses_230 rfl (lv_at hl 5 rfl) ?_
            refine lv_iload hx hb dL_refuses_231 (lv_at hl 2 rfl) ?_
            refine kc_i (vx_runSW (As := [.ref (yh), .int (pa)]) (rest := []) hF (c_L_rows l G S u_26 yh ([(na, aN (kcI G) 3 f)] ++ wr) (pa) ((1, 0, S)) (rf_rows1 hpa) hlt hh hI hY) (vx_cwSW 2 hts gL_refuses_L_rows rfl rfl rfl (by decide +kernel) ⟨Nat.le_of_ble_eq_true rfl, Nat.le_of_ble_eq_true rfl⟩) (kPreS hE hS hV) rfl rfl hl.1 rfl (lv_room (Nat.le_of_ble_eq_true rfl)) dL_refuses_233 ⟨Nat.le_of_ble_eq_true rfl, Nat.le_of_ble_eq_true rfl⟩) hS (fun r_30 u_29 H locs hp_28 hV hS => ?_)
            obtain ⟨hp_280, hY, hh⟩ := hp_28
            have hY : yI G S u_29 := hY
            have hp_280 : r_30 = (-2000000001) := hp_280.trans (vI_1 0 S)
            subst hp_280
            have hV : kV G (siteW G S u_29 ++ ([(na, aN (kcI G) 3 f)] ++ wr)) _ := hV
            refine lv_ldc (v := -2000000001) hx hb hown (hts (Cond.constant RL 15 (-2000000001)) (List.mem_of_getElem? (i := 1) rfl)) dL_refuses_236 ?_
            refine lv_icmp_ne (tgt := 549) hx hb dL_refuses_238 (by decide) (fun z => absurd rfl z) (fun _ => ?_)
            refine lv_aload_n hx hb dL_refuses_241 rfl (lv_at hl 5 rfl) ?_
            refine lv_iload hx hb dL_refuses_242 (lv_at hl 2 rfl) ?_
            refine lv_iconst (v := nI 0) hx hb dL_refuses_244 (by decide) ?_
            refine lv_iconst (v := nI 0) hx hb dL_refuses_245 (by decide) ?_
            refine kc_i (vx_runSW (As := [.ref (yh), .int (pa), .int (nI (0)), .int (nI (0))]) (rest := []) hF (c_L_stitch l G S u_29 yh ([(na, aN (kcI G) 3 f)] ++ wr) (pa) (nI 0) (nI 0) ((1, 0, S)) (rf_stitch1 hpa) hlt hh hI hY) (vx_cwSW 4 hts gL_refuses_L_stitch rfl rfl rfl (by decide +kernel) ⟨Nat.le_of_ble_eq_true rfl, Nat.le_of_ble_eq_true rfl⟩) (kPreS hE hS hV) rfl rfl hl.1 rfl (lv_room (Nat.le_of_ble_eq_true rfl)) dL_refuses_246 ⟨Nat.le_of_ble_eq_true rfl, Nat.le_of_ble_eq_true rfl⟩) hS (fun r_33 u_32 H locs hp_31 hV hS => ?_)
            obtain ⟨hp_310, hY, hh⟩ := hp_31
            have hY : yI G S u_32 := hY
            have hp_310 : r_33 = (-2000000001) := hp_310.trans (vI_1 0 S)
            subst hp_310
            have hV : kV G (siteW G S u_32 ++ ([(na, aN (kcI G) 3 f)] ++ wr)) _ := hV
            refine lv_ldc (v := -2000000001) hx hb hown (hts (Cond.constant RL 15 (-2000000001)) (List.mem_of_getElem? (i := 1) rfl)) dL_refuses_249 ?_
            refine lv_icmp_ne (tgt := 549) hx hb dL_refuses_251 (by decide) (fun z => absurd rfl z) (fun _ => ?_)
            refine lv_aload_n hx hb dL_refuses_254 rfl (lv_at hl 5 rfl) ?_
            refine lv_iload hx hb dL_refuses_255 (lv_at hl 2 rfl) ?_
            refine lv_iconst (v := nI 0) hx hb dL_refuses_257 (by decide) ?_
            refine lv_iconst (v := nI 0) hx hb dL_refuses_258 (by decide) ?_
            refine kc_i (vx_runSW (As := [.ref (yh), .int (pa), .int (nI (0)), .int (nI (0))]) (rest := []) hF (c_L_byWork l G S u_32 yh ([(na, aN (kcI G) 3 f)] ++ wr) (pa) (nI 0) (nI 0) ((1, 0, S)) (rf_stitch1 hpa) hlt hh hI hY) (vx_cwSW 4 hts gL_refuses_L_byWork rfl rfl rfl (by decide +kernel) ⟨Nat.le_of_ble_eq_true rfl, Nat.le_of_ble_eq_true rfl⟩) (kPreS hE hS hV) rfl rfl hl.1 rfl (lv_room (Nat.le_of_ble_eq_true rfl)) dL_refuses_259 ⟨Nat.le_of_ble_eq_true rfl, Nat.le_of_ble_eq_true rfl⟩) hS (fun r_36 u_35 H locs hp_34 hV hS => ?_)
            obtain ⟨hp_340, hY, hh⟩ := hp_34
            have hY : yI G S u_35 := hY
            have hp_340 : r_36 = (-2000000001) := hp_340.trans (vI_1 0 S)
            subst hp_340
            have hV : kV G (siteW G S u_35 ++ ([(na, aN (kcI G) 3 f)] ++ wr)) _ := hV
            refine lv_ldc (v := -2000000001) hx hb hown (hts (Cond.constant RL 15 (-2000000001)) (List.mem_of_getElem? (i := 1) rfl)) dL_refuses_262 ?_
            refine lv_icmp_ne (tgt := 549) hx hb dL_refuses_264 (by decide) (fun z => absurd rfl z) (fun _ => ?_)
            refine lv_aload_n hx hb dL_refuses_267 rfl (lv_at hl 5 rfl) ?_
            refine lv_iload hx hb dL_refuses_268 (lv_at hl 2 rfl) ?_
            refine lv_iconst (v := nI 4) hx hb dL_refuses_270 (by decide) ?_
            refine kc_i (vx_runSW (As := [.ref (yh), .int (pa), .int (nI (4))]) (rest := []) hF (c_L_need l G S u_35 yh ([(na, aN (kcI G) 3 f)] ++ wr) (pa) (nI 4) ((1, 0, S)) (rf_need1 hpa) hlt hh hI hY) (vx_cwSW 3 hts gL_refuses_L_need rfl rfl rfl (by decide +kernel) ⟨Nat.le_of_ble_eq_true rfl, Nat.le_of_ble_eq_true rfl⟩) (kPreS hE hS hV) rfl rfl hl.1 rfl (lv_room (Nat.le_of_ble_eq_true rfl)) dL_refuses_271 ⟨Nat.le_of_ble_eq_true rfl, Nat.le_of_ble_eq_true rfl⟩) hS (fun r_39 u_38 H locs hp_37 hV hS => ?_)
            obtain ⟨hp_370, hY, hh⟩ := hp_37
            have hY : yI G S u_38 := hY
            have hp_370 : r_39 = (-2000000001) := hp_370.trans (vIA_1 0 S)
            subst hp_370
            have hV : kV G (siteW G S u_38 ++ ([(na, aN (kcI G) 3 f)] ++ wr)) _ := hV
            refine lv_ldc (v := -2000000001) hx hb hown (hts (Cond.constant RL 15 (-2000000001)) (List.mem_of_getElem? (i := 1) rfl)) dL_refuses_274 ?_
            refine lv_icmp_ne (tgt := 549) hx hb dL_refuses_276 (by decide) (fun z => absurd rfl z) (fun _ => ?_)
            refine lv_aload_n hx hb dL_refuses_279 rfl (lv_at hl 5 rfl) ?_
            refine lv_iload hx hb dL_refuses_280 (lv_at hl 2 rfl) ?_
            refine lv_iconst (v := nI 0) hx hb dL_refuses_282 (by decide) ?_
            refine kc_i (vx_runSW (As := [.ref (yh), .int (pa), .int (nI (0))]) (rest := []) hF (c_L_buys l G S u_38 yh ([(na, aN (kcI G) 3 f)] ++ wr) (pa) (nI 0) ((1, 0, S)) (rf_buy1 (fun z => hpa z.1)) hlt hh hI hY) (vx_cwSW 3 hts gL_refuses_L_buys rfl rfl rfl (by decide +kernel) ⟨Nat.le_of_ble_eq_true rfl, Nat.le_of_ble_eq_true rfl⟩) (kPreS hE hS hV) rfl rfl hl.1 rfl (lv_room (Nat.le_of_ble_eq_true rfl)) dL_refuses_283 ⟨Nat.le_of_ble_eq_true rfl, Nat.le_of_ble_eq_true rfl⟩) hS (fun r_42 u_41 H locs hp_40 hV hS => ?_)
            obtain ⟨hp_400, hY, hh⟩ := hp_40
            have hY : yI G S u_41 := hY
            have hp_400 : r_42 = (-2000000001) := hp_400.trans (vIS_1 0 S)
            subst hp_400
            have hV : kV G (siteW G S u_41 ++ ([(na, aN (kcI G) 3 f)] ++ wr)) _ := hV
            refine lv_ldc (v := -2000000001) hx hb hown (hts (Cond.constant RL 15 (-2000000001)) (List.mem_of_getElem? (i := 1) rfl)) dL_refuses_286 ?_
            refine lv_icmp_ne (tgt := 549) hx hb dL_refuses_288 (by decide) (fun z => absurd rfl z) (fun _ => ?_)
            refine lv_aload_n hx hb dL_refuses_291 rfl (lv_at hl 5 rfl) ?_
            refine lv_iload hx hb dL_refuses_292 (lv_at hl 2 rfl) ?_
            refine kc_i (vx_runSW (As := [.ref (yh), .int (pa)]) (rest := []) hF (c_L_rules l G S u_41 yh ([(na, aN (kcI G) 3 f)] ++ wr) (pa) ((1, 0, S)) (rf_rule1 hpa) hlt hh hI hY) (vx_cwSW 2 hts gL_refuses_L_rules rfl rfl rfl (by decide +kernel) ⟨Nat.le_of_ble_eq_true rfl, Nat.le_of_ble_eq_true rfl⟩) (kPreS hE hS hV) rfl rfl hl.1 rfl (lv_room (Nat.le_of_ble_eq_true rfl)) dL_refuses_294 ⟨Nat.le_of_ble_eq_true rfl, Nat.le_of_ble_eq_true rfl⟩) hS (fun r_45 u_44 H locs hp_43 hV hS => ?_)
            obtain ⟨hp_430, hY, hh⟩ := hp_43
            have hY : yI G S u_44 := hY
            have hp_430 : r_45 = (-2000000001) := hp_430.trans (vIS_1 0 S)
            subst hp_430
            have hV : kV G (siteW G S u_44 ++ ([(na, aN (kcI G) 3 f)] ++ wr)) _ := hV
            refine lv_ldc (v := -2000000001) hx hb hown (hts (Cond.constant RL 15 (-2000000001)) (List.mem_of_getElem? (i := 1) rfl)) dL_refuses_297 ?_
            refine lv_icmp_ne (tgt := 549) hx hb dL_refuses_299 (by decide) (fun z => absurd rfl z) (fun _ => ?_)
            refine lv_aload_n hx hb dL_refuses_302 rfl (lv_at hl 5 rfl) ?_
            refine lv_iload hx hb dL_refuses_303 (lv_at hl 3 rfl) ?_
            refine kc_i (vx_runSW (As := [.ref (yh), .int (pe)]) (rest := []) hF (c_L_money l G S u_44 yh ([(na, aN (kcI G) 3 f)] ++ wr) (pe) ((1, 0, S)) (rf_money1 hpe) hlt hh hI hY) (vx_cwSW 2 hts gL_refuses_L_money rfl rfl rfl (by decide +kernel) ⟨Nat.le_of_ble_eq_true rfl, Nat.le_of_ble_eq_true rfl⟩) (kPreS hE hS hV) rfl rfl hl.1 rfl (lv_room (Nat.le_of_ble_eq_true rfl)) dL_refuses_305 ⟨Nat.le_of_ble_eq_true rfl, Nat.le_of_ble_eq_true rfl⟩) hS (fun r_48 u_47 H locs hp_46 hV hS => ?_)
            obtain ⟨hp_460, hY, hh⟩ := hp_46
            have hY : yI G S u_47 := hY
            have hp_460 : r_48 = (-2000000001) := hp_460.trans (vI_1 0 S)
            subst hp_460
            have hV : kV G (siteW G S u_47 ++ ([(na, aN (kcI G) 3 f)] ++ wr)) _ := hV
            refine lv_ldc (v := -2000000001) hx hb hown (hts (Cond.constant RL 15 (-2000000001)) (List.mem_of_getElem? (i := 1) rfl)) dL_refuses_308 ?_
            refine lv_icmp_ne (tgt := 549) hx hb dL_refuses_310 (by decide) (fun z => absurd rfl z) (fun _ => ?_)
            refine lv_aload_n hx hb dL_refuses_313 rfl (lv_at hl 5 rfl) ?_
            refine lv_iload hx hb dL_refuses_314 (lv_at hl 3 rfl) ?_
            refine lv_iconst (v := nI 4) hx hb dL_refuses_316 (by decide) ?_
            refine lv_iconst (v := nI 0) hx hb dL_refuses_317 (by decide) ?_
            refine kc_i (vx_runSW (As := [.ref (yh), .int (pe), .int (nI (4)), .int (nI (0))]) (rest := []) hF (c_L_lots l G S u_47 yh ([(na, aN (kcI G) 3 f)] ++ wr) (pe) (nI 4) (nI 0) ((1, 0, S)) (rf_lot1 hpe) hlt hh hI hY) (vx_cwSW 4 hts gL_refuses_L_lots rfl rfl rfl (by decide +kernel) ⟨Nat.le_of_ble_eq_true rfl, Nat.le_of_ble_eq_true rfl⟩) (kPreS hE hS hV) rfl rfl hl.1 rfl (lv_room (Nat.le_of_ble_eq_true rfl)) dL_refuses_318 ⟨Nat.le_of_ble_eq_true rfl, Nat.le_of_ble_eq_true rfl⟩) hS (fun r_51 u_50 H locs hp_49 hV hS => ?_)
            obtain ⟨hp_490, hY, hh⟩ := hp_49
            have hY : yI G S u_50 := hY
            have hp_490 : r_51 = (-2000000001) := hp_490.trans (vIAS_1 0 S)
            subst hp_490
            have hV : kV G (siteW G S u_50 ++ ([(na, aN (kcI G) 3 f)] ++ wr)) _ := hV
            refine lv_ldc (v := -2000000001) hx hb hown (hts (Cond.constant RL 15 (-2000000001)) (List.mem_of_getElem? (i := 1) rfl)) dL_refuses_321 ?_
            refine lv_icmp_ne (tgt := 549) hx hb dL_refuses_323 (by decide) (fun z => absurd rfl z) (fun _ => ?_)
            refine lv_aload_n hx hb dL_refuses_326 rfl (lv_at hl 5 rfl) ?_
            refine lv_iload_n hx hb dL_refuses_327 rfl (lv_at hl 7 rfl) ?_
            refine lv_iconst (v := nI 5) hx hb dL_refuses_328 (by decide) ?_
            refine kn_rem hx hb (by omega) (by omega) (by omega) dL_refuses_329 ?_
            refine lv_iconst (v := nI 4) hx hb dL_refuses_330 (by decide) ?_
            refine lv_iload_n hx hb dL_refuses_331 rfl (lv_at hl 7 rfl) ?_
            refine W.eq (g2 := F0 m 332 ls [.int (zI (((x : Nat) : Int))), .int (zI (((4 : Nat) : Int))), .int (nI (x % 5)), .ref (yh)]) rfl ?_
            refine kz_sub hx hb dL_refuses_332 ?_
            refine lv_iconst (v := nI 1) hx hb dL_refuses_333 (by decide) ?_
            refine kc_i (vx_runSW (As := [.ref (yh), .int (nI (x % 5)), .int (zI (((4 : Nat) : Int) - ((x : Nat) : Int))), .int (nI (1))]) (rest := []) hF (c_L_lots l G S u_50 yh ([(na, aN (kcI G) 3 f)] ++ wr) (nI (x % 5)) (zI (((4 : Nat) : Int) - ((x : Nat) : Int))) (nI 1) ((2, 0, S)) (rf_lot2 (isIn_nI (show x % 5 < 5 by omega)) (fun z => nrg_lo (by omega) (by omega) (by decide) z.1)) hlt hh hI hY) (vx_cwSW 4 hts gL_refuses_L_lots rfl rfl rfl (by decide +kernel) ⟨Nat.le_of_ble_eq_true rfl, Nat.le_of_ble_eq_true rfl⟩) (kPreS hE hS hV) rfl rfl hl.1 rfl (lv_room (Nat.le_of_ble_eq_true rfl)) dL_refuses_334 ⟨Nat.le_of_ble_eq_true rfl, Nat.le_of_ble_eq_true rfl⟩) hS (fun r_54 u_53 H locs hp_52 hV hS => ?_)
            obtain ⟨hp_520, hY, hh⟩ := hp_52
            have hY : yI G S u_53 := hY
            have hp_520 : r_54 = (-2000000002) := hp_520.trans (vIAS_2 0 S)
            subst hp_520
            have hV : kV G (siteW G S u_53 ++ ([(na, aN (kcI G) 3 f)] ++ wr)) _ := hV
            refine lv_ldc (v := -2000000002) hx hb hown (hts (Cond.constant RL 18 (-2000000002)) (List.mem_of_getElem? (i := 2) rfl)) dL_refuses_337 ?_
            refine lv_icmp_ne (tgt := 549) hx hb dL_refuses_339 (by decide) (fun z => absurd rfl z) (fun _ => ?_)
            refine lv_aload_n hx hb dL_refuses_342 rfl (lv_at hl 5 rfl) ?_
            refine lv_iload_n hx hb dL_refuses_343 rfl (lv_at hl 7 rfl) ?_
            refine lv_iconst (v := nI 5) hx hb dL_refuses_344 (by decide) ?_
            refine kn_rem hx hb (by omega) (by omega) (by omega) dL_refuses_345 ?_
            refine lv_bipush (v := nI 21) hx hb dL_refuses_346 (by decide) ?_
            refine lv_iload_n hx hb dL_refuses_348 rfl (lv_at hl 7 rfl) ?_
            refine kn_add hx hb dL_refuses_349 ?_
            refine lv_iconst (v := nI 1) hx hb dL_refuses_350 (by decide) ?_
            refine kc_i (vx_runSW (As := [.ref (yh), .int (nI (x % 5)), .int (nI (21 + x)), .int (nI (1))]) (rest := []) hF (c_L_lots l G S u_53 yh ([(na, aN (kcI G) 3 f)] ++ wr) (nI (x % 5)) (nI (21 + x)) (nI 1) ((2, 0, S)) (rf_lot2 (isIn_nI (show x % 5 < 5 by omega)) (fun z => nrg_hi (by omega) (by omega) z.1)) hlt hh hI hY) (vx_cwSW 4 hts gL_refuses_L_lots rfl rfl rfl (by decide +kernel) ⟨Nat.le_of_ble_eq_true rfl, Nat.le_of_ble_eq_true rfl⟩) (kPreS hE hS hV) rfl rfl hl.1 rfl (lv_room (Nat.le_of_ble_eq_true rfl)) dL_refuses_351 ⟨Nat.le_of_ble_eq_true rfl, Nat.le_of_ble_eq_true rfl⟩) hS (fun r_57 u_56 H locs hp_55 hV hS => ?_)
            obtain ⟨hp_550, hY, hh⟩ := hp_55
            have hY : yI G S u_56 := hY
            have hp_550 : r_57 = (-2000000002) := hp_550.trans (vIAS_2 0 S)
            subst hp_550
            have hV : kV G (siteW G S u_56 ++ ([(na, aN (kcI G) 3 f)] ++ wr)) _ := hV
            refine lv_ldc (v := -2000000002) hx hb hown (hts (Cond.constant RL 18 (-2000000002)) (List.mem_of_getElem? (i := 2) rfl)) dL_refuses_354 ?_
            refine lv_icmp_ne (tgt := 549) hx hb dL_refuses_356 (by decide) (fun z => absurd rfl z) (fun _ => ?_)
            refine lv_aload_n hx hb dL_refuses_359 rfl (lv_at hl 5 rfl) ?_
            refine lv_iload_n hx hb dL_refuses_360 rfl (lv_at hl 7 rfl) ?_
            refine lv_iconst (v := nI 5) hx hb dL_refuses_361 (by decide) ?_
            refine kn_rem hx hb (by omega) (by omega) (by omega) dL_refuses_362 ?_
            refine lv_iconst (v := nI 5) hx hb dL_refuses_363 (by decide) ?_
            refine lv_iload_n hx hb dL_refuses_364 rfl (lv_at hl 7 rfl) ?_
            refine W.eq (g2 := F0 m 365 ls [.int (zI (((x : Nat) : Int))), .int (nI (5)), .int (nI (x % 5)), .ref (yh)]) rfl ?_
            refine kz_neg hx hb dL_refuses_365 ?_
            refine kc_i (vx_runSW (As := [.ref (yh), .int (nI (x % 5)), .int (nI (5)), .int (zI (-((x : Nat) : Int)))]) (rest := []) hF (c_L_lots l G S u_56 yh ([(na, aN (kcI G) 3 f)] ++ wr) (nI (x % 5)) (nI 5) (zI (-((x : Nat) : Int))) ((2, 0, S)) (rf_lot2 (isIn_nI (show x % 5 < 5 by omega)) (fun z => nrg_lo (by omega) (by omega) (by decide) z.2)) hlt hh hI hY) (vx_cwSW 4 hts gL_refuses_L_lots rfl rfl rfl (by decide +kernel) ⟨Nat.le_of_ble_eq_true rfl, Nat.le_of_ble_eq_true rfl⟩) (kPreS hE hS hV) rfl rfl hl.1 rfl (lv_room (Nat.le_of_ble_eq_true rfl)) dL_refuses_366 ⟨Nat.le_of_ble_eq_true rfl, Nat.le_of_ble_eq_true rfl⟩) hS (fun r_60 u_59 H locs hp_58 hV hS => ?_)
            obtain ⟨hp_580, hY, hh⟩ := hp_58
            have hY : yI G S u_59 := hY
            have hp_580 : r_60 = (-2000000002) := hp_580.trans (vIAS_2 0 S)
            subst hp_580
            have hV : kV G (siteW G S u_59 ++ ([(na, aN (kcI G) 3 f)] ++ wr)) _ := hV
            refine lv_ldc (v := -2000000002) hx hb hown (hts (Cond.constant RL 18 (-2000000002)) (List.mem_of_getElem? (i := 2) rfl)) dL_refuses_369 ?_
            refine lv_icmp_ne (tgt := 549) hx hb dL_refuses_371 (by decide) (fun z => absurd rfl z) (fun _ => ?_)
            refine lv_aload_n hx hb dL_refuses_374 rfl (lv_at hl 5 rfl) ?_
            refine lv_iload_n hx hb dL_refuses_375 rfl (lv_at hl 7 rfl) ?_
            refine lv_iconst (v := nI 5) hx hb dL_refuses_376 (by decide) ?_
            refine kn_rem hx hb (by omega) (by omega) (by omega) dL_refuses_377 ?_
            refine lv_iconst (v := nI 5) hx hb dL_refuses_378 (by decide) ?_
            refine lv_ldc (v := nI 100001) hx hb hown (hts (Cond.constant RL 121 (100001)) (List.mem_of_getElem? (i := 3) rfl)) dL_refuses_379 ?_
            refine lv_iload_n hx hb dL_refuses_381 rfl (lv_at hl 7 rfl) ?_
            refine kn_add hx hb dL_refuses_382 ?_
            refine kc_i (vx_runSW (As := [.ref (yh), .int (nI (x % 5)), .int (nI (5)), .int (nI (100001 + x))]) (rest := []) hF (c_L_lots l G S u_59 yh ([(na, aN (kcI G) 3 f)] ++ wr) (nI (x % 5)) (nI 5) (nI (100001 + x)) ((2, 0, S)) (rf_lot2 (isIn_nI (show x % 5 < 5 by omega)) (fun z => nrg_hi (by omega) (by omega) z.2)) hlt hh hI hY) (vx_cwSW 4 hts gL_refuses_L_lots rfl rfl rfl (by decide +kernel) ⟨Nat.le_of_ble_eq_true rfl, Nat.le_of_ble_eq_true rfl⟩) (kPreS hE hS hV) rfl rfl hl.1 rfl (lv_room (Nat.le_of_ble_eq_true rfl)) dL_refuses_383 ⟨Nat.le_of_ble_eq_true rfl, Nat.le_of_ble_eq_true rfl⟩) hS (fun r_63 u_62 H locs hp_61 hV hS => ?_)
            obtain ⟨hp_610, hY, hh⟩ := hp_61
            have hY : yI G S u_62 := hY
            have hp_610 : r_63 = (-2000000002) := hp_610.trans (vIAS_2 0 S)
            subst hp_610
            have hV : kV G (siteW G S u_62 ++ ([(na, aN (kcI G) 3 f)] ++ wr)) _ := hV
            refine lv_ldc (v := -2000000002) hx hb hown (hts (Cond.constant RL 18 (-2000000002)) (List.mem_of_getElem? (i := 2) rfl)) dL_refuses_386 ?_
            refine lv_icmp_ne (tgt := 549) hx hb dL_refuses_388 (by decide) (fun z => absurd rfl z) (fun _ => ?_)
            refine lv_aload_n hx hb dL_refuses_391 rfl (lv_at hl 5 rfl) ?_
            refine lv_iload hx hb dL_refuses_392 (lv_at hl 1 rfl) ?_
            refine lv_iload hx hb dL_refuses_394 (lv_at hl 1 rfl) ?_
            refine kc_i (vx_runSW (As := [.ref (yh), .int (lo), .int (lo)]) (rest := []) hF (c_L_swaps l G S u_62 yh ([(na, aN (kcI G) 3 f)] ++ wr) (lo) (lo) ((1, 0, S)) (rf_swap1 (fun z => hlo z.1)) hlt hh hI hY) (vx_cwSW 3 hts gL_refuses_L_swaps rfl rfl rfl (by decide +kernel) ⟨Nat.le_of_ble_eq_true rfl, Nat.le_of_ble_eq_true rfl⟩) (kPreS hE hS hV) rfl rfl hl.1 rfl (lv_room (Nat.le_of_ble_eq_true rfl)) dL_refuses_396 ⟨Nat.le_of_ble_eq_true rfl, Nat.le_of_ble_eq_true rfl⟩) hS (fun r_66 u_65 H locs hp_64 hV hS => ?_)
            obtain ⟨hp_640, hY, hh⟩ := hp_64
            have hY : yI G S u_65 := hY
            have hp_640 : r_66 = (-2000000001) := hp_640.trans (vIS_1 0 S)
            subst hp_640
            have hV : kV G (siteW G S u_65 ++ ([(na, aN (kcI G) 3 f)] ++ wr)) _ := hV
            refine lv_ldc (v := -2000000001) hx hb hown (hts (Cond.constant RL 15 (-2000000001)) (List.mem_of_getElem? (i := 1) rfl)) dL_refuses_399 ?_
            refine lv_icmp_ne (tgt := 549) hx hb dL_refuses_401 (by decide) (fun z => absurd rfl z) (fun _ => ?_)
            refine lv_aload_n hx hb dL_refuses_404 rfl (lv_at hl 5 rfl) ?_
            refine lv_iload hx hb dL_refuses_405 (lv_at hl 1 rfl) ?_
            refine kc_i (vx_runSW (As := [.ref (yh), .int (lo)]) (rest := []) hF (c_L_left l G S u_65 yh ([(na, aN (kcI G) 3 f)] ++ wr) (lo) ((1, 0, S)) (rf_left1 hlo) hlt hh hI hY) (vx_cwSW 2 hts gL_refuses_L_left rfl rfl rfl (by decide +kernel) ⟨Nat.le_of_ble_eq_true rfl, Nat.le_of_ble_eq_true rfl⟩) (kPreS hE hS hV) rfl rfl hl.1 rfl (lv_room (Nat.le_of_ble_eq_true rfl)) dL_refuses_407 ⟨Nat.le_of_ble_eq_true rfl, Nat.le_of_ble_eq_true rfl⟩) hS (fun r_69 u_68 H locs hp_67 hV hS => ?_)
            obtain ⟨hp_670, hY, hh⟩ := hp_67
            have hY : yI G S u_68 := hY
            have hp_670 : r_69 = (-2000000001) := hp_670.trans (vI_1 0 S)
            subst hp_670
            have hV : kV G (siteW G S u_68 ++ ([(na, aN (kcI G) 3 f)] ++ wr)) _ := hV
            refine lv_ldc (v := -2000000001) hx hb hown (hts (Cond.constant RL 15 (-2000000001)) (List.mem_of_getElem? (i := 1) rfl)) dL_refuses_410 ?_
            refine lv_icmp_ne (tgt := 549) hx hb dL_refuses_412 (by decide) (fun z => absurd rfl z) (fun _ => ?_)
            refine lv_aload_n hx hb dL_refuses_415 rfl (lv_at hl 5 rfl) ?_
            refine lv_iload hx hb dL_refuses_416 (lv_at hl 3 rfl) ?_
            refine lv_iconst (v := nI 0) hx hb dL_refuses_418 (by decide) ?_
            refine lv_iconst (v := nI 0) hx hb dL_refuses_419 (by decide) ?_
            refine kc_i (vx_runSW (As := [.ref (yh), .int (pe), .int (nI (0)), .int (nI (0))]) (rest := []) hF (c_L_projects l G S u_68 yh ([(na, aN (kcI G) 3 f)] ++ wr) (pe) (nI 0) (nI 0) ((1, 0, S)) (rf_project1 (fun z => hpe z.1)) hlt hh hI hY) (vx_cwSW 4 hts gL_refuses_L_projects rfl rfl rfl (by decide +kernel) ⟨Nat.le_of_ble_eq_true rfl, Nat.le_of_ble_eq_true rfl⟩) (kPreS hE hS hV) rfl rfl hl.1 rfl (lv_room (Nat.le_of_ble_eq_true rfl)) dL_refuses_420 ⟨Nat.le_of_ble_eq_true rfl, Nat.le_of_ble_eq_true rfl⟩) hS (fun r_72 u_71 H locs hp_70 hV hS => ?_)
            obtain ⟨hp_700, hY, hh⟩ := hp_70
            have hY : yI G S u_71 := hY
            have hp_700 : r_72 = (-2000000001) := hp_700.trans (vIS_1 0 S)
            subst hp_700
            have hV : kV G (siteW G S u_71 ++ ([(na, aN (kcI G) 3 f)] ++ wr)) _ := hV
            refine lv_ldc (v := -2000000001) hx hb hown (hts (Cond.constant RL 15 (-2000000001)) (List.mem_of_getElem? (i := 1) rfl)) dL_refuses_423 ?_
            refine lv_icmp_ne (tgt := 549) hx hb dL_refuses_425 (by decide) (fun z => absurd rfl z) (fun _ => ?_)
            refine lv_aload_n hx hb dL_refuses_428 rfl (lv_at hl 5 rfl) ?_
            refine lv_iload_n hx hb dL_refuses_429 rfl (lv_at hl 7 rfl) ?_
            refine lv_iconst (v := nI 5) hx hb dL_refuses_430 (by decide) ?_
            refine kn_rem hx hb (by omega) (by omega) (by omega) dL_refuses_431 ?_
            refine lv_iload hx hb dL_refuses_432 (lv_at hl 2 rfl) ?_
            refine lv_iconst (v := nI 0) hx hb dL_refuses_434 (by decide) ?_
            refine kc_i (vx_runSW (As := [.ref (yh), .int (nI (x % 5)), .int (pa), .int (nI (0))]) (rest := []) hF (c_L_projects l G S u_71 yh ([(na, aN (kcI G) 3 f)] ++ wr) (nI (x % 5)) (pa) (nI 0) ((1, 0, S)) (rf_project1 (fun z => hpa z.2.1)) hlt hh hI hY) (vx_cwSW 4 hts gL_refuses_L_projects rfl rfl rfl (by decide +kernel) ⟨Nat.le_of_ble_eq_true rfl, Nat.le_of_ble_eq_true rfl⟩) (kPreS hE hS hV) rfl rfl hl.1 rfl (lv_room (Nat.le_of_ble_eq_true rfl)) dL_refuses_435 ⟨Nat.le_of_ble_eq_true rfl, Nat.le_of_ble_eq_true rfl⟩) hS (fun r_75 u_74 H locs hp_73 hV hS => ?_)
            obtain ⟨hp_730, hY, hh⟩ := hp_73
            have hY : yI G S u_74 := hY
            have hp_730 : r_75 = (-2000000001) := hp_730.trans (vIS_1 0 S)
            subst hp_730
            have hV : kV G (siteW G S u_74 ++ ([(na, aN (kcI G) 3 f)] ++ wr)) _ := hV
            refine lv_ldc (v := -2000000001) hx hb hown (hts (Cond.constant RL 15 (-2000000001)) (List.mem_of_getElem? (i := 1) rfl)) dL_refuses_438 ?_
            refine lv_icmp_ne (tgt := 549) hx hb dL_refuses_440 (by decide) (fun z => absurd rfl z) (fun _ => ?_)
            refine lv_aload_n hx hb dL_refuses_443 rfl (lv_at hl 5 rfl) ?_
            refine lv_iload_n hx hb dL_refuses_444 rfl (lv_at hl 7 rfl) ?_
            refine lv_iconst (v := nI 5) hx hb dL_refuses_445 (by decide) ?_
            refine kn_rem hx hb (by omega) (by omega) (by omega) dL_refuses_446 ?_
            refine lv_iconst (v := nI 0) hx hb dL_refuses_447 (by decide) ?_
            refine lv_iload hx hb dL_refuses_448 (lv_at hl 1 rfl) ?_
            refine kc_i (vx_runSW (As := [.ref (yh), .int (nI (x % 5)), .int (nI (0)), .int (lo)]) (rest := []) hF (c_L_projects l G S u_74 yh ([(na, aN (kcI G) 3 f)] ++ wr) (nI (x % 5)) (nI 0) (lo) ((1, 0, S)) (rf_project1 (fun z => hlo z.2.2)) hlt hh hI hY) (vx_cwSW 4 hts gL_refuses_L_projects rfl rfl rfl (by decide +kernel) ⟨Nat.le_of_ble_eq_true rfl, Nat.le_of_ble_eq_true rfl⟩) (kPreS hE hS hV) rfl rfl hl.1 rfl (lv_room (Nat.le_of_ble_eq_true rfl)) dL_refuses_450 ⟨Nat.le_of_ble_eq_true rfl, Nat.le_of_ble_eq_true rfl⟩) hS (fun r_78 u_77 H locs hp_76 hV hS => ?_)
            obtain ⟨hp_760, hY, hh⟩ := hp_76
            have hY : yI G S u_77 := hY
            have hp_760 : r_78 = (-2000000001) := hp_760.trans (vIS_1 0 S)
            subst hp_760
            have hV : kV G (siteW G S u_77 ++ ([(na, aN (kcI G) 3 f)] ++ wr)) _ := hV
            refine lv_ldc (v := -2000000001) hx hb hown (hts (Cond.constant RL 15 (-2000000001)) (List.mem_of_getElem? (i := 1) rfl)) dL_refuses_453 ?_
            refine lv_icmp_ne (tgt := 549) hx hb dL_refuses_455 (by decide) (fun z => absurd rfl z) (fun _ => ?_)
            refine lv_aload_n hx hb dL_refuses_458 rfl (lv_at hl 5 rfl) ?_
            refine lv_iload hx hb dL_refuses_459 (lv_at hl 0 rfl) ?_
            refine lv_iconst (v := nI 0) hx hb dL_refuses_461 (by decide) ?_
            refine kc_i (vx_runSW (As := [.ref (yh), .int (pr), .int (nI (0))]) (rest := []) hF (c_L_takes l G S u_77 yh ([(na, aN (kcI G) 3 f)] ++ wr) (pr) (nI 0) ((1, 0, S)) (rf_take1 (fun z => hpr z.1)) hlt hh hI hY) (vx_cwSW 3 hts gL_refuses_L_takes rfl rfl rfl (by decide +kernel) ⟨Nat.le_of_ble_eq_true rfl, Nat.le_of_ble_eq_true rfl⟩) (kPreS hE hS hV) rfl rfl hl.1 rfl (lv_room (Nat.le_of_ble_eq_true rfl)) dL_refuses_462 ⟨Nat.le_of_ble_eq_true rfl, Nat.le_of_ble_eq_true rfl⟩) hS (fun r_81 u_80 H locs hp_79 hV hS => ?_)
            obtain ⟨hp_790, hY, hh⟩ := hp_79
            have hY : yI G S u_80 := hY
            have hp_790 : r_81 = (-2000000001) := hp_790.trans (vIS_1 0 S)
            subst hp_790
            have hV : kV G (siteW G S u_80 ++ ([(na, aN (kcI G) 3 f)] ++ wr)) _ := hV
            refine lv_ldc (v := -2000000001) hx hb hown (hts (Cond.constant RL 15 (-2000000001)) (List.mem_of_getElem? (i := 1) rfl)) dL_refuses_465 ?_
            refine lv_icmp_ne (tgt := 549) hx hb dL_refuses_467 (by decide) (fun z => absurd rfl z) (fun _ => ?_)
            refine lv_aload_n hx hb dL_refuses_470 rfl (lv_at hl 5 rfl) ?_
            refine lv_iconst (v := nI 0) hx hb dL_refuses_471 (by decide) ?_
            refine lv_iload hx hb dL_refuses_472 (lv_at hl 1 rfl) ?_
            refine kc_i (vx_runSW (As := [.ref (yh), .int (nI (0)), .int (lo)]) (rest := []) hF (c_L_takes l G S u_80 yh ([(na, aN (kcI G) 3 f)] ++ wr) (nI 0) (lo) ((1, 0, S)) (rf_take1 (fun z => hlo z.2)) hlt hh hI hY) (vx_cwSW 3 hts gL_refuses_L_takes rfl rfl rfl (by decide +kernel) ⟨Nat.le_of_ble_eq_true rfl, Nat.le_of_ble_eq_true rfl⟩) (kPreS hE hS hV) rfl rfl hl.1 rfl (lv_room (Nat.le_of_ble_eq_true rfl)) dL_refuses_474 ⟨Nat.le_of_ble_eq_true rfl, Nat.le_of_ble_eq_true rfl⟩) hS (fun r_84 u_83 H locs hp_82 hV hS => ?_)
            obtain ⟨hp_820, hY, hh⟩ := hp_82
            have hY : yI G S u_83 := hY
            have hp_820 : r_84 = (-2000000001) := hp_820.trans (vIS_1 0 S)
            subst hp_820
            have hV : kV G (siteW G S u_83 ++ ([(na, aN (kcI G) 3 f)] ++ wr)) _ := hV
            refine lv_ldc (v := -2000000001) hx hb hown (hts (Cond.constant RL 15 (-2000000001)) (List.mem_of_getElem? (i := 1) rfl)) dL_refuses_477 ?_
            refine lv_icmp_ne (tgt := 549) hx hb dL_refuses_479 (by decide) (fun z => absurd rfl z) (fun _ => ?_)
            refine lv_aload_n hx hb dL_refuses_482 rfl (lv_at hl 5 rfl) ?_
            refine lv_iload hx hb dL_refuses_483 (lv_at hl 0 rfl) ?_
            refine lv_iconst (v := nI 0) hx hb dL_refuses_485 (by decide) ?_
            refine kc_i (vx_runSW (As := [.ref (yh), .int (pr), .int (nI (0))]) (rest := []) hF (c_L_knits l G S u_83 yh ([(na, aN (kcI G) 3 f)] ++ wr) (pr) (nI 0) ((1, 0, S)) (rf_knit1 hpr) hlt hh hI hY) (vx_cwSW 3 hts gL_refuses_L_knits rfl rfl rfl (by decide +kernel) ⟨Nat.le_of_ble_eq_true rfl, Nat.le_of_ble_eq_true rfl⟩) (kPreS hE hS hV) rfl rfl hl.1 rfl (lv_room (Nat.le_of_ble_eq_true rfl)) dL_refuses_486 ⟨Nat.le_of_ble_eq_true rfl, Nat.le_of_ble_eq_true rfl⟩) hS (fun r_87 u_86 H locs hp_85 hV hS => ?_)
            obtain ⟨hp_850, hY, hh⟩ := hp_85
            have hY : yI G S u_86 := hY
            have hp_850 : r_87 = (-2000000001) := hp_850.trans (vIA_1 0 S)
            subst hp_850
            have hV : kV G (siteW G S u_86 ++ ([(na, aN (kcI G) 3 f)] ++ wr)) _ := hV
            refine lv_ldc (v := -2000000001) hx hb hown (hts (Cond.constant RL 15 (-2000000001)) (List.mem_of_getElem? (i := 1) rfl)) dL_refuses_489 ?_
            refine lv_icmp_ne (tgt := 549) hx hb dL_refuses_491 (by decide) (fun z => absurd rfl z) (fun _ => ?_)
            refine lv_aload_n hx hb dL_refuses_494 rfl (lv_at hl 5 rfl) ?_
            refine lv_iload hx hb dL_refuses_495 (lv_at hl 0 rfl) ?_
            refine kc_i (vx_runSW (As := [.ref (yh), .int (pr)]) (rest := []) hF (c_L_progress l G S u_86 yh ([(na, aN (kcI G) 3 f)] ++ wr) (pr) ((1, 0, S)) (rf_progress1 hpr) hlt hh hI hY) (vx_cwSW 2 hts gL_refuses_L_progress rfl rfl rfl (by decide +kernel) ⟨Nat.le_of_ble_eq_true rfl, Nat.le_of_ble_eq_true rfl⟩) (kPreS hE hS hV) rfl rfl hl.1 rfl (lv_room (Nat.le_of_ble_eq_true rfl)) dL_refuses_497 ⟨Nat.le_of_ble_eq_true rfl, Nat.le_of_ble_eq_true rfl⟩) hS (fun r_90 u_89 H locs hp_88 hV hS => ?_)
            obtain ⟨hp_880, hY, hh⟩ := hp_88
            have hY : yI G S u_89 := hY
            have hp_880 : r_90 = (-2000000001) := hp_880.trans (vI_1 0 S)
            subst hp_880
            have hV : kV G (siteW G S u_89 ++ ([(na, aN (kcI G) 3 f)] ++ wr)) _ := hV
            refine lv_ldc (v := -2000000001) hx hb hown (hts (Cond.constant RL 15 (-2000000001)) (List.mem_of_getElem? (i := 1) rfl)) dL_refuses_500 ?_
            refine lv_icmp_ne (tgt := 549) hx hb dL_refuses_502 (by decide) (fun z => absurd rfl z) (fun _ => ?_)
            have k525 : ∀ (y525 : kY) (hY : yI G S y525) (hh : yH y525 0 = yh) (H : Heap) (locs : List Loc), kV G (siteW G S y525 ++ ([(na, aN (kcI G) 3 f)] ++ wr)) H → va_S (kA G) s.heap H locs → ∀ (ls : Array Slot), lv_has ls 13 [(7, .int (pr)), (6, .int (lo)), (5, .int (pa)), (4, .int (pe)), (3, .int (nI (low))), (0, .ref (yh)), (1, .ref (na)), (2, .int (nI (x)))] → W pp l ee (headSpec wsL_refuses ({ frames := 10, cells := 700, slots := 28000, locals := 263 } : Room)).room s m [.ref (yh), .ref (na), .int (nI (x))].toArray below meth cc0 H locs 201 13250 (MQ below (kQi G (S := kY) (fun z u => z = nI 1 ∧ yI G S u ∧ yH u 0 = yh) (fun u => siteW G S u ++ ([(na, aN (kcI G) 3 f)] ++ wr))) [.ref (yh), .ref (na), .int (nI (x))].toArray s 700 28000 (kA G)) (F0 m 525 ls []) := by
              intro y525 hY hh H locs hV hS ls hl
              have k545 : ∀ (y545 : kY) (hY : yI G S y545) (hh : yH y545 0 = yh) (H : Heap) (locs : List Loc), kV G (siteW G S y545 ++ ([(na, aN (kcI G) 3 f)] ++ wr)) H → va_S (kA G) s.heap H locs → ∀ (ls : Array Slot), lv_has ls 13 [(7, .int (pr)), (6, .int (lo)), (5, .int (pa)), (4, .int (pe)), (3, .int (nI (low))), (0, .ref (yh)), (1, .ref (na)), (2, .int (nI (x)))] → W pp l ee (headSpec wsL_refuses ({ frames := 10, cells := 700, slots := 28000, locals := 263 } : Room)).room s m [.ref (yh), .ref (na), .int (nI (x))].toArray below meth cc0 H locs 207 13330 (MQ below (kQi G (S := kY) (fun z u => z = nI 1 ∧ yI G S u ∧ yH u 0 = yh) (fun u => siteW G S u ++ ([(na, aN (kcI G) 3 f)] ++ wr))) [.ref (yh), .ref (na), .int (nI (x))].toArray s 700 28000 (kA G)) (F0 m 545 ls []) := by
                intro y545 hY hh H locs hV hS ls hl
                refine lv_iconst (v := nI 1) hx hb dL_refuses_545 (by decide) ?_
                refine lv_goto (tgt := 550) hx hb dL_refuses_546 (by decide) ?_
                refine lv_istore (lv' := [(8, .int (nI (1))), (7, .int (pr)), (6, .int (lo)), (5, .int (pa)), (4, .int (pe)), (3, .int (nI (low))), (0, .ref (yh)), (1, .ref (na)), (2, .int (nI (x)))]) hx hb dL_refuses_550 hl (by decide) rfl (fun ls hl => ?_)
                refine lv_iload hx hb dL_refuses_552 (lv_at hl 0 rfl) ?_
                refine kn_if_eq_not hx hb (by decide) dL_refuses_554 ?_ 968 (by decide)
                have k968 : ∀ (y968 : kY) (hY : yI G S y968) (hh : yH y968 0 = yh) (H : Heap) (locs : List Loc), kV G (siteW G S y968 ++ ([(na, aN (kcI G) 3 f)] ++ wr)) H → va_S (kA G) s.heap H locs → ∀ (ls : Array Slot), lv_has ls 13 [(8, .int (nI (1))), (7, .int (pr)), (6, .int (lo)), (5, .int (pa)), (4, .int (pe)), (3, .int (nI (low))), (0, .ref (yh)), (1, .ref (na)), (2, .int (nI (x)))] → W pp l ee (headSpec wsL_refuses ({ frames := 10, cells := 700, slots := 28000, locals := 263 } : Room)).room s m [.ref (yh), .ref (na), .int (nI (x))].toArray below meth cc0 H locs 457 22330 (MQ below (kQi G (S := kY) (fun z u => z = nI 1 ∧ yI G S u ∧ yH u 0 = yh) (fun u => siteW G S u ++ ([(na, aN (kcI G) 3 f)] ++ wr))) [.ref (yh), .ref (na), .int (nI (x))].toArray s 700 28000 (kA G)) (F0 m 968 ls []) := by
                  intro y968 hY hh H locs hV hS ls hl
                  refine lv_iload hx hb dL_refuses_968 (lv_at hl 0 rfl) ?_
                  refine kn_if_eq_not hx hb (by decide) dL_refuses_970 ?_ 1024 (by decide)
                  have k1024 : ∀ (y1024 : kY) (hY : yI G S y1024) (hh : yH y1024 0 = yh) (H : Heap) (locs : List Loc), kV G (siteW G S y1024 ++ ([(na, aN (kcI G) 3 f)] ++ wr)) H → va_S (kA G) s.heap H locs → ∀ (ls : Array Slot), lv_has ls 13 [(8, .int (nI (1))), (7, .int (pr)), (6, .int (lo)), (5, .int (pa)), (4, .int (pe)), (3, .int (nI (low))), (0, .ref (yh)), (1, .ref (na)), (2, .int (nI (x)))] → W pp l ee (headSpec wsL_refuses ({ frames := 10, cells := 700, slots := 28000, locals := 263 } : Room)).room s m [.ref (yh), .ref (na), .int (nI (x))].toArray below meth cc0 H locs 467 22390 (MQ below (kQi G (S := kY) (fun z u => z = nI 1 ∧ yI G S u ∧ yH u 0 = yh) (fun u => siteW G S u ++ ([(na, aN (kcI G) 3 f)] ++ wr))) [.ref (yh), .ref (na), .int (nI (x))].toArray s 700 28000 (kA G)) (F0 m 1024 ls []) := by
                    intro y1024 hY hh H locs hV hS ls hl
                    refine lv_iload hx hb dL_refuses_1024 (lv_at hl 0 rfl) ?_
                    refine kn_if_eq_not hx hb (by decide) dL_refuses_1026 ?_ 1058 (by decide)
                    refine lv_aload_n hx hb dL_refuses_1029 rfl (lv_at hl 7 rfl) ?_
                    refine lv_iconst (v := nI 1) hx hb dL_refuses_1030 (by decide) ?_
                    have hV9 : kV G ([(na, aN (kcI G) 3 f)] ++ (siteW G S y1024 ++ (wr))) _ := kV_wc hV (fun e => by simp only [wc_app]; omega)
                    refine kn_iald (G := G) (n := 3) (g := f) (j := 1) hx hb hK hV9 0 rfl (by decide) (by decide) dL_refuses_1031 ?_
                    rw [show f 1 = S.1 15 0 from hn1]
                    refine kn_if_eq (tgt := 1054) hx hb (by omega) dL_refuses_1032 (by decide) (fun c1032 => ?_) (fun c1032 => ?_)
                    · refine lv_iconst (v := nI 1) hx hb dL_refuses_1054 (by decide) ?_
                      refine lv_goto (tgt := 1059) hx hb dL_refuses_1055 (by decide) ?_
                      refine W.widen (k := 700) (n := 28000) (by decide) (by decide) ?_
                      exact W.zret (v := nI 1) hx hb hrt (by decide) (fun t ht hW => ⟨⟨_, y1024, rfl, ⟨rfl, hY, hh⟩, kV_eq ht hV⟩, hS.F ht⟩) hS.2.2 dL_refuses_1059
                    · refine lv_aload_n hx hb dL_refuses_1035 rfl (lv_at hl 6 rfl) ?_
                      refine lv_iload_n hx hb dL_refuses_1036 rfl (lv_at hl 8 rfl) ?_
                      refine lv_aload_n hx hb dL_refuses_1037 rfl (lv_at hl 7 rfl) ?_
                      refine lv_iconst (v := nI 1) hx hb dL_refuses_1038 (by decide) ?_
                      have hV9 : kV G ([(na, aN (kcI G) 3 f)] ++ (siteW G S y1024 ++ (wr))) _ := kV_wc hV (fun e => by simp only [wc_app]; omega)
                      refine kn_iald (G := G) (n := 3) (g := f) (j := 1) hx hb hK hV9 0 rfl (by decide) (by decide) dL_refuses_1039 ?_
                      rw [show f 1 = S.1 15 0 from hn1]
                      refine kn_rem hx hb (by omega) (by omega) (by omega) dL_refuses_1040 ?_
                      refine lv_iload_n hx hb dL_refuses_1041 rfl (lv_at hl 8 rfl) ?_
                      refine lv_aload_n hx hb dL_refuses_1042 rfl (lv_at hl 7 rfl) ?_
                      refine lv_iconst (v := nI 1) hx hb dL_refuses_1043 (by decide) ?_
                      have hV9 : kV G ([(na, aN (kcI G) 3 f)] ++ (siteW G S y1024 ++ (wr))) _ := kV_wc hV (fun e => by simp only [wc_app]; omega)
                      refine kn_iald (G := G) (n := 3) (g := f) (j := 1) hx hb hK hV9 0 rfl (by decide) (by decide) dL_refuses_1044 ?_
                      rw [show f 1 = S.1 15 0 from hn1]
                      refine kn_rem hx hb (by omega) (by omega) (by omega) dL_refuses_1045 ?_
                      refine kc_i (vx_runSW (As := [.ref (yh), .int (nI (x % (S.1 15 0))), .int (nI (x % (S.1 15 0)))]) (rest := []) hF (c_L_swaps l G S y1024 yh ([(na, aN (kcI G) 3 f)] ++ wr) (nI (x % (S.1 15 0))) (nI (x % (S.1 15 0))) ((2, 0, S)) (rf_swapA hl20 (Nat.mod_lt _ (by omega))) hlt hh hI hY) (vx_cwSW 3 hts gL_refuses_L_swaps rfl rfl rfl (by decide +kernel) ⟨Nat.le_of_ble_eq_true rfl, Nat.le_of_ble_eq_true rfl⟩) (kPreS hE hS hV) rfl rfl hl.1 rfl (lv_room (Nat.le_of_ble_eq_true rfl)) dL_refuses_1046 ⟨Nat.le_of_ble_eq_true rfl, Nat.le_of_ble_eq_true rfl⟩) hS (fun r_93 u_92 H locs hp_91 hV hS => ?_)
                      obtain ⟨hp_910, hY, hh⟩ := hp_91
                      have hY : yI G S u_92 := hY
                      have hp_910 : r_93 = (-2000000003) := hp_910.trans (vIS_2 0 S)
                      subst hp_910
                      have hV : kV G (siteW G S u_92 ++ ([(na, aN (kcI G) 3 f)] ++ wr)) _ := hV
                      refine lv_ldc (v := -2000000003) hx hb hown (hts (Cond.constant RL 21 (-2000000003)) (List.mem_of_getElem? (i := 4) rfl)) dL_refuses_1049 ?_
                      refine lv_icmp_ne (tgt := 1058) hx hb dL_refuses_1051 (by decide) (fun z => absurd rfl z) (fun _ => ?_)
                      refine lv_iconst (v := nI 1) hx hb dL_refuses_1054 (by decide) ?_
                      refine lv_goto (tgt := 1059) hx hb dL_refuses_1055 (by decide) ?_
                      refine W.widen (k := 700) (n := 28000) (by decide) (by decide) ?_
                      exact W.zret (v := nI 1) hx hb hrt (by decide) (fun t ht hW => ⟨⟨_, u_92, rfl, ⟨rfl, hY, hh⟩, kV_eq ht hV⟩, hS.F ht⟩) hS.2.2 dL_refuses_1059
                  refine lv_aload_n hx hb dL_refuses_973 rfl (lv_at hl 7 rfl) ?_
                  refine lv_iconst (v := nI 2) hx hb dL_refuses_974 (by decide) ?_
                  have hV9 : kV G ([(na, aN (kcI G) 3 f)] ++ (siteW G S y968 ++ (wr))) _ := kV_wc hV (fun e => by simp only [wc_app]; omega)
                  refine kn_iald (G := G) (n := 3) (g := f) (j := 2) hx hb hK hV9 0 rfl (by decide) (by decide) dL_refuses_975 ?_
                  rw [show f 2 = S.1 19 0 from hn2]
                  refine kn_if_le (tgt := 1024) hx hb (by omega) dL_refuses_976 (by decide) (fun c976 => ?_) (fun c976 => ?_)
                  · refine W.widen (k := 467) (n := 22390) (by omega) (by omega) ?_
                    exact k1024 y968 hY hh _ _ hV hS ls (lv_sub hl [0, 1, 2, 3, 4, 5, 6, 7, 8] rfl)
                  · refine lv_aload_n hx hb dL_refuses_979 rfl (lv_at hl 6 rfl) ?_
                    refine lv_iload_n hx hb dL_refuses_980 rfl (lv_at hl 8 rfl) ?_
                    refine lv_iconst (v := nI 2) hx hb dL_refuses_981 (by decide) ?_
                    refine kn_div hx hb (by omega) (by omega) (by omega) dL_refuses_982 ?_
                    refine lv_aload_n hx hb dL_refuses_983 rfl (lv_at hl 7 rfl) ?_
                    refine lv_iconst (v := nI 2) hx hb dL_refuses_984 (by decide) ?_
                    have hV9 : kV G ([(na, aN (kcI G) 3 f)] ++ (siteW G S y968 ++ (wr))) _ := kV_wc hV (fun e => by simp only [wc_app]; omega)
                    refine kn_iald (G := G) (n := 3) (g := f) (j := 2) hx hb hK hV9 0 rfl (by decide) (by decide) dL_refuses_985 ?_
                    rw [show f 2 = S.1 19 0 from hn2]
                    refine kn_rem hx hb (by omega) (by omega) (by omega) dL_refuses_986 ?_
                    refine lv_bipush (v := nI 41) hx hb dL_refuses_987 (by decide) ?_
                    refine lv_iload_n hx hb dL_refuses_989 rfl (lv_at hl 8 rfl) ?_
                    refine kn_add hx hb dL_refuses_990 ?_
                    refine kc_i (vx_runSW (As := [.ref (yh), .int (nI ((x / 2) % (S.1 19 0))), .int (nI (41 + x))]) (rest := []) hF (c_L_knits l G S y968 yh ([(na, aN (kcI G) 3 f)] ++ wr) (nI ((x / 2) % (S.1 19 0))) (nI (41 + x)) ((2, 0, S)) (rf_knit2 (isIn_nI (Nat.mod_lt _ (by omega))) (nrg_hi (by omega) (by omega))) hlt hh hI hY) (vx_cwSW 3 hts gL_refuses_L_knits rfl rfl rfl (by decide +kernel) ⟨Nat.le_of_ble_eq_true rfl, Nat.le_of_ble_eq_true rfl⟩) (kPreS hE hS hV) rfl rfl hl.1 rfl (lv_room (Nat.le_of_ble_eq_true rfl)) dL_refuses_991 ⟨Nat.le_of_ble_eq_true rfl, Nat.le_of_ble_eq_true rfl⟩) hS (fun r_96 u_95 H locs hp_94 hV hS => ?_)
                    obtain ⟨hp_940, hY, hh⟩ := hp_94
                    have hY : yI G S u_95 := hY
                    have hp_940 : r_96 = (-2000000002) := hp_940.trans (vIA_2 0 S)
                    subst hp_940
                    have hV : kV G (siteW G S u_95 ++ ([(na, aN (kcI G) 3 f)] ++ wr)) _ := hV
                    refine lv_ldc (v := -2000000002) hx hb hown (hts (Cond.constant RL 18 (-2000000002)) (List.mem_of_getElem? (i := 2) rfl)) dL_refuses_994 ?_
                    refine lv_icmp_ne (tgt := 1021) hx hb dL_refuses_996 (by decide) (fun z => absurd rfl z) (fun _ => ?_)
                    refine lv_aload_n hx hb dL_refuses_999 rfl (lv_at hl 6 rfl) ?_
                    refine lv_iload_n hx hb dL_refuses_1000 rfl (lv_at hl 8 rfl) ?_
                    refine lv_iconst (v := nI 2) hx hb dL_refuses_1001 (by decide) ?_
                    refine kn_div hx hb (by omega) (by omega) (by omega) dL_refuses_1002 ?_
                    refine lv_aload_n hx hb dL_refuses_1003 rfl (lv_at hl 7 rfl) ?_
                    refine lv_iconst (v := nI 2) hx hb dL_refuses_1004 (by decide) ?_
                    have hV9 : kV G ([(na, aN (kcI G) 3 f)] ++ (siteW G S u_95 ++ (wr))) _ := kV_wc hV (fun e => by simp only [wc_app]; omega)
                    refine kn_iald (G := G) (n := 3) (g := f) (j := 2) hx hb hK hV9 0 rfl (by decide) (by decide) dL_refuses_1005 ?_
                    rw [show f 2 = S.1 19 0 from hn2]
                    refine kn_rem hx hb (by omega) (by omega) (by omega) dL_refuses_1006 ?_
                    refine lv_iload_n hx hb dL_refuses_1007 rfl (lv_at hl 8 rfl) ?_
                    refine W.eq (g2 := F0 m 1008 ls [.int (zI (((x : Nat) : Int))), .int (nI ((x / 2) % (S.1 19 0))), .ref (yh)]) rfl ?_
                    refine kz_neg hx hb dL_refuses_1008 ?_
                    refine kc_i (vx_runSW (As := [.ref (yh), .int (nI ((x / 2) % (S.1 19 0))), .int (zI (-((x : Nat) : Int)))]) (rest := []) hF (c_L_knits l G S u_95 yh ([(na, aN (kcI G) 3 f)] ++ wr) (nI ((x / 2) % (S.1 19 0))) (zI (-((x : Nat) : Int))) ((2, 0, S)) (rf_knit2 (isIn_nI (Nat.mod_lt _ (by omega))) (nrg_lo (by omega) (by omega) (by decide))) hlt hh hI hY) (vx_cwSW 3 hts gL_refuses_L_knits rfl rfl rfl (by decide +kernel) ⟨Nat.le_of_ble_eq_true rfl, Nat.le_of_ble_eq_true rfl⟩) (kPreS hE hS hV) rfl rfl hl.1 rfl (lv_room (Nat.le_of_ble_eq_true rfl)) dL_refuses_1009 ⟨Nat.le_of_ble_eq_true rfl, Nat.le_of_ble_eq_true rfl⟩) hS (fun r_99 u_98 H locs hp_97 hV hS => ?_)
                    obtain ⟨hp_970, hY, hh⟩ := hp_97
                    have hY : yI G S u_98 := hY
                    have hp_970 : r_99 = (-2000000002) := hp_970.trans (vIA_2 0 S)
                    subst hp_970
                    have hV : kV G (siteW G S u_98 ++ ([(na, aN (kcI G) 3 f)] ++ wr)) _ := hV
                    refine lv_ldc (v := -2000000002) hx hb hown (hts (Cond.constant RL 18 (-2000000002)) (List.mem_of_getElem? (i := 2) rfl)) dL_refuses_1012 ?_
                    refine lv_icmp_ne (tgt := 1021) hx hb dL_refuses_1014 (by decide) (fun z => absurd rfl z) (fun _ => ?_)
                    refine lv_iconst (v := nI 1) hx hb dL_refuses_1017 (by decide) ?_
                    refine lv_goto (tgt := 1022) hx hb dL_refuses_1018 (by decide) ?_
                    refine lv_istore (lv' := [(8, .int (nI (1))), (7, .int (pr)), (6, .int (lo)), (5, .int (pa)), (4, .int (pe)), (3, .int (nI (low))), (0, .ref (yh)), (1, .ref (na)), (2, .int (nI (x)))]) hx hb dL_refuses_1022 hl (by decide) rfl (fun ls hl => ?_)
                    refine W.widen (k := 467) (n := 22390) (by omega) (by omega) ?_
                    exact k1024 u_98 hY hh _ _ hV hS ls (lv_sub hl [0, 1, 2, 3, 4, 5, 6, 7, 8] rfl)
                refine lv_aload_n hx hb dL_refuses_557 rfl (lv_at hl 7 rfl) ?_
                refine lv_iconst (v := nI 0) hx hb dL_refuses_558 (by decide) ?_
                have hV9 : kV G ([(na, aN (kcI G) 3 f)] ++ (siteW G S y545 ++ (wr))) _ := kV_wc hV (fun e => by simp only [wc_app]; omega)
                refine kn_iald (G := G) (n := 3) (g := f) (j := 0) hx hb hK hV9 0 rfl (by decide) (by decide) dL_refuses_559 ?_
                rw [show f 0 = S.1 1 0 from hn0]
                refine kn_if_le (tgt := 968) hx hb (by omega) dL_refuses_560 (by decide) (fun c560 => ?_) (fun c560 => ?_)
                · refine W.widen (k := 457) (n := 22330) (by omega) (by omega) ?_
                  exact k968 y545 hY hh _ _ hV hS ls (lv_sub hl [0, 1, 2, 3, 4, 5, 6, 7, 8] rfl)
                · refine lv_iload_n hx hb dL_refuses_563 rfl (lv_at hl 8 rfl) ?_
                  refine lv_iconst (v := nI 2) hx hb dL_refuses_564 (by decide) ?_
                  refine kn_div hx hb (by omega) (by omega) (by omega) dL_refuses_565 ?_
                  refine lv_aload_n hx hb dL_refuses_566 rfl (lv_at hl 7 rfl) ?_
                  refine lv_iconst (v := nI 0) hx hb dL_refuses_567 (by decide) ?_
                  have hV9 : kV G ([(na, aN (kcI G) 3 f)] ++ (siteW G S y545 ++ (wr))) _ := kV_wc hV (fun e => by simp only [wc_app]; omega)
                  refine kn_iald (G := G) (n := 3) (g := f) (j := 0) hx hb hK hV9 0 rfl (by decide) (by decide) dL_refuses_568 ?_
                  rw [show f 0 = S.1 1 0 from hn0]
                  refine kn_rem hx hb (by omega) (by omega) (by omega) dL_refuses_569 ?_
                  obtain ⟨one, hone⟩ : ∃ one, (x / 2) % (S.1 1 0) = one := ⟨_, rfl⟩
                  have hone1 : one < S.1 1 0 := by rw [← hone]; exact Nat.mod_lt _ (by omega)
                  rw [hone]
                  have hok := (hpat one hone1).1
                  have hr40 : pRows S one ≤ 40 := hok.2.2.2.1
                  have hor := pOrig_lt hone1
                  refine lv_istore (lv' := [(9, .int (nI (one))), (8, .int (nI (1))), (7, .int (pr)), (6, .int (lo)), (5, .int (pa)), (4, .int (pe)), (3, .int (nI (low))), (0, .ref (yh)), (1, .ref (na)), (2, .int (nI (x)))]) hx hb dL_refuses_570 hl (by decide) rfl (fun ls hl => ?_)
                  refine lv_aload_n hx hb dL_refuses_572 rfl (lv_at hl 7 rfl) ?_
                  refine lv_iload hx hb dL_refuses_573 (lv_at hl 0 rfl) ?_
                  refine kc_i (vx_runSW (As := [.ref (yh), .int (nI (one))]) (rest := []) hF (c_L_rows l G S y545 yh ([(na, aN (kcI G) 3 f)] ++ wr) (nI one) ((0, (nI (pRows S one)), S)) (ok_rows hn16 hone1) hlt hh hI hY) (vx_cwSW 2 hts gL_refuses_L_rows rfl rfl rfl (by decide +kernel) ⟨Nat.le_of_ble_eq_true rfl, Nat.le_of_ble_eq_true rfl⟩) (kPreS hE hS hV) rfl rfl hl.1 rfl (lv_room (Nat.le_of_ble_eq_true rfl)) dL_refuses_575 ⟨Nat.le_of_ble_eq_true rfl, Nat.le_of_ble_eq_true rfl⟩) hS (fun r_102 u_101 H locs hp_100 hV hS => ?_)
                  obtain ⟨hp_1000, hY, hh⟩ := hp_100
                  have hY : yI G S u_101 := hY
                  have hp_1000 : r_102 = (nI (pRows S one)) := hp_1000.trans (vI_0 ((nI (pRows S one))) S)
                  subst hp_1000
                  have hV : kV G (siteW G S u_101 ++ ([(na, aN (kcI G) 3 f)] ++ wr)) _ := hV
                  refine lv_istore (lv' := [(10, .int (nI (pRows S one))), (9, .int (nI (one))), (8, .int (nI (1))), (7, .int (pr)), (6, .int (lo)), (5, .int (pa)), (4, .int (pe)), (3, .int (nI (low))), (0, .ref (yh)), (1, .ref (na)), (2, .int (nI (x)))]) hx hb dL_refuses_578 hl (by decide) rfl (fun ls hl => ?_)
                  have k600 : ∀ (ro : Int32) (hro : ¬ isIn ro (pRows S one)) (H : Heap) (locs : List Loc), kV G (siteW G S u_101 ++ ([(na, aN (kcI G) 3 f)] ++ wr)) H → va_S (kA G) s.heap H locs → ∀ (ls : Array Slot), lv_has ls 13 [(10, .int (nI (pRows S one))), (9, .int (nI (one))), (8, .int (nI (1))), (7, .int (pr)), (6, .int (lo)), (5, .int (pa)), (4, .int (pe)), (3, .int (nI (low))), (0, .ref (yh)), (1, .ref (na)), (2, .int (nI (x)))] → W pp l ee (headSpec wsL_refuses ({ frames := 10, cells := 700, slots := 28000, locals := 263 } : Room)).room s m [.ref (yh), .ref (na), .int (nI (x))].toArray below meth cc0 H locs 208 13336 (MQ below (kQi G (S := kY) (fun z u => z = nI 1 ∧ yI G S u ∧ yH u 0 = yh) (fun u => siteW G S u ++ ([(na, aN (kcI G) 3 f)] ++ wr))) [.ref (yh), .ref (na), .int (nI (x))].toArray s 700 28000 (kA G)) (F0 m 600 ls [.int (ro)]) := by
                    intro ro hro H locs hV hS ls hl
                    refine lv_istore (lv' := [(11, .int (ro)), (10, .int (nI (pRows S one))), (9, .int (nI (one))), (8, .int (nI (1))), (7, .int (pr)), (6, .int (lo)), (5, .int (pa)), (4, .int (pe)), (3, .int (nI (low))), (0, .ref (yh)), (1, .ref (na)), (2, .int (nI (x)))]) hx hb dL_refuses_600 hl (by decide) rfl (fun ls hl => ?_)
                    refine lv_aload_n hx hb dL_refuses_602 rfl (lv_at hl 9 rfl) ?_
                    refine lv_iload hx hb dL_refuses_603 (lv_at hl 2 rfl) ?_
                    refine lv_bipush (v := nI 10) hx hb dL_refuses_605 (by decide) ?_
                    refine lv_iload_n hx hb dL_refuses_607 rfl (lv_at hl 11 rfl) ?_
                    refine kn_add hx hb dL_refuses_608 ?_
                    refine lv_iconst (v := nI 0) hx hb dL_refuses_609 (by decide) ?_
                    refine lv_iconst (v := nI 0) hx hb dL_refuses_610 (by decide) ?_
                    refine lv_iconst (v := nI 1) hx hb dL_refuses_611 (by decide) ?_
                    refine kc_i (vx_runSW (As := [.ref (yh), .int (nI (one)), .int (nI (10 + x)), .int (nI (0)), .int (nI (0)), .int (nI (1))]) (rest := []) hF (c_L_lines l G S u_101 yh ([(na, aN (kcI G) 3 f)] ++ wr) (nI one) (nI (10 + x)) (nI 0) (nI 0) (nI 1) ((2, 0, S)) (rf_line2 (isIn_nI hone1) (fun z => nrg_hi (by omega) (by omega) z.1)) hlt hh hI hY) (vx_cwSW 6 hts gL_refuses_L_lines rfl rfl rfl (by decide +kernel) ⟨Nat.le_of_ble_eq_true rfl, Nat.le_of_ble_eq_true rfl⟩) (kPreS hE hS hV) rfl rfl hl.1 rfl (lv_room (Nat.le_of_ble_eq_true rfl)) dL_refuses_612 ⟨Nat.le_of_ble_eq_true rfl, Nat.le_of_ble_eq_true rfl⟩) hS (fun r_105 u_104 H locs hp_103 hV hS => ?_)
                    obtain ⟨hp_1030, hY, hh⟩ := hp_103
                    have hY : yI G S u_104 := hY
                    have hp_1030 : r_105 = (-2000000002) := hp_1030.trans (vIAS_2 0 S)
                    subst hp_1030
                    have hV : kV G (siteW G S u_104 ++ ([(na, aN (kcI G) 3 f)] ++ wr)) _ := hV
                    refine lv_ldc (v := -2000000002) hx hb hown (hts (Cond.constant RL 18 (-2000000002)) (List.mem_of_getElem? (i := 2) rfl)) dL_refuses_615 ?_
                    refine lv_icmp_ne (tgt := 839) hx hb dL_refuses_617 (by decide) (fun z => absurd rfl z) (fun _ => ?_)
                    refine lv_aload_n hx hb dL_refuses_620 rfl (lv_at hl 9 rfl) ?_
                    refine lv_iload hx hb dL_refuses_621 (lv_at hl 2 rfl) ?_
                    refine lv_iconst (v := nI 0) hx hb dL_refuses_623 (by decide) ?_
                    refine lv_iconst (v := zI (-1)) hx hb dL_refuses_624 (by decide) ?_
                    refine lv_iload_n hx hb dL_refuses_625 rfl (lv_at hl 11 rfl) ?_
                    refine W.eq (g2 := F0 m 626 ls [.int (zI (((x : Nat) : Int))), .int (zI ((-1 : Int))), .int (nI (0)), .int (nI (one)), .ref (yh)]) rfl ?_
                    refine kz_sub hx hb dL_refuses_626 ?_
                    refine lv_iconst (v := nI 0) hx hb dL_refuses_627 (by decide) ?_
                    refine lv_iconst (v := nI 1) hx hb dL_refuses_628 (by decide) ?_
                    refine kc_i (vx_runSW (As := [.ref (yh), .int (nI (one)), .int (nI (0)), .int (zI ((-1 : Int) - ((x : Nat) : Int))), .int (nI (0)), .int (nI (1))]) (rest := []) hF (c_L_lines l G S u_104 yh ([(na, aN (kcI G) 3 f)] ++ wr) (nI one) (nI 0) (zI ((-1 : Int) - ((x : Nat) : Int))) (nI 0) (nI 1) ((2, 0, S)) (rf_line2 (isIn_nI hone1) (fun z => nrg_lo (by omega) (by omega) (by decide) z.2.1)) hlt hh hI hY) (vx_cwSW 6 hts gL_refuses_L_lines rfl rfl rfl (by decide +kernel) ⟨Nat.le_of_ble_eq_true rfl, Nat.le_of_ble_eq_true rfl⟩) (kPreS hE hS hV) rfl rfl hl.1 rfl (lv_room (Nat.le_of_ble_eq_true rfl)) dL_refuses_629 ⟨Nat.le_of_ble_eq_true rfl, Nat.le_of_ble_eq_true rfl⟩) hS (fun r_108 u_107 H locs hp_106 hV hS => ?_)
                    obtain ⟨hp_1060, hY, hh⟩ := hp_106
                    have hY : yI G S u_107 := hY
                    have hp_1060 : r_108 = (-2000000002) := hp_1060.trans (vIAS_2 0 S)
                    subst hp_1060
                    have hV : kV G (siteW G S u_107 ++ ([(na, aN (kcI G) 3 f)] ++ wr)) _ := hV
                    refine lv_ldc (v := -2000000002) hx hb hown (hts (Cond.constant RL 18 (-2000000002)) (List.mem_of_getElem? (i := 2) rfl)) dL_refuses_632 ?_
                    refine lv_icmp_ne (tgt := 839) hx hb dL_refuses_634 (by decide) (fun z => absurd rfl z) (fun _ => ?_)
                    refine lv_aload_n hx hb dL_refuses_637 rfl (lv_at hl 9 rfl) ?_
                    refine lv_iload hx hb dL_refuses_638 (lv_at hl 2 rfl) ?_
                    refine lv_iconst (v := nI 0) hx hb dL_refuses_640 (by decide) ?_
                    refine lv_iconst (v := nI 0) hx hb dL_refuses_641 (by decide) ?_
                    refine lv_iconst (v := nI 0) hx hb dL_refuses_642 (by decide) ?_
                    refine lv_iconst (v := nI 1) hx hb dL_refuses_643 (by decide) ?_
                    refine kc_i (vx_runSW (As := [.ref (yh), .int (nI (one)), .int (nI (0)), .int (nI (0)), .int (nI (0)), .int (nI (1))]) (rest := []) hF (c_L_lines l G S u_107 yh ([(na, aN (kcI G) 3 f)] ++ wr) (nI one) (nI 0) (nI 0) (nI 0) (nI 1) ((2, 0, S)) (rf_line2 (isIn_nI hone1) (fun z => absurd z.2.2.1 (by decide))) hlt hh hI hY) (vx_cwSW 6 hts gL_refuses_L_lines rfl rfl rfl (by decide +kernel) ⟨Nat.le_of_ble_eq_true rfl, Nat.le_of_ble_eq_true rfl⟩) (kPreS hE hS hV) rfl rfl hl.1 rfl (lv_room (Nat.le_of_ble_eq_true rfl)) dL_refuses_644 ⟨Nat.le_of_ble_eq_true rfl, Nat.le_of_ble_eq_true rfl⟩) hS (fun r_111 u_110 H locs hp_109 hV hS => ?_)
                    obtain ⟨hp_1090, hY, hh⟩ := hp_109
                    have hY : yI G S u_110 := hY
                    have hp_1090 : r_111 = (-2000000002) := hp_1090.trans (vIAS_2 0 S)
                    subst hp_1090
                    have hV : kV G (siteW G S u_110 ++ ([(na, aN (kcI G) 3 f)] ++ wr)) _ := hV
                    refine lv_ldc (v := -2000000002) hx hb hown (hts (Cond.constant RL 18 (-2000000002)) (List.mem_of_getElem? (i := 2) rfl)) dL_refuses_647 ?_
                    refine lv_icmp_ne (tgt := 839) hx hb dL_refuses_649 (by decide) (fun z => absurd rfl z) (fun _ => ?_)
                    refine lv_aload_n hx hb dL_refuses_652 rfl (lv_at hl 9 rfl) ?_
                    refine lv_iload hx hb dL_refuses_653 (lv_at hl 2 rfl) ?_
                    refine lv_iconst (v := nI 1) hx hb dL_refuses_655 (by decide) ?_
                    refine lv_iconst (v := nI 0) hx hb dL_refuses_656 (by decide) ?_
                    refine lv_iconst (v := nI 4) hx hb dL_refuses_657 (by decide) ?_
                    refine lv_iload_n hx hb dL_refuses_658 rfl (lv_at hl 11 rfl) ?_
                    refine kn_add hx hb dL_refuses_659 ?_
                    refine lv_iconst (v := nI 1) hx hb dL_refuses_660 (by decide) ?_
                    refine kc_i (vx_runSW (As := [.ref (yh), .int (nI (one)), .int (nI (1)), .int (nI (0)), .int (nI (4 + x)), .int (nI (1))]) (rest := []) hF (c_L_lines l G S u_110 yh ([(na, aN (kcI G) 3 f)] ++ wr) (nI one) (nI 1) (nI 0) (nI (4 + x)) (nI 1) ((2, 0, S)) (rf_line2 (isIn_nI hone1) (fun z => nrg_hi (by omega) (by omega) z.2.2.2.1)) hlt hh hI hY) (vx_cwSW 6 hts gL_refuses_L_lines rfl rfl rfl (by decide +kernel) ⟨Nat.le_of_ble_eq_true rfl, Nat.le_of_ble_eq_true rfl⟩) (kPreS hE hS hV) rfl rfl hl.1 rfl (lv_room (Nat.le_of_ble_eq_true rfl)) dL_refuses_661 ⟨Nat.le_of_ble_eq_true rfl, Nat.le_of_ble_eq_true rfl⟩) hS (fun r_114 u_113 H locs hp_112 hV hS => ?_)
                    obtain ⟨hp_1120, hY, hh⟩ := hp_112
                    have hY : yI G S u_113 := hY
                    have hp_1120 : r_114 = (-2000000002) := hp_1120.trans (vIAS_2 0 S)
                    subst hp_1120
                    have hV : kV G (siteW G S u_113 ++ ([(na, aN (kcI G) 3 f)] ++ wr)) _ := hV
                    refine lv_ldc (v := -2000000002) hx hb hown (hts (Cond.constant RL 18 (-2000000002)) (List.mem_of_getElem? (i := 2) rfl)) dL_refuses_664 ?_
                    refine lv_icmp_ne (tgt := 839) hx hb dL_refuses_666 (by decide) (fun z => absurd rfl z) (fun _ => ?_)
                    refine lv_aload_n hx hb dL_refuses_669 rfl (lv_at hl 9 rfl) ?_
                    refine lv_iload hx hb dL_refuses_670 (lv_at hl 2 rfl) ?_
                    refine lv_iconst (v := nI 1) hx hb dL_refuses_672 (by decide) ?_
                    refine lv_iconst (v := nI 0) hx hb dL_refuses_673 (by decide) ?_
                    refine lv_bipush (v := zI (-4)) hx hb dL_refuses_674 (by decide) ?_
                    refine lv_iload_n hx hb dL_refuses_676 rfl (lv_at hl 11 rfl) ?_
                    refine W.eq (g2 := F0 m 677 ls [.int (zI (((x : Nat) : Int))), .int (zI ((-4 : Int))), .int (nI (0)), .int (nI (1)), .int (nI (one)), .ref (yh)]) rfl ?_
                    refine kz_sub hx hb dL_refuses_677 ?_
                    refine lv_iconst (v := nI 1) hx hb dL_refuses_678 (by decide) ?_
                    refine kc_i (vx_runSW (As := [.ref (yh), .int (nI (one)), .int (nI (1)), .int (nI (0)), .int (zI ((-4 : Int) - ((x : Nat) : Int))), .int (nI (1))]) (rest := []) hF (c_L_lines l G S u_113 yh ([(na, aN (kcI G) 3 f)] ++ wr) (nI one) (nI 1) (nI 0) (zI ((-4 : Int) - ((x : Nat) : Int))) (nI 1) ((2, 0, S)) (rf_line2 (isIn_nI hone1) (fun z => nrg_lo3 (by omega) (by omega) z.2.2.2.1)) hlt hh hI hY) (vx_cwSW 6 hts gL_refuses_L_lines rfl rfl rfl (by decide +kernel) ⟨Nat.le_of_ble_eq_true rfl, Nat.le_of_ble_eq_true rfl⟩) (kPreS hE hS hV) rfl rfl hl.1 rfl (lv_room (Nat.le_of_ble_eq_true rfl)) dL_refuses_679 ⟨Nat.le_of_ble_eq_true rfl, Nat.le_of_ble_eq_true rfl⟩) hS (fun r_117 u_116 H locs hp_115 hV hS => ?_)
                    obtain ⟨hp_1150, hY, hh⟩ := hp_115
                    have hY : yI G S u_116 := hY
                    have hp_1150 : r_117 = (-2000000002) := hp_1150.trans (vIAS_2 0 S)
                    subst hp_1150
                    have hV : kV G (siteW G S u_116 ++ ([(na, aN (kcI G) 3 f)] ++ wr)) _ := hV
                    refine lv_ldc (v := -2000000002) hx hb hown (hts (Cond.constant RL 18 (-2000000002)) (List.mem_of_getElem? (i := 2) rfl)) dL_refuses_682 ?_
                    refine lv_icmp_ne (tgt := 839) hx hb dL_refuses_684 (by decide) (fun z => absurd rfl z) (fun _ => ?_)
                    refine lv_aload_n hx hb dL_refuses_687 rfl (lv_at hl 9 rfl) ?_
                    refine lv_iload hx hb dL_refuses_688 (lv_at hl 2 rfl) ?_
                    refine lv_iconst (v := nI 1) hx hb dL_refuses_690 (by decide) ?_
                    refine lv_iconst (v := nI 0) hx hb dL_refuses_691 (by decide) ?_
                    refine lv_iconst (v := nI 0) hx hb dL_refuses_692 (by decide) ?_
                    refine lv_iload_n hx hb dL_refuses_693 rfl (lv_at hl 11 rfl) ?_
                    refine W.eq (g2 := F0 m 694 ls [.int (zI (((x : Nat) : Int))), .int (nI (0)), .int (nI (0)), .int (nI (1)), .int (nI (one)), .ref (yh)]) rfl ?_
                    refine kz_neg hx hb dL_refuses_694 ?_
                    refine kc_i (vx_runSW (As := [.ref (yh), .int (nI (one)), .int (nI (1)), .int (nI (0)), .int (nI (0)), .int (zI (-((x : Nat) : Int)))]) (rest := []) hF (c_L_lines l G S u_116 yh ([(na, aN (kcI G) 3 f)] ++ wr) (nI one) (nI 1) (nI 0) (nI 0) (zI (-((x : Nat) : Int))) ((2, 0, S)) (rf_line2 (isIn_nI hone1) (fun z => nrg_lo (by omega) (by omega) (by decide) z.2.2.2.2)) hlt hh hI hY) (vx_cwSW 6 hts gL_refuses_L_lines rfl rfl rfl (by decide +kernel) ⟨Nat.le_of_ble_eq_true rfl, Nat.le_of_ble_eq_true rfl⟩) (kPreS hE hS hV) rfl rfl hl.1 rfl (lv_room (Nat.le_of_ble_eq_true rfl)) dL_refuses_695 ⟨Nat.le_of_ble_eq_true rfl, Nat.le_of_ble_eq_true rfl⟩) hS (fun r_120 u_119 H locs hp_118 hV hS => ?_)
                    obtain ⟨hp_1180, hY, hh⟩ := hp_118
                    have hY : yI G S u_119 := hY
                    have hp_1180 : r_120 = (-2000000002) := hp_1180.trans (vIAS_2 0 S)
                    subst hp_1180
                    have hV : kV G (siteW G S u_119 ++ ([(na, aN (kcI G) 3 f)] ++ wr)) _ := hV
                    refine lv_ldc (v := -2000000002) hx hb hown (hts (Cond.constant RL 18 (-2000000002)) (List.mem_of_getElem? (i := 2) rfl)) dL_refuses_698 ?_
                    refine lv_icmp_ne (tgt := 839) hx hb dL_refuses_700 (by decide) (fun z => absurd rfl z) (fun _ => ?_)
                    refine lv_aload_n hx hb dL_refuses_703 rfl (lv_at hl 9 rfl) ?_
                    refine lv_iload hx hb dL_refuses_704 (lv_at hl 2 rfl) ?_
                    refine lv_iconst (v := nI 1) hx hb dL_refuses_706 (by decide) ?_
                    refine lv_iconst (v := nI 0) hx hb dL_refuses_707 (by decide) ?_
                    refine lv_iconst (v := nI 0) hx hb dL_refuses_708 (by decide) ?_
                    refine lv_bipush (v := nI 21) hx hb dL_refuses_709 (by decide) ?_
                    refine lv_iload_n hx hb dL_refuses_711 rfl (lv_at hl 11 rfl) ?_
                    refine kn_add hx hb dL_refuses_712 ?_
                    refine kc_i (vx_runSW (As := [.ref (yh), .int (nI (one)), .int (nI (1)), .int (nI (0)), .int (nI (0)), .int (nI (21 + x))]) (rest := []) hF (c_L_lines l G S u_119 yh ([(na, aN (kcI G) 3 f)] ++ wr) (nI one) (nI 1) (nI 0) (nI 0) (nI (21 + x)) ((2, 0, S)) (rf_line2 (isIn_nI hone1) (fun z => nrg_hi (by omega) (by omega) z.2.2.2.2)) hlt hh hI hY) (vx_cwSW 6 hts gL_refuses_L_lines rfl rfl rfl (by decide +kernel) ⟨Nat.le_of_ble_eq_true rfl, Nat.le_of_ble_eq_true rfl⟩) (kPreS hE hS hV) rfl rfl hl.1 rfl (lv_room (Nat.le_of_ble_eq_true rfl)) dL_refuses_713 ⟨Nat.le_of_ble_eq_true rfl, Nat.le_of_ble_eq_true rfl⟩) hS (fun r_123 u_122 H locs hp_121 hV hS => ?_)
                    obtain ⟨hp_1210, hY, hh⟩ := hp_121
                    have hY : yI G S u_122 := hY
                    have hp_1210 : r_123 = (-2000000002) := hp_1210.trans (vIAS_2 0 S)
                    subst hp_1210
                    have hV : kV G (siteW G S u_122 ++ ([(na, aN (kcI G) 3 f)] ++ wr)) _ := hV
                    refine lv_ldc (v := -2000000002) hx hb hown (hts (Cond.constant RL 18 (-2000000002)) (List.mem_of_getElem? (i := 2) rfl)) dL_refuses_716 ?_
                    refine lv_icmp_ne (tgt := 839) hx hb dL_refuses_718 (by decide) (fun z => absurd rfl z) (fun _ => ?_)
                    refine lv_aload_n hx hb dL_refuses_721 rfl (lv_at hl 9 rfl) ?_
                    refine lv_iload hx hb dL_refuses_722 (lv_at hl 2 rfl) ?_
                    refine lv_iconst (v := nI 4) hx hb dL_refuses_724 (by decide) ?_
                    refine lv_iload_n hx hb dL_refuses_725 rfl (lv_at hl 11 rfl) ?_
                    refine W.eq (g2 := F0 m 726 ls [.int (zI (((x : Nat) : Int))), .int (zI (((4 : Nat) : Int))), .int (nI (one)), .ref (yh)]) rfl ?_
                    refine kz_sub hx hb dL_refuses_726 ?_
                    refine kc_i (vx_runSW (As := [.ref (yh), .int (nI (one)), .int (zI (((4 : Nat) : Int) - ((x : Nat) : Int)))]) (rest := []) hF (c_L_anews l G S u_122 yh ([(na, aN (kcI G) 3 f)] ++ wr) (nI one) (zI (((4 : Nat) : Int) - ((x : Nat) : Int))) ((2, 0, S)) (rf_anew2 (isIn_nI hone1) (nrg_lo (by omega) (by omega) (by decide))) hlt hh hI hY) (vx_cwSW 3 hts gL_refuses_L_anews rfl rfl rfl (by decide +kernel) ⟨Nat.le_of_ble_eq_true rfl, Nat.le_of_ble_eq_true rfl⟩) (kPreS hE hS hV) rfl rfl hl.1 rfl (lv_room (Nat.le_of_ble_eq_true rfl)) dL_refuses_727 ⟨Nat.le_of_ble_eq_true rfl, Nat.le_of_ble_eq_true rfl⟩) hS (fun r_126 u_125 H locs hp_124 hV hS => ?_)
                    obtain ⟨hp_1240, hY, hh⟩ := hp_124
                    have hY : yI G S u_125 := hY
                    have hp_1240 : r_126 = (-2000000002) := hp_1240.trans (vIAS_2 0 S)
                    subst hp_1240
                    have hV : kV G (siteW G S u_125 ++ ([(na, aN (kcI G) 3 f)] ++ wr)) _ := hV
                    refine lv_ldc (v := -2000000002) hx hb hown (hts (Cond.constant RL 18 (-2000000002)) (List.mem_of_getElem? (i := 2) rfl)) dL_refuses_730 ?_
                    refine lv_icmp_ne (tgt := 839) hx hb dL_refuses_732 (by decide) (fun z => absurd rfl z) (fun _ => ?_)
                    refine lv_aload_n hx hb dL_refuses_735 rfl (lv_at hl 9 rfl) ?_
                    refine lv_iload hx hb dL_refuses_736 (lv_at hl 2 rfl) ?_
                    refine lv_bipush (v := nI 21) hx hb dL_refuses_738 (by decide) ?_
                    refine lv_iload_n hx hb dL_refuses_740 rfl (lv_at hl 11 rfl) ?_
                    refine kn_add hx hb dL_refuses_741 ?_
                    refine kc_i (vx_runSW (As := [.ref (yh), .int (nI (one)), .int (nI (21 + x))]) (rest := []) hF (c_L_anews l G S u_125 yh ([(na, aN (kcI G) 3 f)] ++ wr) (nI one) (nI (21 + x)) ((2, 0, S)) (rf_anew2 (isIn_nI hone1) (nrg_hi (by omega) (by omega))) hlt hh hI hY) (vx_cwSW 3 hts gL_refuses_L_anews rfl rfl rfl (by decide +kernel) ⟨Nat.le_of_ble_eq_true rfl, Nat.le_of_ble_eq_true rfl⟩) (kPreS hE hS hV) rfl rfl hl.1 rfl (lv_room (Nat.le_of_ble_eq_true rfl)) dL_refuses_742 ⟨Nat.le_of_ble_eq_true rfl, Nat.le_of_ble_eq_true rfl⟩) hS (fun r_129 u_128 H locs hp_127 hV hS => ?_)
                    obtain ⟨hp_1270, hY, hh⟩ := hp_127
                    have hY : yI G S u_128 := hY
                    have hp_1270 : r_129 = (-2000000002) := hp_1270.trans (vIAS_2 0 S)
                    subst hp_1270
                    have hV : kV G (siteW G S u_128 ++ ([(na, aN (kcI G) 3 f)] ++ wr)) _ := hV
                    refine lv_ldc (v := -2000000002) hx hb hown (hts (Cond.constant RL 18 (-2000000002)) (List.mem_of_getElem? (i := 2) rfl)) dL_refuses_745 ?_
                    refine lv_icmp_ne (tgt := 839) hx hb dL_refuses_747 (by decide) (fun z => absurd rfl z) (fun _ => ?_)
                    refine lv_aload_n hx hb dL_refuses_750 rfl (lv_at hl 9 rfl) ?_
                    refine lv_iload hx hb dL_refuses_751 (lv_at hl 2 rfl) ?_
                    refine lv_iload hx hb dL_refuses_753 (lv_at hl 0 rfl) ?_
                    refine lv_iconst (v := nI 0) hx hb dL_refuses_755 (by decide) ?_
                    refine kc_i (vx_runSW (As := [.ref (yh), .int (nI (one)), .int (ro), .int (nI (0))]) (rest := []) hF (c_L_stitch l G S u_128 yh ([(na, aN (kcI G) 3 f)] ++ wr) (nI one) (ro) (nI 0) ((1, 0, S)) (rf_stitch2 (by omega) (fun z => hro z.1)) hlt hh hI hY) (vx_cwSW 4 hts gL_refuses_L_stitch rfl rfl rfl (by decide +kernel) ⟨Nat.le_of_ble_eq_true rfl, Nat.le_of_ble_eq_true rfl⟩) (kPreS hE hS hV) rfl rfl hl.1 rfl (lv_room (Nat.le_of_ble_eq_true rfl)) dL_refuses_756 ⟨Nat.le_of_ble_eq_true rfl, Nat.le_of_ble_eq_true rfl⟩) hS (fun r_132 u_131 H locs hp_130 hV hS => ?_)
                    obtain ⟨hp_1300, hY, hh⟩ := hp_130
                    have hY : yI G S u_131 := hY
                    have hp_1300 : r_132 = (-2000000001) := hp_1300.trans (vI_1 0 S)
                    subst hp_1300
                    have hV : kV G (siteW G S u_131 ++ ([(na, aN (kcI G) 3 f)] ++ wr)) _ := hV
                    refine lv_ldc (v := -2000000001) hx hb hown (hts (Cond.constant RL 15 (-2000000001)) (List.mem_of_getElem? (i := 1) rfl)) dL_refuses_759 ?_
                    refine lv_icmp_ne (tgt := 839) hx hb dL_refuses_761 (by decide) (fun z => absurd rfl z) (fun _ => ?_)
                    refine lv_aload_n hx hb dL_refuses_764 rfl (lv_at hl 9 rfl) ?_
                    refine lv_iload hx hb dL_refuses_765 (lv_at hl 2 rfl) ?_
                    refine lv_iconst (v := nI 0) hx hb dL_refuses_767 (by decide) ?_
                    refine lv_iconst (v := zI (-1)) hx hb dL_refuses_768 (by decide) ?_
                    refine lv_iload_n hx hb dL_refuses_769 rfl (lv_at hl 11 rfl) ?_
                    refine W.eq (g2 := F0 m 770 ls [.int (zI (((x : Nat) : Int))), .int (zI ((-1 : Int))), .int (nI (0)), .int (nI (one)), .ref (yh)]) rfl ?_
                    refine kz_sub hx hb dL_refuses_770 ?_
                    refine kc_i (vx_runSW (As := [.ref (yh), .int (nI (one)), .int (nI (0)), .int (zI ((-1 : Int) - ((x : Nat) : Int)))]) (rest := []) hF (c_L_stitch l G S u_131 yh ([(na, aN (kcI G) 3 f)] ++ wr) (nI one) (nI 0) (zI ((-1 : Int) - ((x : Nat) : Int))) ((1, 0, S)) (rf_stitch2 (by omega) (fun z => n0_le (by omega) (by omega) z.2)) hlt hh hI hY) (vx_cwSW 4 hts gL_refuses_L_stitch rfl rfl rfl (by decide +kernel) ⟨Nat.le_of_ble_eq_true rfl, Nat.le_of_ble_eq_true rfl⟩) (kPreS hE hS hV) rfl rfl hl.1 rfl (lv_room (Nat.le_of_ble_eq_true rfl)) dL_refuses_771 ⟨Nat.le_of_ble_eq_true rfl, Nat.le_of_ble_eq_true rfl⟩) hS (fun r_135 u_134 H locs hp_133 hV hS => ?_)
                    obtain ⟨hp_1330, hY, hh⟩ := hp_133
                    have hY : yI G S u_134 := hY
                    have hp_1330 : r_135 = (-2000000001) := hp_1330.trans (vI_1 0 S)
                    subst hp_1330
                    have hV : kV G (siteW G S u_134 ++ ([(na, aN (kcI G) 3 f)] ++ wr)) _ := hV
                    refine lv_ldc (v := -2000000001) hx hb hown (hts (Cond.constant RL 15 (-2000000001)) (List.mem_of_getElem? (i := 1) rfl)) dL_refuses_774 ?_
                    refine lv_icmp_ne (tgt := 839) hx hb dL_refuses_776 (by decide) (fun z => absurd rfl z) (fun _ => ?_)
                    refine lv_aload_n hx hb dL_refuses_779 rfl (lv_at hl 9 rfl) ?_
                    refine lv_iload hx hb dL_refuses_780 (lv_at hl 2 rfl) ?_
                    refine lv_iload hx hb dL_refuses_782 (lv_at hl 0 rfl) ?_
                    refine lv_iconst (v := nI 0) hx hb dL_refuses_784 (by decide) ?_
                    refine kc_i (vx_runSW (As := [.ref (yh), .int (nI (one)), .int (ro), .int (nI (0))]) (rest := []) hF (c_L_byWork l G S u_134 yh ([(na, aN (kcI G) 3 f)] ++ wr) (nI one) (ro) (nI 0) ((1, 0, S)) (rf_stitch2 (by omega) (fun z => hro z.1)) hlt hh hI hY) (vx_cwSW 4 hts gL_refuses_L_byWork rfl rfl rfl (by decide +kernel) ⟨Nat.le_of_ble_eq_true rfl, Nat.le_of_ble_eq_true rfl⟩) (kPreS hE hS hV) rfl rfl hl.1 rfl (lv_room (Nat.le_of_ble_eq_true rfl)) dL_refuses_785 ⟨Nat.le_of_ble_eq_true rfl, Nat.le_of_ble_eq_true rfl⟩) hS (fun r_138 u_137 H locs hp_136 hV hS => ?_)
                    obtain ⟨hp_1360, hY, hh⟩ := hp_136
                    have hY : yI G S u_137 := hY
                    have hp_1360 : r_138 = (-2000000001) := hp_1360.trans (vI_1 0 S)
                    subst hp_1360
                    have hV : kV G (siteW G S u_137 ++ ([(na, aN (kcI G) 3 f)] ++ wr)) _ := hV
                    refine lv_ldc (v := -2000000001) hx hb hown (hts (Cond.constant RL 15 (-2000000001)) (List.mem_of_getElem? (i := 1) rfl)) dL_refuses_788 ?_
                    refine lv_icmp_ne (tgt := 839) hx hb dL_refuses_790 (by decide) (fun z => absurd rfl z) (fun _ => ?_)
                    refine lv_aload_n hx hb dL_refuses_793 rfl (lv_at hl 9 rfl) ?_
                    refine lv_iload hx hb dL_refuses_794 (lv_at hl 2 rfl) ?_
                    refine lv_bipush (v := nI 21) hx hb dL_refuses_796 (by decide) ?_
                    refine lv_iload_n hx hb dL_refuses_798 rfl (lv_at hl 11 rfl) ?_
                    refine kn_add hx hb dL_refuses_799 ?_
                    refine kc_i (vx_runSW (As := [.ref (yh), .int (nI (one)), .int (nI (21 + x))]) (rest := []) hF (c_L_need l G S u_137 yh ([(na, aN (kcI G) 3 f)] ++ wr) (nI one) (nI (21 + x)) ((2, 0, S)) (rf_need2 (isIn_nI hone1) (nrg_hi (by omega) (by omega))) hlt hh hI hY) (vx_cwSW 3 hts gL_refuses_L_need rfl rfl rfl (by decide +kernel) ⟨Nat.le_of_ble_eq_true rfl, Nat.le_of_ble_eq_true rfl⟩) (kPreS hE hS hV) rfl rfl hl.1 rfl (lv_room (Nat.le_of_ble_eq_true rfl)) dL_refuses_800 ⟨Nat.le_of_ble_eq_true rfl, Nat.le_of_ble_eq_true rfl⟩) hS (fun r_141 u_140 H locs hp_139 hV hS => ?_)
                    obtain ⟨hp_1390, hY, hh⟩ := hp_139
                    have hY : yI G S u_140 := hY
                    have hp_1390 : r_141 = (-2000000002) := hp_1390.trans (vIA_2 0 S)
                    subst hp_1390
                    have hV : kV G (siteW G S u_140 ++ ([(na, aN (kcI G) 3 f)] ++ wr)) _ := hV
                    refine lv_ldc (v := -2000000002) hx hb hown (hts (Cond.constant RL 18 (-2000000002)) (List.mem_of_getElem? (i := 2) rfl)) dL_refuses_803 ?_
                    refine lv_icmp_ne (tgt := 839) hx hb dL_refuses_805 (by decide) (fun z => absurd rfl z) (fun _ => ?_)
                    refine lv_aload_n hx hb dL_refuses_808 rfl (lv_at hl 9 rfl) ?_
                    refine lv_iload hx hb dL_refuses_809 (lv_at hl 2 rfl) ?_
                    refine lv_iconst (v := nI 4) hx hb dL_refuses_811 (by decide) ?_
                    refine lv_iload_n hx hb dL_refuses_812 rfl (lv_at hl 11 rfl) ?_
                    refine W.eq (g2 := F0 m 813 ls [.int (zI (((x : Nat) : Int))), .int (zI (((4 : Nat) : Int))), .int (nI (one)), .ref (yh)]) rfl ?_
                    refine kz_sub hx hb dL_refuses_813 ?_
                    refine kc_i (vx_runSW (As := [.ref (yh), .int (nI (one)), .int (zI (((4 : Nat) : Int) - ((x : Nat) : Int)))]) (rest := []) hF (c_L_need l G S u_140 yh ([(na, aN (kcI G) 3 f)] ++ wr) (nI one) (zI (((4 : Nat) : Int) - ((x : Nat) : Int))) ((2, 0, S)) (rf_need2 (isIn_nI hone1) (nrg_lo (by omega) (by omega) (by decide))) hlt hh hI hY) (vx_cwSW 3 hts gL_refuses_L_need rfl rfl rfl (by decide +kernel) ⟨Nat.le_of_ble_eq_true rfl, Nat.le_of_ble_eq_true rfl⟩) (kPreS hE hS hV) rfl rfl hl.1 rfl (lv_room (Nat.le_of_ble_eq_true rfl)) dL_refuses_814 ⟨Nat.le_of_ble_eq_true rfl, Nat.le_of_ble_eq_true rfl⟩) hS (fun r_144 u_143 H locs hp_142 hV hS => ?_)
                    obtain ⟨hp_1420, hY, hh⟩ := hp_142
                    have hY : yI G S u_143 := hY
                    have hp_1420 : r_144 = (-2000000002) := hp_1420.trans (vIA_2 0 S)
                    subst hp_1420
                    have hV : kV G (siteW G S u_143 ++ ([(na, aN (kcI G) 3 f)] ++ wr)) _ := hV
                    refine lv_ldc (v := -2000000002) hx hb hown (hts (Cond.constant RL 18 (-2000000002)) (List.mem_of_getElem? (i := 2) rfl)) dL_refuses_817 ?_
                    refine lv_icmp_ne (tgt := 839) hx hb dL_refuses_819 (by decide) (fun z => absurd rfl z) (fun _ => ?_)
                    refine lv_aload_n hx hb dL_refuses_822 rfl (lv_at hl 9 rfl) ?_
                    refine lv_iload hx hb dL_refuses_823 (lv_at hl 2 rfl) ?_
                    refine lv_iload hx hb dL_refuses_825 (lv_at hl 7 rfl) ?_
                    refine kc_i (vx_runSW (As := [.ref (yh), .int (nI (one)), .int (pe)]) (rest := []) hF (c_L_buys l G S u_143 yh ([(na, aN (kcI G) 3 f)] ++ wr) (nI one) (pe) ((1, 0, S)) (rf_buy1 (fun z => hpe z.2)) hlt hh hI hY) (vx_cwSW 3 hts gL_refuses_L_buys rfl rfl rfl (by decide +kernel) ⟨Nat.le_of_ble_eq_true rfl, Nat.le_of_ble_eq_true rfl⟩) (kPreS hE hS hV) rfl rfl hl.1 rfl (lv_room (Nat.le_of_ble_eq_true rfl)) dL_refuses_827 ⟨Nat.le_of_ble_eq_true rfl, Nat.le_of_ble_eq_true rfl⟩) hS (fun r_147 u_146 H locs hp_145 hV hS => ?_)
                    obtain ⟨hp_1450, hY, hh⟩ := hp_145
                    have hY : yI G S u_146 := hY
                    have hp_1450 : r_147 = (-2000000001) := hp_1450.trans (vIS_1 0 S)
                    subst hp_1450
                    have hV : kV G (siteW G S u_146 ++ ([(na, aN (kcI G) 3 f)] ++ wr)) _ := hV
                    refine lv_ldc (v := -2000000001) hx hb hown (hts (Cond.constant RL 15 (-2000000001)) (List.mem_of_getElem? (i := 1) rfl)) dL_refuses_830 ?_
                    refine lv_icmp_ne (tgt := 839) hx hb dL_refuses_832 (by decide) (fun z => absurd rfl z) (fun _ => ?_)
                    refine lv_iconst (v := nI 1) hx hb dL_refuses_835 (by decide) ?_
                    refine lv_goto (tgt := 840) hx hb dL_refuses_836 (by decide) ?_
                    refine lv_istore (lv' := [(8, .int (nI (1))), (11, .int (ro)), (10, .int (nI (pRows S one))), (9, .int (nI (one))), (7, .int (pr)), (6, .int (lo)), (5, .int (pa)), (4, .int (pe)), (3, .int (nI (low))), (0, .ref (yh)), (1, .ref (na)), (2, .int (nI (x)))]) hx hb dL_refuses_840 hl (by decide) rfl (fun ls hl => ?_)
                    by_cases hu : S.1 10 one = 99
                    · refine lv_aload_n hx hb dL_refuses_842 rfl (lv_at hl 9 rfl) ?_
                      refine lv_iload hx hb dL_refuses_843 (lv_at hl 3 rfl) ?_
                      refine kc_i (vx_runSW (As := [.ref (yh), .int (nI (one))]) (rest := []) hF (c_L_original l G S u_146 yh ([(na, aN (kcI G) 3 f)] ++ wr) (nI one) ((0, (zI (-1)), S)) (ok_orig0 hn16 hone1 hu) hlt hh hI hY) (vx_cwSW 2 hts gL_refuses_L_original rfl rfl rfl (by decide +kernel) ⟨Nat.le_of_ble_eq_true rfl, Nat.le_of_ble_eq_true rfl⟩) (kPreS hE hS hV) rfl rfl hl.1 rfl (lv_room (Nat.le_of_ble_eq_true rfl)) dL_refuses_845 ⟨Nat.le_of_ble_eq_true rfl, Nat.le_of_ble_eq_true rfl⟩) hS (fun r_150 u_149 H locs hp_148 hV hS => ?_)
                      obtain ⟨hp_1480, hY, hh⟩ := hp_148
                      have hY : yI G S u_149 := hY
                      have hp_1480 : r_150 = (zI (-1)) := hp_1480.trans (vI_0 ((zI (-1))) S)
                      subst hp_1480
                      have hV : kV G (siteW G S u_149 ++ ([(na, aN (kcI G) 3 f)] ++ wr)) _ := hV
                      refine lv_istore (lv' := [(12, .int (zI (-1))), (8, .int (nI (1))), (11, .int (ro)), (10, .int (nI (pRows S one))), (9, .int (nI (one))), (7, .int (pr)), (6, .int (lo)), (5, .int (pa)), (4, .int (pe)), (3, .int (nI (low))), (0, .ref (yh)), (1, .ref (na)), (2, .int (nI (x)))]) hx hb dL_refuses_848 hl (by decide) rfl (fun ls hl => ?_)
                      refine lv_iload hx hb dL_refuses_850 (lv_at hl 1 rfl) ?_
                      refine kn_if_eq_not hx hb (by decide) dL_refuses_852 ?_ 965 (by decide)
                      refine lv_iload hx hb dL_refuses_855 (lv_at hl 0 rfl) ?_
                      refine lv_if_ge (tgt := 917) hx hb dL_refuses_857 (by decide) (fun z => absurd z (by decide)) (fun _ => ?_)
                      refine lv_iload hx hb dL_refuses_860 (lv_at hl 3 rfl) ?_
                      refine kn_if_gt (tgt := 889) hx hb (by omega) dL_refuses_862 (by decide) (fun c862 => ?_) (fun c862 => ?_)
                      · refine lv_aload_n hx hb dL_refuses_889 rfl (lv_at hl 10 rfl) ?_
                        refine lv_iload hx hb dL_refuses_890 (lv_at hl 4 rfl) ?_
                        refine lv_iload_n hx hb dL_refuses_892 rfl (lv_at hl 12 rfl) ?_
                        refine lv_iconst (v := nI 5) hx hb dL_refuses_893 (by decide) ?_
                        refine kn_rem hx hb (by omega) (by omega) (by omega) dL_refuses_894 ?_
                        refine kc_i (vx_runSW (As := [.ref (yh), .int (nI (one)), .int (nI (x % 5))]) (rest := []) hF (c_L_buys l G S u_149 yh ([(na, aN (kcI G) 3 f)] ++ wr) (nI one) (nI (x % 5)) ((2, 0, S)) (rf_buyA hn16 hone1 (by omega) (fun z => z.1 hu)) hlt hh hI hY) (vx_cwSW 3 hts gL_refuses_L_buys rfl rfl rfl (by decide +kernel) ⟨Nat.le_of_ble_eq_true rfl, Nat.le_of_ble_eq_true rfl⟩) (kPreS hE hS hV) rfl rfl hl.1 rfl (lv_room (Nat.le_of_ble_eq_true rfl)) dL_refuses_895 ⟨Nat.le_of_ble_eq_true rfl, Nat.le_of_ble_eq_true rfl⟩) hS (fun r_153 u_152 H locs hp_151 hV hS => ?_)
                        obtain ⟨hp_1510, hY, hh⟩ := hp_151
                        have hY : yI G S u_152 := hY
                        have hp_1510 : r_153 = (-2000000003) := hp_1510.trans (vIS_2 0 S)
                        subst hp_1510
                        have hV : kV G (siteW G S u_152 ++ ([(na, aN (kcI G) 3 f)] ++ wr)) _ := hV
                        refine lv_ldc (v := -2000000003) hx hb hown (hts (Cond.constant RL 21 (-2000000003)) (List.mem_of_getElem? (i := 4) rfl)) dL_refuses_898 ?_
                        refine lv_icmp_ne (tgt := 965) hx hb dL_refuses_900 (by decide) (fun z => absurd rfl z) (fun _ => ?_)
                        refine lv_aload_n hx hb dL_refuses_903 rfl (lv_at hl 10 rfl) ?_
                        refine lv_iload hx hb dL_refuses_904 (lv_at hl 4 rfl) ?_
                        refine kc_i (vx_runSW (As := [.ref (yh), .int (nI (one))]) (rest := []) hF (c_L_rules l G S u_152 yh ([(na, aN (kcI G) 3 f)] ++ wr) (nI one) ((2, 0, S)) (rf_ruleA hn16 hone1 (fun z => z.1 hu)) hlt hh hI hY) (vx_cwSW 2 hts gL_refuses_L_rules rfl rfl rfl (by decide +kernel) ⟨Nat.le_of_ble_eq_true rfl, Nat.le_of_ble_eq_true rfl⟩) (kPreS hE hS hV) rfl rfl hl.1 rfl (lv_room (Nat.le_of_ble_eq_true rfl)) dL_refuses_906 ⟨Nat.le_of_ble_eq_true rfl, Nat.le_of_ble_eq_true rfl⟩) hS (fun r_156 u_155 H locs hp_154 hV hS => ?_)
                        obtain ⟨hp_1540, hY, hh⟩ := hp_154
                        have hY : yI G S u_155 := hY
                        have hp_1540 : r_156 = (-2000000003) := hp_1540.trans (vIS_2 0 S)
                        subst hp_1540
                        have hV : kV G (siteW G S u_155 ++ ([(na, aN (kcI G) 3 f)] ++ wr)) _ := hV
                        refine lv_ldc (v := -2000000003) hx hb hown (hts (Cond.constant RL 21 (-2000000003)) (List.mem_of_getElem? (i := 4) rfl)) dL_refuses_909 ?_
                        refine lv_icmp_ne (tgt := 965) hx hb dL_refuses_911 (by decide) (fun z => absurd rfl z) (fun _ => ?_)
                        refine lv_goto (tgt := 961) hx hb dL_refuses_914 (by decide) ?_
                        refine lv_iconst (v := nI 1) hx hb dL_refuses_961 (by decide) ?_
                        refine lv_goto (tgt := 966) hx hb dL_refuses_962 (by decide) ?_
                        refine lv_istore (lv' := [(8, .int (nI (1))), (12, .int (zI (-1))), (11, .int (ro)), (10, .int (nI (pRows S one))), (9, .int (nI (one))), (7, .int (pr)), (6, .int (lo)), (5, .int (pa)), (4, .int (pe)), (3, .int (nI (low))), (0, .ref (yh)), (1, .ref (na)), (2, .int (nI (x)))]) hx hb dL_refuses_966 hl (by decide) rfl (fun ls hl => ?_)
                        refine W.widen (k := 457) (n := 22330) (by omega) (by omega) ?_
                        exact k968 u_155 hY hh _ _ hV hS ls (lv_sub hl [0, 5, 6, 7, 8, 9, 10, 11, 12] rfl)
                      · refine lv_aload_n hx hb dL_refuses_865 rfl (lv_at hl 10 rfl) ?_
                        refine lv_iload hx hb dL_refuses_866 (lv_at hl 4 rfl) ?_
                        refine kc_i (vx_runSW (As := [.ref (yh), .int (nI (one))]) (rest := []) hF (c_L_publishes l G S u_149 yh ([(na, aN (kcI G) 3 f)] ++ wr) (nI one) ((2, 0, S)) (rf_publishA hn16 hone1 (fun z => by have := rows_pos hok c862; omega)) hlt hh hI hY) (vx_cwSW 2 hts gL_refuses_L_publishes rfl rfl rfl (by decide +kernel) ⟨Nat.le_of_ble_eq_true rfl, Nat.le_of_ble_eq_true rfl⟩) (kPreS hE hS hV) rfl rfl hl.1 rfl (lv_room (Nat.le_of_ble_eq_true rfl)) dL_refuses_868 ⟨Nat.le_of_ble_eq_true rfl, Nat.le_of_ble_eq_true rfl⟩) hS (fun r_159 u_158 H locs hp_157 hV hS => ?_)
                        obtain ⟨hp_1570, hY, hh⟩ := hp_157
                        have hY : yI G S u_158 := hY
                        have hp_1570 : r_159 = (-2000000003) := hp_1570.trans (vIS_2 0 S)
                        subst hp_1570
                        have hV : kV G (siteW G S u_158 ++ ([(na, aN (kcI G) 3 f)] ++ wr)) _ := hV
                        refine lv_ldc (v := -2000000003) hx hb hown (hts (Cond.constant RL 21 (-2000000003)) (List.mem_of_getElem? (i := 4) rfl)) dL_refuses_871 ?_
                        refine lv_icmp_ne (tgt := 965) hx hb dL_refuses_873 (by decide) (fun z => absurd rfl z) (fun _ => ?_)
                        refine lv_aload_n hx hb dL_refuses_876 rfl (lv_at hl 10 rfl) ?_
                        refine lv_iload hx hb dL_refuses_877 (lv_at hl 4 rfl) ?_
                        refine lv_bipush (v := nI 10) hx hb dL_refuses_879 (by decide) ?_
                        refine kc_i (vx_runSW (As := [.ref (yh), .int (nI (one)), .int (nI (10))]) (rest := []) hF (c_L_anews l G S u_158 yh ([(na, aN (kcI G) 3 f)] ++ wr) (nI one) (nI 10) ((3, 0, S)) (rf_anewA hn16 hone1 ⟨by decide, by decide⟩ (anew_0 (rows_pos hok c862))) hlt hh hI hY) (vx_cwSW 3 hts gL_refuses_L_anews rfl rfl rfl (by decide +kernel) ⟨Nat.le_of_ble_eq_true rfl, Nat.le_of_ble_eq_true rfl⟩) (kPreS hE hS hV) rfl rfl hl.1 rfl (lv_room (Nat.le_of_ble_eq_true rfl)) dL_refuses_881 ⟨Nat.le_of_ble_eq_true rfl, Nat.le_of_ble_eq_true rfl⟩) hS (fun r_162 u_161 H locs hp_160 hV hS => ?_)
                        obtain ⟨hp_1600, hY, hh⟩ := hp_160
                        have hY : yI G S u_161 := hY
                        have hp_1600 : r_162 = (-2000000003) := hp_1600.trans (vIAS_3 0 S)
                        subst hp_1600
                        have hV : kV G (siteW G S u_161 ++ ([(na, aN (kcI G) 3 f)] ++ wr)) _ := hV
                        refine lv_ldc (v := -2000000003) hx hb hown (hts (Cond.constant RL 21 (-2000000003)) (List.mem_of_getElem? (i := 4) rfl)) dL_refuses_884 ?_
                        refine lv_icmp_ne (tgt := 965) hx hb dL_refuses_886 (by decide) (fun z => absurd rfl z) (fun _ => ?_)
                        refine lv_aload_n hx hb dL_refuses_889 rfl (lv_at hl 10 rfl) ?_
                        refine lv_iload hx hb dL_refuses_890 (lv_at hl 4 rfl) ?_
                        refine lv_iload_n hx hb dL_refuses_892 rfl (lv_at hl 12 rfl) ?_
                        refine lv_iconst (v := nI 5) hx hb dL_refuses_893 (by decide) ?_
                        refine kn_rem hx hb (by omega) (by omega) (by omega) dL_refuses_894 ?_
                        refine kc_i (vx_runSW (As := [.ref (yh), .int (nI (one)), .int (nI (x % 5))]) (rest := []) hF (c_L_buys l G S u_161 yh ([(na, aN (kcI G) 3 f)] ++ wr) (nI one) (nI (x % 5)) ((2, 0, S)) (rf_buyA hn16 hone1 (by omega) (fun z => z.1 hu)) hlt hh hI hY) (vx_cwSW 3 hts gL_refuses_L_buys rfl rfl rfl (by decide +kernel) ⟨Nat.le_of_ble_eq_true rfl, Nat.le_of_ble_eq_true rfl⟩) (kPreS hE hS hV) rfl rfl hl.1 rfl (lv_room (Nat.le_of_ble_eq_true rfl)) dL_refuses_895 ⟨Nat.le_of_ble_eq_true rfl, Nat.le_of_ble_eq_true rfl⟩) hS (fun r_165 u_164 H locs hp_163 hV hS => ?_)
                        obtain ⟨hp_1630, hY, hh⟩ := hp_163
                        have hY : yI G S u_164 := hY
                        have hp_1630 : r_165 = (-2000000003) := hp_1630.trans (vIS_2 0 S)
                        subst hp_1630
                        have hV : kV G (siteW G S u_164 ++ ([(na, aN (kcI G) 3 f)] ++ wr)) _ := hV
                        refine lv_ldc (v := -2000000003) hx hb hown (hts (Cond.constant RL 21 (-2000000003)) (List.mem_of_getElem? (i := 4) rfl)) dL_refuses_898 ?_
                        refine lv_icmp_ne (tgt := 965) hx hb dL_refuses_900 (by decide) (fun z => absurd rfl z) (fun _ => ?_)
                        refine lv_aload_n hx hb dL_refuses_903 rfl (lv_at hl 10 rfl) ?_
                        refine lv_iload hx hb dL_refuses_904 (lv_at hl 4 rfl) ?_
                        refine kc_i (vx_runSW (As := [.ref (yh), .int (nI (one))]) (rest := []) hF (c_L_rules l G S u_164 yh ([(na, aN (kcI G) 3 f)] ++ wr) (nI one) ((2, 0, S)) (rf_ruleA hn16 hone1 (fun z => z.1 hu)) hlt hh hI hY) (vx_cwSW 2 hts gL_refuses_L_rules rfl rfl rfl (by decide +kernel) ⟨Nat.le_of_ble_eq_true rfl, Nat.le_of_ble_eq_true rfl⟩) (kPreS hE hS hV) rfl rfl hl.1 rfl (lv_room (Nat.le_of_ble_eq_true rfl)) dL_refuses_906 ⟨Nat.le_of_ble_eq_true rfl, Nat.le_of_ble_eq_true rfl⟩) hS (fun r_168 u_167 H locs hp_166 hV hS => ?_)
                        obtain ⟨hp_1660, hY, hh⟩ := hp_166
                        have hY : yI G S u_167 := hY
                        have hp_1660 : r_168 = (-2000000003) := hp_1660.trans (vIS_2 0 S)
                        subst hp_1660
                        have hV : kV G (siteW G S u_167 ++ ([(na, aN (kcI G) 3 f)] ++ wr)) _ := hV
                        refine lv_ldc (v := -2000000003) hx hb hown (hts (Cond.constant RL 21 (-2000000003)) (List.mem_of_getElem? (i := 4) rfl)) dL_refuses_909 ?_
                        refine lv_icmp_ne (tgt := 965) hx hb dL_refuses_911 (by decide) (fun z => absurd rfl z) (fun _ => ?_)
                        refine lv_goto (tgt := 961) hx hb dL_refuses_914 (by decide) ?_
                        refine lv_iconst (v := nI 1) hx hb dL_refuses_961 (by decide) ?_
                        refine lv_goto (tgt := 966) hx hb dL_refuses_962 (by decide) ?_
                        refine lv_istore (lv' := [(8, .int (nI (1))), (12, .int (zI (-1))), (11, .int (ro)), (10, .int (nI (pRows S one))), (9, .int (nI (one))), (7, .int (pr)), (6, .int (lo)), (5, .int (pa)), (4, .int (pe)), (3, .int (nI (low))), (0, .ref (yh)), (1, .ref (na)), (2, .int (nI (x)))]) hx hb dL_refuses_966 hl (by decide) rfl (fun ls hl => ?_)
                        refine W.widen (k := 457) (n := 22330) (by omega) (by omega) ?_
                        exact k968 u_167 hY hh _ _ hV hS ls (lv_sub hl [0, 5, 6, 7, 8, 9, 10, 11, 12] rfl)
                    · refine lv_aload_n hx hb dL_refuses_842 rfl (lv_at hl 9 rfl) ?_
                      refine lv_iload hx hb dL_refuses_843 (lv_at hl 3 rfl) ?_
                      refine kc_i (vx_runSW (As := [.ref (yh), .int (nI (one))]) (rest := []) hF (c_L_original l G S u_146 yh ([(na, aN (kcI G) 3 f)] ++ wr) (nI one) ((0, (nI (pOrig S one)), S)) (ok_orig1 hn16 hone1 hu) hlt hh hI hY) (vx_cwSW 2 hts gL_refuses_L_original rfl rfl rfl (by decide +kernel) ⟨Nat.le_of_ble_eq_true rfl, Nat.le_of_ble_eq_true rfl⟩) (kPreS hE hS hV) rfl rfl hl.1 rfl (lv_room (Nat.le_of_ble_eq_true rfl)) dL_refuses_845 ⟨Nat.le_of_ble_eq_true rfl, Nat.le_of_ble_eq_true rfl⟩) hS (fun r_171 u_170 H locs hp_169 hV hS => ?_)
                      obtain ⟨hp_1690, hY, hh⟩ := hp_169
                      have hY : yI G S u_170 := hY
                      have hp_1690 : r_171 = (nI (pOrig S one)) := hp_1690.trans (vI_0 ((nI (pOrig S one))) S)
                      subst hp_1690
                      have hV : kV G (siteW G S u_170 ++ ([(na, aN (kcI G) 3 f)] ++ wr)) _ := hV
                      refine lv_istore (lv' := [(12, .int (nI (pOrig S one))), (8, .int (nI (1))), (11, .int (ro)), (10, .int (nI (pRows S one))), (9, .int (nI (one))), (7, .int (pr)), (6, .int (lo)), (5, .int (pa)), (4, .int (pe)), (3, .int (nI (low))), (0, .ref (yh)), (1, .ref (na)), (2, .int (nI (x)))]) hx hb dL_refuses_848 hl (by decide) rfl (fun ls hl => ?_)
                      refine lv_iload hx hb dL_refuses_850 (lv_at hl 1 rfl) ?_
                      refine kn_if_eq_not hx hb (by decide) dL_refuses_852 ?_ 965 (by decide)
                      refine lv_iload hx hb dL_refuses_855 (lv_at hl 0 rfl) ?_
                      refine lv_if_ge (tgt := 917) hx hb dL_refuses_857 (by decide) (fun _ => ?_) (fun z => absurd (nI_ge0 (n := pOrig S one) (by omega)) z)
                      refine lv_aload_n hx hb dL_refuses_917 rfl (lv_at hl 10 rfl) ?_
                      refine lv_iload hx hb dL_refuses_918 (lv_at hl 4 rfl) ?_
                      refine kc_i (vx_runSW (As := [.ref (yh), .int (nI (one))]) (rest := []) hF (c_L_publishes l G S u_170 yh ([(na, aN (kcI G) 3 f)] ++ wr) (nI one) ((2, 0, S)) (rf_publishA hn16 hone1 (fun z => hu z.1)) hlt hh hI hY) (vx_cwSW 2 hts gL_refuses_L_publishes rfl rfl rfl (by decide +kernel) ⟨Nat.le_of_ble_eq_true rfl, Nat.le_of_ble_eq_true rfl⟩) (kPreS hE hS hV) rfl rfl hl.1 rfl (lv_room (Nat.le_of_ble_eq_true rfl)) dL_refuses_920 ⟨Nat.le_of_ble_eq_true rfl, Nat.le_of_ble_eq_true rfl⟩) hS (fun r_174 u_173 H locs hp_172 hV hS => ?_)
                      obtain ⟨hp_1720, hY, hh⟩ := hp_172
                      have hY : yI G S u_173 := hY
                      have hp_1720 : r_174 = (-2000000003) := hp_1720.trans (vIS_2 0 S)
                      subst hp_1720
                      have hV : kV G (siteW G S u_173 ++ ([(na, aN (kcI G) 3 f)] ++ wr)) _ := hV
                      refine lv_ldc (v := -2000000003) hx hb hown (hts (Cond.constant RL 21 (-2000000003)) (List.mem_of_getElem? (i := 4) rfl)) dL_refuses_923 ?_
                      refine lv_icmp_ne (tgt := 965) hx hb dL_refuses_925 (by decide) (fun z => absurd rfl z) (fun _ => ?_)
                      refine lv_aload_n hx hb dL_refuses_928 rfl (lv_at hl 10 rfl) ?_
                      refine lv_iload hx hb dL_refuses_929 (lv_at hl 4 rfl) ?_
                      refine lv_iconst (v := nI 1) hx hb dL_refuses_931 (by decide) ?_
                      refine lv_iconst (v := nI 0) hx hb dL_refuses_932 (by decide) ?_
                      refine lv_iconst (v := nI 0) hx hb dL_refuses_933 (by decide) ?_
                      refine lv_iconst (v := nI 1) hx hb dL_refuses_934 (by decide) ?_
                      refine kc_i (vx_runSW (As := [.ref (yh), .int (nI (one)), .int (nI (1)), .int (nI (0)), .int (nI (0)), .int (nI (1))]) (rest := []) hF (c_L_lines l G S u_173 yh ([(na, aN (kcI G) 3 f)] ++ wr) (nI one) (nI 1) (nI 0) (nI 0) (nI 1) ((3, 0, S)) (rf_lineA hn16 hone1 ⟨by decide, by decide, by decide, by decide, by decide⟩ hu) hlt hh hI hY) (vx_cwSW 6 hts gL_refuses_L_lines rfl rfl rfl (by decide +kernel) ⟨Nat.le_of_ble_eq_true rfl, Nat.le_of_ble_eq_true rfl⟩) (kPreS hE hS hV) rfl rfl hl.1 rfl (lv_room (Nat.le_of_ble_eq_true rfl)) dL_refuses_935 ⟨Nat.le_of_ble_eq_true rfl, Nat.le_of_ble_eq_true rfl⟩) hS (fun r_177 u_176 H locs hp_175 hV hS => ?_)
                      obtain ⟨hp_1750, hY, hh⟩ := hp_175
                      have hY : yI G S u_176 := hY
                      have hp_1750 : r_177 = (-2000000003) := hp_1750.trans (vIAS_3 0 S)
                      subst hp_1750
                      have hV : kV G (siteW G S u_176 ++ ([(na, aN (kcI G) 3 f)] ++ wr)) _ := hV
                      refine lv_ldc (v := -2000000003) hx hb hown (hts (Cond.constant RL 21 (-2000000003)) (List.mem_of_getElem? (i := 4) rfl)) dL_refuses_938 ?_
                      refine lv_icmp_ne (tgt := 965) hx hb dL_refuses_940 (by decide) (fun z => absurd rfl z) (fun _ => ?_)
                      refine lv_iload hx hb dL_refuses_943 (lv_at hl 0 rfl) ?_
                      refine lv_iload hx hb dL_refuses_945 (lv_at hl 4 rfl) ?_
                      refine kn_ne (tgt := 961) hx hb (by omega) (by omega) dL_refuses_947 (by decide) (fun c947 => ?_) (fun c947 => ?_)
                      · refine lv_iconst (v := nI 1) hx hb dL_refuses_961 (by decide) ?_
                        refine lv_goto (tgt := 966) hx hb dL_refuses_962 (by decide) ?_
                        refine lv_istore (lv' := [(8, .int (nI (1))), (12, .int (nI (pOrig S one))), (11, .int (ro)), (10, .int (nI (pRows S one))), (9, .int (nI (one))), (7, .int (pr)), (6, .int (lo)), (5, .int (pa)), (4, .int (pe)), (3, .int (nI (low))), (0, .ref (yh)), (1, .ref (na)), (2, .int (nI (x)))]) hx hb dL_refuses_966 hl (by decide) rfl (fun ls hl => ?_)
                        refine W.widen (k := 457) (n := 22330) (by omega) (by omega) ?_
                        exact k968 u_176 hY hh _ _ hV hS ls (lv_sub hl [0, 5, 6, 7, 8, 9, 10, 11, 12] rfl)
                      · refine lv_aload_n hx hb dL_refuses_950 rfl (lv_at hl 10 rfl) ?_
                        refine lv_iload hx hb dL_refuses_951 (lv_at hl 4 rfl) ?_
                        refine kc_i (vx_runSW (As := [.ref (yh), .int (nI (one))]) (rest := []) hF (c_L_rules l G S u_176 yh ([(na, aN (kcI G) 3 f)] ++ wr) (nI one) ((2, 0, S)) (rf_ruleA hn16 hone1 (fun z => z.2.2 (by rw [c947]))) hlt hh hI hY) (vx_cwSW 2 hts gL_refuses_L_rules rfl rfl rfl (by decide +kernel) ⟨Nat.le_of_ble_eq_true rfl, Nat.le_of_ble_eq_true rfl⟩) (kPreS hE hS hV) rfl rfl hl.1 rfl (lv_room (Nat.le_of_ble_eq_true rfl)) dL_refuses_953 ⟨Nat.le_of_ble_eq_true rfl, Nat.le_of_ble_eq_true rfl⟩) hS (fun r_180 u_179 H locs hp_178 hV hS => ?_)
                        obtain ⟨hp_1780, hY, hh⟩ := hp_178
                        have hY : yI G S u_179 := hY
                        have hp_1780 : r_180 = (-2000000003) := hp_1780.trans (vIS_2 0 S)
                        subst hp_1780
                        have hV : kV G (siteW G S u_179 ++ ([(na, aN (kcI G) 3 f)] ++ wr)) _ := hV
                        refine lv_ldc (v := -2000000003) hx hb hown (hts (Cond.constant RL 21 (-2000000003)) (List.mem_of_getElem? (i := 4) rfl)) dL_refuses_956 ?_
                        refine lv_icmp_ne (tgt := 965) hx hb dL_refuses_958 (by decide) (fun z => absurd rfl z) (fun _ => ?_)
                        refine lv_iconst (v := nI 1) hx hb dL_refuses_961 (by decide) ?_
                        refine lv_goto (tgt := 966) hx hb dL_refuses_962 (by decide) ?_
                        refine lv_istore (lv' := [(8, .int (nI (1))), (12, .int (nI (pOrig S one))), (11, .int (ro)), (10, .int (nI (pRows S one))), (9, .int (nI (one))), (7, .int (pr)), (6, .int (lo)), (5, .int (pa)), (4, .int (pe)), (3, .int (nI (low))), (0, .ref (yh)), (1, .ref (na)), (2, .int (nI (x)))]) hx hb dL_refuses_966 hl (by decide) rfl (fun ls hl => ?_)
                        refine W.widen (k := 457) (n := 22330) (by omega) (by omega) ?_
                        exact k968 u_179 hY hh _ _ hV hS ls (lv_sub hl [0, 5, 6, 7, 8, 9, 10, 11, 12] rfl)
                  refine lv_iload_n hx hb dL_refuses_580 rfl (lv_at hl 7 rfl) ?_
                  refine kn_if_eq (tgt := 593) hx hb (by omega) dL_refuses_581 (by decide) (fun c581 => ?_) (fun c581 => ?_)
                  · refine lv_iload hx hb dL_refuses_593 (lv_at hl 0 rfl) ?_
                    refine lv_iload_n hx hb dL_refuses_595 rfl (lv_at hl 10 rfl) ?_
                    refine lv_bipush (v := nI 50) hx hb dL_refuses_596 (by decide) ?_
                    refine kn_rem hx hb (by omega) (by omega) (by omega) dL_refuses_598 ?_
                    refine kn_add hx hb dL_refuses_599 ?_
                    exact k600 (nI ((pRows S one) + (x % 50))) (nin_ge (by omega) (by omega)) _ _ hV hS ls (lv_sub hl [0, 1, 2, 3, 4, 5, 6, 7, 8, 9, 10] rfl)
                  · refine lv_iconst (v := zI (-1)) hx hb dL_refuses_584 (by decide) ?_
                    refine lv_iload_n hx hb dL_refuses_585 rfl (lv_at hl 10 rfl) ?_
                    refine lv_bipush (v := nI 50) hx hb dL_refuses_586 (by decide) ?_
                    refine kn_rem hx hb (by omega) (by omega) (by omega) dL_refuses_588 ?_
                    refine W.eq (g2 := F0 m 589 ls [.int (zI (((x % 50 : Nat) : Int))), .int (zI ((-1 : Int)))]) rfl ?_
                    refine kz_sub hx hb dL_refuses_589 ?_
                    refine lv_goto (tgt := 600) hx hb dL_refuses_590 (by decide) ?_
                    exact k600 (zI ((-1 : Int) - ((x % 50 : Nat) : Int))) (nin_neg (by omega) (by omega) (by omega)) _ _ hV hS ls (lv_sub hl [0, 1, 2, 3, 4, 5, 6, 7, 8, 9, 10] rfl)
              refine lv_aload_n hx hb dL_refuses_525 rfl (lv_at hl 6 rfl) ?_
              refine lv_iconst (v := nI 1) hx hb dL_refuses_526 (by decide) ?_
              have hV9 : kV G ([(na, aN (kcI G) 3 f)] ++ (siteW G S y525 ++ (wr))) _ := kV_wc hV (fun e => by simp only [wc_app]; omega)
              refine kn_iald (G := G) (n := 3) (g := f) (j := 1) hx hb hK hV9 0 rfl (by decide) (by decide) dL_refuses_527 ?_
              rw [show f 1 = S.1 15 0 from hn1]
              refine lv_bipush (v := nI 20) hx hb dL_refuses_528 (by decide) ?_
              refine kn_lt (tgt := 545) hx hb (by omega) (by decide) dL_refuses_530 (by decide) (fun c530 => ?_) (fun c530 => ?_)
              · refine W.widen (k := 207) (n := 13330) (by omega) (by omega) ?_
                exact k545 y525 hY hh _ _ hV hS ls (lv_sub hl [0, 1, 2, 3, 4, 5, 6, 7] rfl)
              · refine lv_aload_n hx hb dL_refuses_533 rfl (lv_at hl 5 rfl) ?_
                refine lv_iconst (v := nI 0) hx hb dL_refuses_534 (by decide) ?_
                refine lv_iconst (v := nI 5) hx hb dL_refuses_535 (by decide) ?_
                refine lv_iconst (v := nI 1) hx hb dL_refuses_536 (by decide) ?_
                refine kc_i (vx_runSW (As := [.ref (yh), .int (nI (0)), .int (nI (5)), .int (nI (1))]) (rest := []) hF (c_L_lots l G S y525 yh ([(na, aN (kcI G) 3 f)] ++ wr) (nI 0) (nI 5) (nI 1) ((3, 0, S)) (rf_lot3 (isIn_nI (by decide)) (by decide) (by omega)) hlt hh hI hY) (vx_cwSW 4 hts gL_refuses_L_lots rfl rfl rfl (by decide +kernel) ⟨Nat.le_of_ble_eq_true rfl, Nat.le_of_ble_eq_true rfl⟩) (kPreS hE hS hV) rfl rfl hl.1 rfl (lv_room (Nat.le_of_ble_eq_true rfl)) dL_refuses_537 ⟨Nat.le_of_ble_eq_true rfl, Nat.le_of_ble_eq_true rfl⟩) hS (fun r_183 u_182 H locs hp_181 hV hS => ?_)
                obtain ⟨hp_1810, hY, hh⟩ := hp_181
                have hY : yI G S u_182 := hY
                have hp_1810 : r_183 = (-2000000003) := hp_1810.trans (vIAS_3 0 S)
                subst hp_1810
                have hV : kV G (siteW G S u_182 ++ ([(na, aN (kcI G) 3 f)] ++ wr)) _ := hV
                refine lv_ldc (v := -2000000003) hx hb hown (hts (Cond.constant RL 21 (-2000000003)) (List.mem_of_getElem? (i := 4) rfl)) dL_refuses_540 ?_
                refine lv_icmp_ne (tgt := 549) hx hb dL_refuses_542 (by decide) (fun z => absurd rfl z) (fun _ => ?_)
                exact k545 u_182 hY hh _ _ hV hS ls (lv_sub hl [0, 1, 2, 3, 4, 5, 6, 7] rfl)
            refine lv_aload_n hx hb dL_refuses_505 rfl (lv_at hl 6 rfl) ?_
            refine lv_iconst (v := nI 0) hx hb dL_refuses_506 (by decide) ?_
            have hV9 : kV G ([(na, aN (kcI G) 3 f)] ++ (siteW G S u_89 ++ (wr))) _ := kV_wc hV (fun e => by simp only [wc_app]; omega)
            refine kn_iald (G := G) (n := 3) (g := f) (j := 0) hx hb hK hV9 0 rfl (by decide) (by decide) dL_refuses_507 ?_
            rw [show f 0 = S.1 1 0 from hn0]
            refine lv_bipush (v := nI 16) hx hb dL_refuses_508 (by decide) ?_
            refine kn_lt (tgt := 525) hx hb (by omega) (by decide) dL_refuses_510 (by decide) (fun c510 => ?_) (fun c510 => ?_)
            · refine W.widen (k := 201) (n := 13250) (by omega) (by omega) ?_
              exact k525 u_89 hY hh _ _ hV hS ls (lv_sub hl [0, 1, 2, 3, 4, 5, 6, 7] rfl)
            · refine lv_aload_n hx hb dL_refuses_513 rfl (lv_at hl 5 rfl) ?_
              refine lv_iconst (v := nI 0) hx hb dL_refuses_514 (by decide) ?_
              refine lv_iconst (v := nI 1) hx hb dL_refuses_515 (by decide) ?_
              refine lv_iconst (v := nI 1) hx hb dL_refuses_516 (by decide) ?_
              refine kc_i (vx_runSW (As := [.ref (yh), .int (nI (0)), .int (nI (1)), .int (nI (1))]) (rest := []) hF (c_L_begins l G S u_89 yh ([(na, aN (kcI G) 3 f)] ++ wr) (nI 0) (nI 1) (nI 1) ((3, 0, S)) (rf_begin3 (isIn_nI (by decide)) (by decide) (by omega)) hlt hh hI hY) (vx_cwSW 4 hts gL_refuses_L_begins rfl rfl rfl (by decide +kernel) ⟨Nat.le_of_ble_eq_true rfl, Nat.le_of_ble_eq_true rfl⟩) (kPreS hE hS hV) rfl rfl hl.1 rfl (lv_room (Nat.le_of_ble_eq_true rfl)) dL_refuses_517 ⟨Nat.le_of_ble_eq_true rfl, Nat.le_of_ble_eq_true rfl⟩) hS (fun r_186 u_185 H locs hp_184 hV hS => ?_)
              obtain ⟨hp_1840, hY, hh⟩ := hp_184
              have hY : yI G S u_185 := hY
              have hp_1840 : r_186 = (-2000000003) := hp_1840.trans (vIAS_3 0 S)
              subst hp_1840
              have hV : kV G (siteW G S u_185 ++ ([(na, aN (kcI G) 3 f)] ++ wr)) _ := hV
              refine lv_ldc (v := -2000000003) hx hb hown (hts (Cond.constant RL 21 (-2000000003)) (List.mem_of_getElem? (i := 4) rfl)) dL_refuses_520 ?_
              refine lv_icmp_ne (tgt := 549) hx hb dL_refuses_522 (by decide) (fun z => absurd rfl z) (fun _ => ?_)
              exact k525 u_185 hY hh _ _ hV hS ls (lv_sub hl [0, 1, 2, 3, 4, 5, 6, 7] rfl)
          refine lv_iload_n hx hb dL_refuses_79 rfl (lv_at hl 3 rfl) ?_
          refine kn_if_eq (tgt := 92) hx hb (by omega) dL_refuses_80 (by decide) (fun c80 => ?_) (fun c80 => ?_)
          · refine lv_aload_n hx hb dL_refuses_92 rfl (lv_at hl 5 rfl) ?_
            refine lv_iconst (v := nI 2) hx hb dL_refuses_93 (by decide) ?_
            have hV9 : kV G ([(na, aN (kcI G) 3 f)] ++ (siteW G S y ++ (wr))) _ := kV_wc hV (fun e => by simp only [wc_app]; omega)
            refine kn_iald (G := G) (n := 3) (g := f) (j := 2) hx hb hK hV9 0 rfl (by decide) (by decide) dL_refuses_94 ?_
            rw [show f 2 = S.1 19 0 from hn2]
            refine lv_iload_n hx hb dL_refuses_95 rfl (lv_at hl 6 rfl) ?_
            refine lv_bipush (v := nI 50) hx hb dL_refuses_96 (by decide) ?_
            refine kn_rem hx hb (by omega) (by omega) (by omega) dL_refuses_98 ?_
            refine kn_add hx hb dL_refuses_99 ?_
            exact k100 (nI ((S.1 19 0) + (x % 50))) (nin_ge (by omega) (by omega)) _ _ hV hS ls (lv_sub hl [0, 1, 2, 3, 4, 5, 6] rfl)
          · refine lv_iconst (v := zI (-1)) hx hb dL_refuses_83 (by decide) ?_
            refine lv_iload_n hx hb dL_refuses_84 rfl (lv_at hl 6 rfl) ?_
            refine lv_bipush (v := nI 50) hx hb dL_refuses_85 (by decide) ?_
            refine kn_rem hx hb (by omega) (by omega) (by omega) dL_refuses_87 ?_
            refine W.eq (g2 := F0 m 88 ls [.int (zI (((x % 50 : Nat) : Int))), .int (zI ((-1 : Int)))]) rfl ?_
            refine kz_sub hx hb dL_refuses_88 ?_
            refine lv_goto (tgt := 100) hx hb dL_refuses_89 (by decide) ?_
            exact k100 (zI ((-1 : Int) - ((x % 50 : Nat) : Int))) (nin_neg (by omega) (by omega) (by omega)) _ _ hV hS ls (lv_sub hl [0, 1, 2, 3, 4, 5, 6] rfl)
        refine lv_iload_n hx hb dL_refuses_56 rfl (lv_at hl 2 rfl) ?_
        refine kn_if_eq (tgt := 69) hx hb (by omega) dL_refuses_57 (by decide) (fun c57 => ?_) (fun c57 => ?_)
        · refine lv_aload_n hx hb dL_refuses_69 rfl (lv_at hl 4 rfl) ?_
          refine lv_iconst (v := nI 1) hx hb dL_refuses_70 (by decide) ?_
          have hV9 : kV G ([(na, aN (kcI G) 3 f)] ++ (siteW G S y ++ (wr))) _ := kV_wc hV (fun e => by simp only [wc_app]; omega)
          refine kn_iald (G := G) (n := 3) (g := f) (j := 1) hx hb hK hV9 0 rfl (by decide) (by decide) dL_refuses_71 ?_
          rw [show f 1 = S.1 15 0 from hn1]
          refine lv_iload_n hx hb dL_refuses_72 rfl (lv_at hl 5 rfl) ?_
          refine lv_bipush (v := nI 50) hx hb dL_refuses_73 (by decide) ?_
          refine kn_rem hx hb (by omega) (by omega) (by omega) dL_refuses_75 ?_
          refine kn_add hx hb dL_refuses_76 ?_
          exact k77 (nI ((S.1 15 0) + (x % 50))) (nin_ge (by omega) (by omega)) _ _ hV hS ls (lv_sub hl [0, 1, 2, 3, 4, 5] rfl)
        · refine lv_iconst (v := zI (-1)) hx hb dL_refuses_60 (by decide) ?_
          refine lv_iload_n hx hb dL_refuses_61 rfl (lv_at hl 5 rfl) ?_
          refine lv_bipush (v := nI 50) hx hb dL_refuses_62 (by decide) ?_
          refine kn_rem hx hb (by omega) (by omega) (by omega) dL_refuses_64 ?_
          refine W.eq (g2 := F0 m 65 ls [.int (zI (((x % 50 : Nat) : Int))), .int (zI ((-1 : Int)))]) rfl ?_
          refine kz_sub hx hb dL_refuses_65 ?_
          refine lv_goto (tgt := 77) hx hb dL_refuses_66 (by decide) ?_
          exact k77 (zI ((-1 : Int) - ((x % 50 : Nat) : Int))) (nin_neg (by omega) (by omega) (by omega)) _ _ hV hS ls (lv_sub hl [0, 1, 2, 3, 4, 5] rfl)
      refine lv_iload_n hx hb dL_refuses_33 rfl (lv_at hl 1 rfl) ?_
      refine kn_if_eq (tgt := 46) hx hb (by omega) dL_refuses_34 (by decide) (fun c34 => ?_) (fun c34 => ?_)
      · refine lv_aload_n hx hb dL_refuses_46 rfl (lv_at hl 3 rfl) ?_
        refine lv_iconst (v := nI 0) hx hb dL_refuses_47 (by decide) ?_
        have hV9 : kV G ([(na, aN (kcI G) 3 f)] ++ (siteW G S y ++ (wr))) _ := kV_wc hV (fun e => by simp only [wc_app]; omega)
        refine kn_iald (G := G) (n := 3) (g := f) (j := 0) hx hb hK hV9 0 rfl (by decide) (by decide) dL_refuses_48 ?_
        rw [show f 0 = S.1 1 0 from hn0]
        refine lv_iload_n hx hb dL_refuses_49 rfl (lv_at hl 4 rfl) ?_
        refine lv_bipush (v := nI 50) hx hb dL_refuses_50 (by decide) ?_
        refine kn_rem hx hb (by omega) (by omega) (by omega) dL_refuses_52 ?_
        refine kn_add hx hb dL_refuses_53 ?_
        exact k54 (nI ((S.1 1 0) + (x % 50))) (nin_ge (by omega) (by omega)) _ _ hV hS ls (lv_sub hl [0, 1, 2, 3, 4] rfl)
      · refine lv_iconst (v := zI (-1)) hx hb dL_refuses_37 (by decide) ?_
        refine lv_iload_n hx hb dL_refuses_38 rfl (lv_at hl 4 rfl) ?_
        refine lv_bipush (v := nI 50) hx hb dL_refuses_39 (by decide) ?_
        refine kn_rem hx hb (by omega) (by omega) (by omega) dL_refuses_41 ?_
        refine W.eq (g2 := F0 m 42 ls [.int (zI (((x % 50 : Nat) : Int))), .int (zI ((-1 : Int)))]) rfl ?_
        refine kz_sub hx hb dL_refuses_42 ?_
        refine lv_goto (tgt := 54) hx hb dL_refuses_43 (by decide) ?_
        exact k54 (zI ((-1 : Int) - ((x % 50 : Nat) : Int))) (nin_neg (by omega) (by omega) (by omega)) _ _ hV hS ls (lv_sub hl [0, 1, 2, 3, 4] rfl)
    refine lv_iload_n hx hb dL_refuses_12 rfl (lv_at hl 0 rfl) ?_
    refine kn_if_eq (tgt := 25) hx hb (by omega) dL_refuses_13 (by decide) (fun c13 => ?_) (fun c13 => ?_)
    · refine lv_iconst (v := nI 5) hx hb dL_refuses_25 (by decide) ?_
      refine lv_iload_n hx hb dL_refuses_26 rfl (lv_at hl 3 rfl) ?_
      refine lv_bipush (v := nI 50) hx hb dL_refuses_27 (by decide) ?_
      refine kn_rem hx hb (by omega) (by omega) (by omega) dL_refuses_29 ?_
      refine kn_add hx hb dL_refuses_30 ?_
      exact k31 (nI (5 + (x % 50))) (nin_ge (by omega) (by omega)) _ _ hV hS ls (lv_sub hl [0, 1, 2, 3] rfl)
    · refine lv_iconst (v := zI (-1)) hx hb dL_refuses_16 (by decide) ?_
      refine lv_iload_n hx hb dL_refuses_17 rfl (lv_at hl 3 rfl) ?_
      refine lv_bipush (v := nI 50) hx hb dL_refuses_18 (by decide) ?_
      refine kn_rem hx hb (by omega) (by omega) (by omega) dL_refuses_20 ?_
      refine W.eq (g2 := F0 m 21 ls [.int (zI (((x % 50 : Nat) : Int))), .int (zI ((-1 : Int)))]) rfl ?_
      refine kz_sub hx hb dL_refuses_21 ?_
      refine lv_goto (tgt := 31) hx hb dL_refuses_22 (by decide) ?_
      exact k31 (zI ((-1 : Int) - ((x % 50 : Nat) : Int))) (nin_neg (by omega) (by omega) (by omega)) _ _ hV hS ls (lv_sub hl [0, 1, 2, 3] rfl)
  refine lv_iload_n hx hb dL_refuses_0 rfl (lv_at hl 2 rfl) ?_
  refine lv_iconst (v := nI 2) hx hb dL_refuses_1 (by decide) ?_
  refine kn_rem hx hb (by omega) (by omega) (by omega) dL_refuses_2 ?_
  refine kn_if_ne (tgt := 10) hx hb (by omega) dL_refuses_3 (by decide) (fun c3 => ?_) (fun c3 => ?_)
  · refine lv_iconst (v := nI 0) hx hb dL_refuses_10 (by decide) ?_
    exact k11 0 (by decide) _ _ hV hS ls (lv_sub hl [0, 1, 2] rfl)
  · refine lv_iconst (v := nI 1) hx hb dL_refuses_6 (by decide) ?_
    refine lv_goto (tgt := 11) hx hb dL_refuses_7 (by decide) ?_
    exact k11 1 (by decide) _ _ hV hS ls (lv_sub hl [0, 1, 2] rfl)
