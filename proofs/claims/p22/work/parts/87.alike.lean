theorem ok_origE {S : kS} {i : Nat} (hn : S.1 1 0 ≤ 16) (h : i < S.1 1 0) : ∃ v : Int32, opOriginal S (nI i) = (0, v, S) := by
  by_cases c : S.1 10 i = 99
  · exact ⟨_, ok_orig0 hn h c⟩
  · exact ⟨_, ok_orig1 hn h c⟩
set_option maxHeartbeats 4000000 in
set_option maxRecDepth 100000 in
theorem c_L_alike (l : Launch) (G : kG) (S : kS) (ya : kY) (yb : kY) (yha : Nat) (yhb : Nat) (f : Nat → Nat) (na : Nat) (wr : va_W) (x : Nat) (hn : nOk S f) (hx9 : x < 2 ^ 31) (hlt : l.stackTraces = false) (hh0 : yH ya 0 = yha) (hh1 : yH yb 0 = yhb) (hI : kInv S) (hY0 : yI G S ya) (hY1 : yI G S yb) : Met l yL_alike wsL_alike ({ frames := 9, cells := 280, slots := 1640, locals := 160 } : Room) (kPc G [.ref (yha), .ref (yhb), .ref (na), .int (nI (x))] (siteW G S ya ++ (siteW G S yb ++ ([(na, aN (kcI G) 3 f)] ++ wr)))) (kQi G (S := kY × kY) (fun z u => z = nI 1 ∧ yI G S u.1 ∧ yH u.1 0 = yha ∧ yI G S u.2 ∧ yH u.2 0 = yhb) (fun u => siteW G S u.1 ++ (siteW G S u.2 ++ ([(na, aN (kcI G) 3 f)] ++ wr)))) 280 1640 (kA G) := by
  refine Met.ofW (cc := cL_alike) (maxL := 7) (ret := (some .boolean)) (by decide) rfl ?_
  intro pp ee s m args below meth cc0 s₁ Bd0 hml hv
  obtain ⟨rfl, hE, hV⟩ := hv
  have hK := hE.1
  have hx := Bd0.exec
  have hb := Bd0.bytes
  have hrt := Bd0.returns
  have hts := atoms_spec (ws := wsL_alike) Bd0.pre
  have hown : s.vm.findClass RL = some m.cls := findClass_of_methodNamed Bd0.named
  have hlocks := Bd0.notSynchronized
  have hF : CallFix pp m cc0 cL_alike 7 s _ wsL_alike RL := ⟨hx, hb, hml, hown, hts⟩
  have hS : va_S (kA G) s.heap s.heap [] := va_S.rf
  have hB0 := hE.2.1
  have hl := lv_entry ([.ref (yha), .ref (yhb), .ref (na), .int (nI (x))]) (n := 7) (Nat.le_of_ble_eq_true rfl)
  rw [lg_entry_eq]
  generalize (lg_sl ([.ref (yha), .ref (yhb), .ref (na), .int (nI (x))]) ++ List.replicate (7 - (lg_sl ([.ref (yha), .ref (yhb), .ref (na), .int (nI (x))])).length) Slot.unset).toArray = ls at hl ⊢
  have hl : lv_has ls 7 [(0, .ref (yha)), (1, .ref (yhb)), (2, .ref (na)), (3, .int (nI (x)))] := hl
  obtain ⟨⟨hn16, hl20, hp12, -⟩, hpat, -⟩ := id hI
  obtain ⟨hn0, hn1, hn2⟩ := id hn
  refine lv_iconst (v := nI 1) hx hb dL_alike_0 (by decide) ?_
  refine lv_istore (lv' := [(4, .int (nI (1))), (0, .ref (yha)), (1, .ref (yhb)), (2, .ref (na)), (3, .int (nI (x)))]) hx hb dL_alike_1 hl (by decide) rfl (fun ls hl => ?_)
  refine lv_iconst (v := nI 0) hx hb dL_alike_3 (by decide) ?_
  refine lv_istore (lv' := [(5, .int (nI (0))), (4, .int (nI (1))), (0, .ref (yha)), (1, .ref (yhb)), (2, .ref (na)), (3, .int (nI (x)))]) hx hb dL_alike_4 hl (by decide) rfl (fun ls hl => ?_)
  have k6 : ∀ (nk6 : Nat) (k : Nat) (y6a : kY) (y6b : kY) (hk : k ≤ 5) (hY0 : yI G S y6a) (hh0 : yH y6a 0 = yha) (hY1 : yI G S y6b) (hh1 : yH y6b 0 = yhb) (hmk6 : 5 - k < nk6) (H : Heap) (locs : List Loc), kV G (siteW G S y6a ++ (siteW G S y6b ++ ([(na, aN (kcI G) 3 f)] ++ wr))) H → va_S (kA G) s.heap H locs → ∀ (ls : Array Slot), lv_has ls 7 [(5, .int (nI (k))), (4, .int (nI (1))), (0, .ref (yha)), (1, .ref (yhb)), (2, .ref (na)), (3, .int (nI (x)))] → W pp l ee (headSpec wsL_alike ({ frames := 9, cells := 280, slots := 1640, locals := 160 } : Room)).room s m [.ref (yha), .ref (yhb), .ref (na), .int (nI (x))].toArray below meth cc0 H locs (2 * k) (12 * k) (MQ below (kQi G (S := kY × kY) (fun z u => z = nI 1 ∧ yI G S u.1 ∧ yH u.1 0 = yha ∧ yI G S u.2 ∧ yH u.2 0 = yhb) (fun u => siteW G S u.1 ++ (siteW G S u.2 ++ ([(na, aN (kcI G) 3 f)] ++ wr)))) [.ref (yha), .ref (yhb), .ref (na), .int (nI (x))].toArray s 280 1640 (kA G)) (F0 m 6 ls []) := by
    intro nk6
    induction nk6 with
    | zero => intro k y6a y6b hk hY0 hh0 hY1 hh1 hmk6; exact absurd hmk6 (Nat.not_lt_zero _)
    | succ nk6 ihk6 =>
      intro k y6a y6b hk hY0 hh0 hY1 hh1 hmk6 H locs hV hS ls hl
      refine lv_iload hx hb dL_alike_6 (lv_at hl 0 rfl) ?_
      refine lv_iconst (v := nI 5) hx hb dL_alike_8 (by decide) ?_
      refine kn_ge (tgt := 45) hx hb (by omega) (by decide) dL_alike_9 (by decide) (fun c9 => ?_) (fun c9 => ?_)
      · refine lv_iconst (v := nI 0) hx hb dL_alike_45 (by decide) ?_
        refine lv_istore (lv' := [(5, .int (nI (0))), (4, .int (nI (1))), (0, .ref (yha)), (1, .ref (yhb)), (2, .ref (na)), (3, .int (nI (x)))]) hx hb dL_alike_46 hl (by decide) rfl (fun ls hl => ?_)
        have k48 : ∀ (nk48 : Nat) (k2 : Nat) (y48a : kY) (y48b : kY) (hk2 : k2 ≤ S.1 1 0) (hY0 : yI G S y48a) (hh0 : yH y48a 0 = yha) (hY1 : yI G S y48b) (hh1 : yH y48b 0 = yhb) (hmk48 : S.1 1 0 - k2 < nk48) (H : Heap) (locs : List Loc), kV G (siteW G S y48a ++ (siteW G S y48b ++ ([(na, aN (kcI G) 3 f)] ++ wr))) H → va_S (kA G) s.heap H locs → ∀ (ls : Array Slot), lv_has ls 7 [(5, .int (nI (k2))), (4, .int (nI (1))), (0, .ref (yha)), (1, .ref (yhb)), (2, .ref (na)), (3, .int (nI (x)))] → W pp l ee (headSpec wsL_alike ({ frames := 9, cells := 280, slots := 1640, locals := 160 } : Room)).room s m [.ref (yha), .ref (yhb), .ref (na), .int (nI (x))].toArray below meth cc0 H locs (10 + 12 * k2) (60 + 72 * k2) (MQ below (kQi G (S := kY × kY) (fun z u => z = nI 1 ∧ yI G S u.1 ∧ yH u.1 0 = yha ∧ yI G S u.2 ∧ yH u.2 0 = yhb) (fun u => siteW G S u.1 ++ (siteW G S u.2 ++ ([(na, aN (kcI G) 3 f)] ++ wr)))) [.ref (yha), .ref (yhb), .ref (na), .int (nI (x))].toArray s 280 1640 (kA G)) (F0 m 48 ls []) := by
          intro nk48
          induction nk48 with
          | zero => intro k2 y48a y48b hk2 hY0 hh0 hY1 hh1 hmk48; exact absurd hmk48 (Nat.not_lt_zero _)
          | succ nk48 ihk48 =>
            intro k2 y48a y48b hk2 hY0 hh0 hY1 hh1 hmk48 H locs hV hS ls hl
            refine lv_iload hx hb dL_alike_48 (lv_at hl 0 rfl) ?_
            refine lv_aload_n hx hb dL_alike_50 rfl (lv_at hl 4 rfl) ?_
            refine lv_iconst (v := nI 0) hx hb dL_alike_51 (by decide) ?_
            have hV9 : kV G ([(na, aN (kcI G) 3 f)] ++ (siteW G S y48a ++ (siteW G S y48b ++ (wr)))) _ := kV_wc hV (fun e => by simp only [wc_app]; omega)
            refine kn_iald (G := G) (n := 3) (g := f) (j := 0) hx hb hK hV9 0 rfl (by decide) (by decide) dL_alike_52 ?_
            rw [show f 0 = S.1 1 0 from hn0]
            refine kn_ge (tgt := 191) hx hb (by omega) (by omega) dL_alike_53 (by decide) (fun c53 => ?_) (fun c53 => ?_)
            · refine lv_iconst (v := nI 0) hx hb dL_alike_191 (by decide) ?_
              refine lv_istore (lv' := [(5, .int (nI (0))), (4, .int (nI (1))), (0, .ref (yha)), (1, .ref (yhb)), (2, .ref (na)), (3, .int (nI (x)))]) hx hb dL_alike_192 hl (by decide) rfl (fun ls hl => ?_)
              have k194 : ∀ (nk194 : Nat) (k3 : Nat) (y194a : kY) (y194b : kY) (hk3 : k3 ≤ S.1 15 0) (hY0 : yI G S y194a) (hh0 : yH y194a 0 = yha) (hY1 : yI G S y194b) (hh1 : yH y194b 0 = yhb) (hmk194 : S.1 15 0 - k3 < nk194) (H : Heap) (locs : List Loc), kV G (siteW G S y194a ++ (siteW G S y194b ++ ([(na, aN (kcI G) 3 f)] ++ wr))) H → va_S (kA G) s.heap H locs → ∀ (ls : Array Slot), lv_has ls 7 [(5, .int (nI (k3))), (4, .int (nI (1))), (0, .ref (yha)), (1, .ref (yhb)), (2, .ref (na)), (3, .int (nI (x)))] → W pp l ee (headSpec wsL_alike ({ frames := 9, cells := 280, slots := 1640, locals := 160 } : Room)).room s m [.ref (yha), .ref (yhb), .ref (na), .int (nI (x))].toArray below meth cc0 H locs (202 + 2 * k3) (1212 + 12 * k3) (MQ below (kQi G (S := kY × kY) (fun z u => z = nI 1 ∧ yI G S u.1 ∧ yH u.1 0 = yha ∧ yI G S u.2 ∧ yH u.2 0 = yhb) (fun u => siteW G S u.1 ++ (siteW G S u.2 ++ ([(na, aN (kcI G) 3 f)] ++ wr)))) [.ref (yha), .ref (yhb), .ref (na), .int (nI (x))].toArray s 280 1640 (kA G)) (F0 m 194 ls []) := by
                intro nk194
                induction nk194 with
                | zero => intro k3 y194a y194b hk3 hY0 hh0 hY1 hh1 hmk194; exact absurd hmk194 (Nat.not_lt_zero _)
                | succ nk194 ihk194 =>
                  intro k3 y194a y194b hk3 hY0 hh0 hY1 hh1 hmk194 H locs hV hS ls hl
                  refine lv_iload hx hb dL_alike_194 (lv_at hl 0 rfl) ?_
                  refine lv_aload_n hx hb dL_alike_196 rfl (lv_at hl 4 rfl) ?_
                  refine lv_iconst (v := nI 1) hx hb dL_alike_197 (by decide) ?_
                  have hV9 : kV G ([(na, aN (kcI G) 3 f)] ++ (siteW G S y194a ++ (siteW G S y194b ++ (wr)))) _ := kV_wc hV (fun e => by simp only [wc_app]; omega)
                  refine kn_iald (G := G) (n := 3) (g := f) (j := 1) hx hb hK hV9 0 rfl (by decide) (by decide) dL_alike_198 ?_
                  rw [show f 1 = S.1 15 0 from hn1]
                  refine kn_ge (tgt := 235) hx hb (by omega) (by omega) dL_alike_199 (by decide) (fun c199 => ?_) (fun c199 => ?_)
                  · refine lv_iconst (v := nI 0) hx hb dL_alike_235 (by decide) ?_
                    refine lv_istore (lv' := [(5, .int (nI (0))), (4, .int (nI (1))), (0, .ref (yha)), (1, .ref (yhb)), (2, .ref (na)), (3, .int (nI (x)))]) hx hb dL_alike_236 hl (by decide) rfl (fun ls hl => ?_)
                    have k238 : ∀ (nk238 : Nat) (k4 : Nat) (y238a : kY) (y238b : kY) (hk4 : k4 ≤ S.1 19 0) (hY0 : yI G S y238a) (hh0 : yH y238a 0 = yha) (hY1 : yI G S y238b) (hh1 : yH y238b 0 = yhb) (hmk238 : S.1 19 0 - k4 < nk238) (H : Heap) (locs : List Loc), kV G (siteW G S y238a ++ (siteW G S y238b ++ ([(na, aN (kcI G) 3 f)] ++ wr))) H → va_S (kA G) s.heap H locs → ∀ (ls : Array Slot), lv_has ls 7 [(5, .int (nI (k4))), (4, .int (nI (1))), (0, .ref (yha)), (1, .ref (yhb)), (2, .ref (na)), (3, .int (nI (x)))] → W pp l ee (headSpec wsL_alike ({ frames := 9, cells := 280, slots := 1640, locals := 160 } : Room)).room s m [.ref (yha), .ref (yhb), .ref (na), .int (nI (x))].toArray below meth cc0 H locs (242 + 2 * k4) (1452 + 12 * k4) (MQ below (kQi G (S := kY × kY) (fun z u => z = nI 1 ∧ yI G S u.1 ∧ yH u.1 0 = yha ∧ yI G S u.2 ∧ yH u.2 0 = yhb) (fun u => siteW G S u.1 ++ (siteW G S u.2 ++ ([(na, aN (kcI G) 3 f)] ++ wr)))) [.ref (yha), .ref (yhb), .ref (na), .int (nI (x))].toArray s 280 1640 (kA G)) (F0 m 238 ls []) := by
                      intro nk238
                      induction nk238 with
                      | zero => intro k4 y238a y238b hk4 hY0 hh0 hY1 hh1 hmk238; exact absurd hmk238 (Nat.not_lt_zero _)
                      | succ nk238 ihk238 =>
                        intro k4 y238a y238b hk4 hY0 hh0 hY1 hh1 hmk238 H locs hV hS ls hl
                        refine lv_iload hx hb dL_alike_238 (lv_at hl 0 rfl) ?_
                        refine lv_aload_n hx hb dL_alike_240 rfl (lv_at hl 4 rfl) ?_
                        refine lv_iconst (v := nI 2) hx hb dL_alike_241 (by decide) ?_
                        have hV9 : kV G ([(na, aN (kcI G) 3 f)] ++ (siteW G S y238a ++ (siteW G S y238b ++ (wr)))) _ := kV_wc hV (fun e => by simp only [wc_app]; omega)
                        refine kn_iald (G := G) (n := 3) (g := f) (j := 2) hx hb hK hV9 0 rfl (by decide) (by decide) dL_alike_242 ?_
                        rw [show f 2 = S.1 19 0 from hn2]
                        refine kn_ge (tgt := 279) hx hb (by omega) (by omega) dL_alike_243 (by decide) (fun c243 => ?_) (fun c243 => ?_)
                        · refine lv_iload hx hb dL_alike_279 (lv_at hl 1 rfl) ?_
                          refine W.widen (k := 280) (n := 1640) (by omega) (by omega) ?_
                          exact W.zret (v := nI 1) hx hb hrt (by decide) (fun t ht hW => ⟨⟨_, (y238a, y238b), rfl, ⟨rfl, hY0, hh0, hY1, hh1⟩, kV_eq ht hV⟩, hS.F ht⟩) hS.2.2 dL_alike_281
                        · refine lv_iload hx hb dL_alike_246 (lv_at hl 1 rfl) ?_
                          refine kn_if_eq_not hx hb (by decide) dL_alike_248 ?_ 279 (by decide)
                          refine lv_aload_n hx hb dL_alike_251 rfl (lv_at hl 2 rfl) ?_
                          refine lv_iload hx hb dL_alike_252 (lv_at hl 0 rfl) ?_
                          refine kc_i (vx_runSW (As := [.ref (yha), .int (nI (k4))]) (rest := []) hF (c_L_progress l G S y238a yha (siteW G S y238b ++ ([(na, aN (kcI G) 3 f)] ++ wr)) (nI k4) ((0, (nI (S.1 23 k4)), S)) (ok_progress hp12 c243) hlt hh0 hI hY0) (vx_cwSW 2 hts gL_alike_L_progress rfl rfl rfl (by decide +kernel) ⟨Nat.le_of_ble_eq_true rfl, Nat.le_of_ble_eq_true rfl⟩) (kPreS hE hS hV) rfl rfl hl.1 rfl (lv_room (Nat.le_of_ble_eq_true rfl)) dL_alike_254 ⟨(show 242 + 2 * k4 + 1 ≤ 280 by omega), (show 1452 + 12 * k4 + 6 ≤ 1640 by omega)⟩) hS (fun r_3 u_2 H locs hp_1 hV hS => ?_)
                          obtain ⟨hp_10, hY0, hh0⟩ := hp_1
                          have hY0 : yI G S u_2 := hY0
                          have hp_10 : (nI (S.1 23 k4)) = r_3 := (hp_10.trans (vI_0 ((nI (S.1 23 k4))) S)).symm
                          subst hp_10
                          have hV : kV G (siteW G S u_2 ++ (siteW G S y238b ++ ([(na, aN (kcI G) 3 f)] ++ wr))) _ := hV
                          refine lv_aload_n hx hb dL_alike_257 rfl (lv_at hl 3 rfl) ?_
                          refine lv_iload hx hb dL_alike_258 (lv_at hl 0 rfl) ?_
                          have hV : kV G (siteW G S y238b ++ (siteW G S u_2 ++ ([(na, aN (kcI G) 3 f)] ++ wr))) _ := kV_wc hV (fun e => by simp only [wc_app]; omega)
                          refine kc_i (vx_runSW (As := [.ref (yhb), .int (nI (k4))]) (rest := [.int (nI (S.1 23 k4))]) hF (c_L_progress l G S y238b yhb (siteW G S u_2 ++ ([(na, aN (kcI G) 3 f)] ++ wr)) (nI k4) ((0, (nI (S.1 23 k4)), S)) (ok_progress hp12 c243) hlt hh1 hI hY1) (vx_cwSW 2 hts gL_alike_L_progress rfl rfl rfl (by decide +kernel) ⟨Nat.le_of_ble_eq_true rfl, Nat.le_of_ble_eq_true rfl⟩) (kPreS hE hS hV) rfl rfl hl.1 rfl (lv_room (Nat.le_of_ble_eq_true rfl)) dL_alike_260 ⟨(show 242 + 2 * k4 + 1 + 1 ≤ 280 by omega), (show 1452 + 12 * k4 + 6 + 6 ≤ 1640 by omega)⟩) hS (fun r_6 u_5 H locs hp_4 hV hS => ?_)
                          obtain ⟨hp_40, hY1, hh1⟩ := hp_4
                          have hY1 : yI G S u_5 := hY1
                          have hp_40 : (nI (S.1 23 k4)) = r_6 := (hp_40.trans (vI_0 ((nI (S.1 23 k4))) S)).symm
                          subst hp_40
                          have hV : kV G (siteW G S u_5 ++ (siteW G S u_2 ++ ([(na, aN (kcI G) 3 f)] ++ wr))) _ := hV
                          have hV : kV G (siteW G S u_2 ++ (siteW G S u_5 ++ ([(na, aN (kcI G) 3 f)] ++ wr))) _ := kV_wc hV (fun e => by simp only [wc_app]; omega)
                          refine lv_icmp_ne (tgt := 270) hx hb dL_alike_263 (by decide) (fun z => absurd rfl z) (fun _ => ?_)
                          refine lv_iconst (v := nI 1) hx hb dL_alike_266 (by decide) ?_
                          refine lv_goto (tgt := 271) hx hb dL_alike_267 (by decide) ?_
                          refine lv_istore (lv' := [(4, .int (nI (1))), (5, .int (nI (k4))), (0, .ref (yha)), (1, .ref (yhb)), (2, .ref (na)), (3, .int (nI (x)))]) hx hb dL_alike_271 hl (by decide) rfl (fun ls hl => ?_)
                          refine lv_iinc (lv' := [(5, .int (nI (k4 + 1))), (4, .int (nI (1))), (0, .ref (yha)), (1, .ref (yhb)), (2, .ref (na)), (3, .int (nI (x)))]) hx hb dL_alike_273 hl (k := 1) rfl (kn_iinc k4 1) (by decide) rfl (fun ls hl => ?_)
                          refine lv_goto (tgt := 238) hx hb dL_alike_276 (by decide) ?_
                          refine W.widen (k := 242 + 2 * (k4 + 1)) (n := 1452 + 12 * (k4 + 1)) (by omega) (by omega) ?_
                          exact ihk238 (k4 + 1) u_2 u_5 (by omega) hY0 hh0 hY1 hh1 (by omega) _ _ hV hS ls (lv_sub hl [0, 1, 2, 3, 4, 5] rfl)
                    refine W.widen (k := 242 + 2 * 0) (n := 1452 + 12 * 0) (by omega) (by omega) ?_
                    exact k238 ((S.1 19 0 - 0) + 1) 0 y194a y194b (by omega) hY0 hh0 hY1 hh1 (Nat.lt_succ_self _) _ _ hV hS ls (lv_sub hl [0, 1, 2, 3, 4, 5] rfl)
                  · refine lv_iload hx hb dL_alike_202 (lv_at hl 1 rfl) ?_
                    refine kn_if_eq_not hx hb (by decide) dL_alike_204 ?_ 235 (by decide)
                    refine lv_aload_n hx hb dL_alike_207 rfl (lv_at hl 2 rfl) ?_
                    refine lv_iload hx hb dL_alike_208 (lv_at hl 0 rfl) ?_
                    refine kc_i (vx_runSW (As := [.ref (yha), .int (nI (k3))]) (rest := []) hF (c_L_left l G S y194a yha (siteW G S y194b ++ ([(na, aN (kcI G) 3 f)] ++ wr)) (nI k3) ((0, (nI (S.1 18 k3)), S)) (ok_left hl20 c199) hlt hh0 hI hY0) (vx_cwSW 2 hts gL_alike_L_left rfl rfl rfl (by decide +kernel) ⟨Nat.le_of_ble_eq_true rfl, Nat.le_of_ble_eq_true rfl⟩) (kPreS hE hS hV) rfl rfl hl.1 rfl (lv_room (Nat.le_of_ble_eq_true rfl)) dL_alike_210 ⟨(show 202 + 2 * k3 + 1 ≤ 280 by omega), (show 1212 + 12 * k3 + 6 ≤ 1640 by omega)⟩) hS (fun r_9 u_8 H locs hp_7 hV hS => ?_)
                    obtain ⟨hp_70, hY0, hh0⟩ := hp_7
                    have hY0 : yI G S u_8 := hY0
                    have hp_70 : (nI (S.1 18 k3)) = r_9 := (hp_70.trans (vI_0 ((nI (S.1 18 k3))) S)).symm
                    subst hp_70
                    have hV : kV G (siteW G S u_8 ++ (siteW G S y194b ++ ([(na, aN (kcI G) 3 f)] ++ wr))) _ := hV
                    refine lv_aload_n hx hb dL_alike_213 rfl (lv_at hl 3 rfl) ?_
                    refine lv_iload hx hb dL_alike_214 (lv_at hl 0 rfl) ?_
                    have hV : kV G (siteW G S y194b ++ (siteW G S u_8 ++ ([(na, aN (kcI G) 3 f)] ++ wr))) _ := kV_wc hV (fun e => by simp only [wc_app]; omega)
                    refine kc_i (vx_runSW (As := [.ref (yhb), .int (nI (k3))]) (rest := [.int (nI (S.1 18 k3))]) hF (c_L_left l G S y194b yhb (siteW G S u_8 ++ ([(na, aN (kcI G) 3 f)] ++ wr)) (nI k3) ((0, (nI (S.1 18 k3)), S)) (ok_left hl20 c199) hlt hh1 hI hY1) (vx_cwSW 2 hts gL_alike_L_left rfl rfl rfl (by decide +kernel) ⟨Nat.le_of_ble_eq_true rfl, Nat.le_of_ble_eq_true rfl⟩) (kPreS hE hS hV) rfl rfl hl.1 rfl (lv_room (Nat.le_of_ble_eq_true rfl)) dL_alike_216 ⟨(show 202 + 2 * k3 + 1 + 1 ≤ 280 by omega), (show 1212 + 12 * k3 + 6 + 6 ≤ 1640 by omega)⟩) hS (fun r_12 u_11 H locs hp_10 hV hS => ?_)
                    obtain ⟨hp_100, hY1, hh1⟩ := hp_10
                    have hY1 : yI G S u_11 := hY1
                    have hp_100 : (nI (S.1 18 k3)) = r_12 := (hp_100.trans (vI_0 ((nI (S.1 18 k3))) S)).symm
                    subst hp_100
                    have hV : kV G (siteW G S u_11 ++ (siteW G S u_8 ++ ([(na, aN (kcI G) 3 f)] ++ wr))) _ := hV
                    have hV : kV G (siteW G S u_8 ++ (siteW G S u_11 ++ ([(na, aN (kcI G) 3 f)] ++ wr))) _ := kV_wc hV (fun e => by simp only [wc_app]; omega)
                    refine lv_icmp_ne (tgt := 226) hx hb dL_alike_219 (by decide) (fun z => absurd rfl z) (fun _ => ?_)
                    refine lv_iconst (v := nI 1) hx hb dL_alike_222 (by decide) ?_
                    refine lv_goto (tgt := 227) hx hb dL_alike_223 (by decide) ?_
                    refine lv_istore (lv' := [(4, .int (nI (1))), (5, .int (nI (k3))), (0, .ref (yha)), (1, .ref (yhb)), (2, .ref (na)), (3, .int (nI (x)))]) hx hb dL_alike_227 hl (by decide) rfl (fun ls hl => ?_)
                    refine lv_iinc (lv' := [(5, .int (nI (k3 + 1))), (4, .int (nI (1))), (0, .ref (yha)), (1, .ref (yhb)), (2, .ref (na)), (3, .int (nI (x)))]) hx hb dL_alike_229 hl (k := 1) rfl (kn_iinc k3 1) (by decide) rfl (fun ls hl => ?_)
                    refine lv_goto (tgt := 194) hx hb dL_alike_232 (by decide) ?_
                    refine W.widen (k := 202 + 2 * (k3 + 1)) (n := 1212 + 12 * (k3 + 1)) (by omega) (by omega) ?_
                    exact ihk194 (k3 + 1) u_8 u_11 (by omega) hY0 hh0 hY1 hh1 (by omega) _ _ hV hS ls (lv_sub hl [0, 1, 2, 3, 4, 5] rfl)
              refine W.widen (k := 202 + 2 * 0) (n := 1212 + 12 * 0) (by omega) (by omega) ?_
              exact k194 ((S.1 15 0 - 0) + 1) 0 y48a y48b (by omega) hY0 hh0 hY1 hh1 (Nat.lt_succ_self _) _ _ hV hS ls (lv_sub hl [0, 1, 2, 3, 4, 5] rfl)
            · refine lv_iload hx hb dL_alike_56 (lv_at hl 1 rfl) ?_
              refine kn_if_eq_not hx hb (by decide) dL_alike_58 ?_ 191 (by decide)
              have hok := (hpat k2 c53).1
              have hr40 : pRows S k2 ≤ 40 := hok.2.2.2.1
              obtain ⟨v9, hv9⟩ := ok_origE hn16 c53
              refine lv_aload_n hx hb dL_alike_61 rfl (lv_at hl 2 rfl) ?_
              refine lv_iload hx hb dL_alike_62 (lv_at hl 0 rfl) ?_
              refine kc_i (vx_runSW (As := [.ref (yha), .int (nI (k2))]) (rest := []) hF (c_L_rows l G S y48a yha (siteW G S y48b ++ ([(na, aN (kcI G) 3 f)] ++ wr)) (nI k2) ((0, (nI (pRows S k2)), S)) (ok_rows hn16 c53) hlt hh0 hI hY0) (vx_cwSW 2 hts gL_alike_L_rows rfl rfl rfl (by decide +kernel) ⟨Nat.le_of_ble_eq_true rfl, Nat.le_of_ble_eq_true rfl⟩) (kPreS hE hS hV) rfl rfl hl.1 rfl (lv_room (Nat.le_of_ble_eq_true rfl)) dL_alike_64 ⟨(show 10 + 12 * k2 + 1 ≤ 280 by omega), (show 60 + 72 * k2 + 6 ≤ 1640 by omega)⟩) hS (fun r_15 u_14 H locs hp_13 hV hS => ?_)
              obtain ⟨hp_130, hY0, hh0⟩ := hp_13
              have hY0 : yI G S u_14 := hY0
              have hp_130 : (nI (pRows S k2)) = r_15 := (hp_130.trans (vI_0 ((nI (pRows S k2))) S)).symm
              subst hp_130
              have hV : kV G (siteW G S u_14 ++ (siteW G S y48b ++ ([(na, aN (kcI G) 3 f)] ++ wr))) _ := hV
              refine lv_istore (lv' := [(6, .int (nI (pRows S k2))), (5, .int (nI (k2))), (4, .int (nI (1))), (0, .ref (yha)), (1, .ref (yhb)), (2, .ref (na)), (3, .int (nI (x)))]) hx hb dL_alike_67 hl (by decide) rfl (fun ls hl => ?_)
              refine lv_iload hx hb dL_alike_69 (lv_at hl 0 rfl) ?_
              refine lv_aload_n hx hb dL_alike_71 rfl (lv_at hl 4 rfl) ?_
              refine lv_iload hx hb dL_alike_72 (lv_at hl 1 rfl) ?_
              have hV : kV G (siteW G S y48b ++ (siteW G S u_14 ++ ([(na, aN (kcI G) 3 f)] ++ wr))) _ := kV_wc hV (fun e => by simp only [wc_app]; omega)
              refine kc_i (vx_runSW (As := [.ref (yhb), .int (nI (k2))]) (rest := [.int (nI (pRows S k2))]) hF (c_L_rows l G S y48b yhb (siteW G S u_14 ++ ([(na, aN (kcI G) 3 f)] ++ wr)) (nI k2) ((0, (nI (pRows S k2)), S)) (ok_rows hn16 c53) hlt hh1 hI hY1) (vx_cwSW 2 hts gL_alike_L_rows rfl rfl rfl (by decide +kernel) ⟨Nat.le_of_ble_eq_true rfl, Nat.le_of_ble_eq_true rfl⟩) (kPreS hE hS hV) rfl rfl hl.1 rfl (lv_room (Nat.le_of_ble_eq_true rfl)) dL_alike_74 ⟨(show 10 + 12 * k2 + 1 + 1 ≤ 280 by omega), (show 60 + 72 * k2 + 6 + 6 ≤ 1640 by omega)⟩) hS (fun r_18 u_17 H locs hp_16 hV hS => ?_)
              obtain ⟨hp_160, hY1, hh1⟩ := hp_16
              have hY1 : yI G S u_17 := hY1
              have hp_160 : (nI (pRows S k2)) = r_18 := (hp_160.trans (vI_0 ((nI (pRows S k2))) S)).symm
              subst hp_160
              have hV : kV G (siteW G S u_17 ++ (siteW G S u_14 ++ ([(na, aN (kcI G) 3 f)] ++ wr))) _ := hV
              have hV : kV G (siteW G S u_14 ++ (siteW G S u_17 ++ ([(na, aN (kcI G) 3 f)] ++ wr))) _ := kV_wc hV (fun e => by simp only [wc_app]; omega)
              refine lv_icmp_ne (tgt := 182) hx hb dL_alike_77 (by decide) (fun z => absurd rfl z) (fun _ => ?_)
              refine lv_aload_n hx hb dL_alike_80 rfl (lv_at hl 3 rfl) ?_
              refine lv_iload hx hb dL_alike_81 (lv_at hl 1 rfl) ?_
              refine kc_i (vx_runSW (As := [.ref (yha), .int (nI (k2))]) (rest := []) hF (c_L_original l G S u_14 yha (siteW G S u_17 ++ ([(na, aN (kcI G) 3 f)] ++ wr)) (nI k2) ((0, (v9), S)) (hv9) hlt hh0 hI hY0) (vx_cwSW 2 hts gL_alike_L_original rfl rfl rfl (by decide +kernel) ⟨Nat.le_of_ble_eq_true rfl, Nat.le_of_ble_eq_true rfl⟩) (kPreS hE hS hV) rfl rfl hl.1 rfl (lv_room (Nat.le_of_ble_eq_true rfl)) dL_alike_83 ⟨(show 10 + 12 * k2 + 1 + 1 + 1 ≤ 280 by omega), (show 60 + 72 * k2 + 6 + 6 + 6 ≤ 1640 by omega)⟩) hS (fun r_21 u_20 H locs hp_19 hV hS => ?_)
              obtain ⟨hp_190, hY0, hh0⟩ := hp_19
              have hY0 : yI G S u_20 := hY0
              have hp_190 : (v9) = r_21 := (hp_190.trans (vI_0 ((v9)) S)).symm
              subst hp_190
              have hV : kV G (siteW G S u_20 ++ (siteW G S u_17 ++ ([(na, aN (kcI G) 3 f)] ++ wr))) _ := hV
              refine lv_aload_n hx hb dL_alike_86 rfl (lv_at hl 4 rfl) ?_
              refine lv_iload hx hb dL_alike_87 (lv_at hl 1 rfl) ?_
              have hV : kV G (siteW G S u_17 ++ (siteW G S u_20 ++ ([(na, aN (kcI G) 3 f)] ++ wr))) _ := kV_wc hV (fun e => by simp only [wc_app]; omega)
              refine kc_i (vx_runSW (As := [.ref (yhb), .int (nI (k2))]) (rest := [.int (v9)]) hF (c_L_original l G S u_17 yhb (siteW G S u_20 ++ ([(na, aN (kcI G) 3 f)] ++ wr)) (nI k2) ((0, (v9), S)) (hv9) hlt hh1 hI hY1) (vx_cwSW 2 hts gL_alike_L_original rfl rfl rfl (by decide +kernel) ⟨Nat.le_of_ble_eq_true rfl, Nat.le_of_ble_eq_true rfl⟩) (kPreS hE hS hV) rfl rfl hl.1 rfl (lv_room (Nat.le_of_ble_eq_true rfl)) dL_alike_89 ⟨(show 10 + 12 * k2 + 1 + 1 + 1 + 1 ≤ 280 by omega), (show 60 + 72 * k2 + 6 + 6 + 6 + 6 ≤ 1640 by omega)⟩) hS (fun r_24 u_23 H locs hp_22 hV hS => ?_)
              obtain ⟨hp_220, hY1, hh1⟩ := hp_22
              have hY1 : yI G S u_23 := hY1
              have hp_220 : (v9) = r_24 := (hp_220.trans (vI_0 ((v9)) S)).symm
              subst hp_220
              have hV : kV G (siteW G S u_23 ++ (siteW G S u_20 ++ ([(na, aN (kcI G) 3 f)] ++ wr))) _ := hV
              have hV : kV G (siteW G S u_20 ++ (siteW G S u_23 ++ ([(na, aN (kcI G) 3 f)] ++ wr))) _ := kV_wc hV (fun e => by simp only [wc_app]; omega)
              refine lv_icmp_ne (tgt := 182) hx hb dL_alike_92 (by decide) (fun z => absurd rfl z) (fun _ => ?_)
              refine lv_iload hx hb dL_alike_95 (lv_at hl 0 rfl) ?_
              refine kn_if_eq (tgt := 178) hx hb (by omega) dL_alike_97 (by decide) (fun c97 => ?_) (fun c97 => ?_)
              · refine lv_iconst (v := nI 1) hx hb dL_alike_178 (by decide) ?_
                refine lv_goto (tgt := 183) hx hb dL_alike_179 (by decide) ?_
                refine lv_istore (lv' := [(4, .int (nI (1))), (6, .int (nI (pRows S k2))), (5, .int (nI (k2))), (0, .ref (yha)), (1, .ref (yhb)), (2, .ref (na)), (3, .int (nI (x)))]) hx hb dL_alike_183 hl (by decide) rfl (fun ls hl => ?_)
                refine lv_iinc (lv' := [(5, .int (nI (k2 + 1))), (4, .int (nI (1))), (6, .int (nI (pRows S k2))), (0, .ref (yha)), (1, .ref (yhb)), (2, .ref (na)), (3, .int (nI (x)))]) hx hb dL_alike_185 hl (k := 2) rfl (kn_iinc k2 1) (by decide) rfl (fun ls hl => ?_)
                refine lv_goto (tgt := 48) hx hb dL_alike_188 (by decide) ?_
                refine W.widen (k := 10 + 12 * (k2 + 1)) (n := 60 + 72 * (k2 + 1)) (by omega) (by omega) ?_
                exact ihk48 (k2 + 1) u_20 u_23 (by omega) hY0 hh0 hY1 hh1 (by omega) _ _ hV hS ls (lv_sub hl [0, 1, 3, 4, 5, 6] rfl)
              · refine lv_aload_n hx hb dL_alike_100 rfl (lv_at hl 3 rfl) ?_
                refine lv_iload hx hb dL_alike_101 (lv_at hl 1 rfl) ?_
                refine lv_iload_n hx hb dL_alike_103 rfl (lv_at hl 6 rfl) ?_
                refine lv_iload hx hb dL_alike_104 (lv_at hl 0 rfl) ?_
                refine kn_rem hx hb (by omega) (by omega) (by omega) dL_alike_106 ?_
                refine lv_iload_n hx hb dL_alike_107 rfl (lv_at hl 6 rfl) ?_
                refine lv_bipush (v := nI 40) hx hb dL_alike_108 (by decide) ?_
                refine kn_div hx hb (by omega) (by omega) (by omega) dL_alike_110 ?_
                refine lv_bipush (v := nI 9) hx hb dL_alike_111 (by decide) ?_
                refine kn_rem hx hb (by omega) (by omega) (by omega) dL_alike_113 ?_
                refine kc_i (vx_runSW (As := [.ref (yha), .int (nI (k2)), .int (nI (x % (pRows S k2))), .int (nI ((x / 40) % 9))]) (rest := []) hF (c_L_stitch l G S u_20 yha (siteW G S u_23 ++ ([(na, aN (kcI G) 3 f)] ++ wr)) (nI k2) (nI (x % (pRows S k2))) (nI ((x / 40) % 9)) ((0, (nI (pSt S k2 (x % (pRows S k2)) ((x / 40) % 9))), S)) (ok_stitch hn16 c53 (Nat.mod_lt _ (by omega)) hr40 (by omega)) hlt hh0 hI hY0) (vx_cwSW 4 hts gL_alike_L_stitch rfl rfl rfl (by decide +kernel) ⟨Nat.le_of_ble_eq_true rfl, Nat.le_of_ble_eq_true rfl⟩) (kPreS hE hS hV) rfl rfl hl.1 rfl (lv_room (Nat.le_of_ble_eq_true rfl)) dL_alike_114 ⟨(show 10 + 12 * k2 + 1 + 1 + 1 + 1 + 2 ≤ 280 by omega), (show 60 + 72 * k2 + 6 + 6 + 6 + 6 + 12 ≤ 1640 by omega)⟩) hS (fun r_27 u_26 H locs hp_25 hV hS => ?_)
                obtain ⟨hp_250, hY0, hh0⟩ := hp_25
                have hY0 : yI G S u_26 := hY0
                have hp_250 : (nI (pSt S k2 (x % (pRows S k2)) ((x / 40) % 9))) = r_27 := (hp_250.trans (vI_0 ((nI (pSt S k2 (x % (pRows S k2)) ((x / 40) % 9)))) S)).symm
                subst hp_250
                have hV : kV G (siteW G S u_26 ++ (siteW G S u_23 ++ ([(na, aN (kcI G) 3 f)] ++ wr))) _ := hV
                refine lv_aload_n hx hb dL_alike_117 rfl (lv_at hl 4 rfl) ?_
                refine lv_iload hx hb dL_alike_118 (lv_at hl 1 rfl) ?_
                refine lv_iload_n hx hb dL_alike_120 rfl (lv_at hl 6 rfl) ?_
                refine lv_iload hx hb dL_alike_121 (lv_at hl 0 rfl) ?_
                refine kn_rem hx hb (by omega) (by omega) (by omega) dL_alike_123 ?_
                refine lv_iload_n hx hb dL_alike_124 rfl (lv_at hl 6 rfl) ?_
                refine lv_bipush (v := nI 40) hx hb dL_alike_125 (by decide) ?_
                refine kn_div hx hb (by omega) (by omega) (by omega) dL_alike_127 ?_
                refine lv_bipush (v := nI 9) hx hb dL_alike_128 (by decide) ?_
                refine kn_rem hx hb (by omega) (by omega) (by omega) dL_alike_130 ?_
                have hV : kV G (siteW G S u_23 ++ (siteW G S u_26 ++ ([(na, aN (kcI G) 3 f)] ++ wr))) _ := kV_wc hV (fun e => by simp only [wc_app]; omega)
                refine kc_i (vx_runSW (As := [.ref (yhb), .int (nI (k2)), .int (nI (x % (pRows S k2))), .int (nI ((x / 40) % 9))]) (rest := [.int (nI (pSt S k2 (x % (pRows S k2)) ((x / 40) % 9)))]) hF (c_L_stitch l G S u_23 yhb (siteW G S u_26 ++ ([(na, aN (kcI G) 3 f)] ++ wr)) (nI k2) (nI (x % (pRows S k2))) (nI ((x / 40) % 9)) ((0, (nI (pSt S k2 (x % (pRows S k2)) ((x / 40) % 9))), S)) (ok_stitch hn16 c53 (Nat.mod_lt _ (by omega)) hr40 (by omega)) hlt hh1 hI hY1) (vx_cwSW 4 hts gL_alike_L_stitch rfl rfl rfl (by decide +kernel) ⟨Nat.le_of_ble_eq_true rfl, Nat.le_of_ble_eq_true rfl⟩) (kPreS hE hS hV) rfl rfl hl.1 rfl (lv_room (Nat.le_of_ble_eq_true rfl)) dL_alike_131 ⟨(show 10 + 12 * k2 + 1 + 1 + 1 + 1 + 2 + 2 ≤ 280 by omega), (show 60 + 72 * k2 + 6 + 6 + 6 + 6 + 12 + 12 ≤ 1640 by omega)⟩) hS (fun r_30 u_29 H locs hp_28 hV hS => ?_)
                obtain ⟨hp_280, hY1, hh1⟩ := hp_28
                have hY1 : yI G S u_29 := hY1
                have hp_280 : (nI (pSt S k2 (x % (pRows S k2)) ((x / 40) % 9))) = r_30 := (hp_280.trans (vI_0 ((nI (pSt S k2 (x % (pRows S k2)) ((x / 40) % 9)))) S)).symm
                subst hp_280
                have hV : kV G (siteW G S u_29 ++ (siteW G S u_26 ++ ([(na, aN (kcI G) 3 f)] ++ wr))) _ := hV
                have hV : kV G (siteW G S u_26 ++ (siteW G S u_29 ++ ([(na, aN (kcI G) 3 f)] ++ wr))) _ := kV_wc hV (fun e => by simp only [wc_app]; omega)
                refine lv_icmp_ne (tgt := 182) hx hb dL_alike_134 (by decide) (fun z => absurd rfl z) (fun _ => ?_)
                refine lv_aload_n hx hb dL_alike_137 rfl (lv_at hl 3 rfl) ?_
                refine lv_iload hx hb dL_alike_138 (lv_at hl 1 rfl) ?_
                refine lv_iload_n hx hb dL_alike_140 rfl (lv_at hl 6 rfl) ?_
                refine lv_iconst (v := nI 3) hx hb dL_alike_141 (by decide) ?_
                refine kn_div hx hb (by omega) (by omega) (by omega) dL_alike_142 ?_
                refine lv_iload hx hb dL_alike_143 (lv_at hl 0 rfl) ?_
                refine kn_rem hx hb (by omega) (by omega) (by omega) dL_alike_145 ?_
                refine lv_iload_n hx hb dL_alike_146 rfl (lv_at hl 6 rfl) ?_
                refine lv_bipush (v := nI 7) hx hb dL_alike_147 (by decide) ?_
                refine kn_div hx hb (by omega) (by omega) (by omega) dL_alike_149 ?_
                refine lv_bipush (v := nI 9) hx hb dL_alike_150 (by decide) ?_
                refine kn_rem hx hb (by omega) (by omega) (by omega) dL_alike_152 ?_
                refine kc_i (vx_runSW (As := [.ref (yha), .int (nI (k2)), .int (nI ((x / 3) % (pRows S k2))), .int (nI ((x / 7) % 9))]) (rest := []) hF (c_L_byWork l G S u_26 yha (siteW G S u_29 ++ ([(na, aN (kcI G) 3 f)] ++ wr)) (nI k2) (nI ((x / 3) % (pRows S k2))) (nI ((x / 7) % 9)) ((0, (nI (pSt S k2 ((x / 3) % (pRows S k2)) ((x / 7) % 9))), S)) (ok_stitch hn16 c53 (Nat.mod_lt _ (by omega)) hr40 (by omega)) hlt hh0 hI hY0) (vx_cwSW 4 hts gL_alike_L_byWork rfl rfl rfl (by decide +kernel) ⟨Nat.le_of_ble_eq_true rfl, Nat.le_of_ble_eq_true rfl⟩) (kPreS hE hS hV) rfl rfl hl.1 rfl (lv_room (Nat.le_of_ble_eq_true rfl)) dL_alike_153 ⟨(show 10 + 12 * k2 + 1 + 1 + 1 + 1 + 2 + 2 + 2 ≤ 280 by omega), (show 60 + 72 * k2 + 6 + 6 + 6 + 6 + 12 + 12 + 12 ≤ 1640 by omega)⟩) hS (fun r_33 u_32 H locs hp_31 hV hS => ?_)
                obtain ⟨hp_310, hY0, hh0⟩ := hp_31
                have hY0 : yI G S u_32 := hY0
                have hp_310 : (nI (pSt S k2 ((x / 3) % (pRows S k2)) ((x / 7) % 9))) = r_33 := (hp_310.trans (vI_0 ((nI (pSt S k2 ((x / 3) % (pRows S k2)) ((x / 7) % 9)))) S)).symm
                subst hp_310
                have hV : kV G (siteW G S u_32 ++ (siteW G S u_29 ++ ([(na, aN (kcI G) 3 f)] ++ wr))) _ := hV
                refine lv_aload_n hx hb dL_alike_156 rfl (lv_at hl 4 rfl) ?_
                refine lv_iload hx hb dL_alike_157 (lv_at hl 1 rfl) ?_
                refine lv_iload_n hx hb dL_alike_159 rfl (lv_at hl 6 rfl) ?_
                refine lv_iconst (v := nI 3) hx hb dL_alike_160 (by decide) ?_
                refine kn_div hx hb (by omega) (by omega) (by omega) dL_alike_161 ?_
                refine lv_iload hx hb dL_alike_162 (lv_at hl 0 rfl) ?_
                refine kn_rem hx hb (by omega) (by omega) (by omega) dL_alike_164 ?_
                refine lv_iload_n hx hb dL_alike_165 rfl (lv_at hl 6 rfl) ?_
                refine lv_bipush (v := nI 7) hx hb dL_alike_166 (by decide) ?_
                refine kn_div hx hb (by omega) (by omega) (by omega) dL_alike_168 ?_
                refine lv_bipush (v := nI 9) hx hb dL_alike_169 (by decide) ?_
                refine kn_rem hx hb (by omega) (by omega) (by omega) dL_alike_171 ?_
                have hV : kV G (siteW G S u_29 ++ (siteW G S u_32 ++ ([(na, aN (kcI G) 3 f)] ++ wr))) _ := kV_wc hV (fun e => by simp only [wc_app]; omega)
                refine kc_i (vx_runSW (As := [.ref (yhb), .int (nI (k2)), .int (nI ((x / 3) % (pRows S k2))), .int (nI ((x / 7) % 9))]) (rest := [.int (nI (pSt S k2 ((x / 3) % (pRows S k2)) ((x / 7) % 9)))]) hF (c_L_stitch l G S u_29 yhb (siteW G S u_32 ++ ([(na, aN (kcI G) 3 f)] ++ wr)) (nI k2) (nI ((x / 3) % (pRows S k2))) (nI ((x / 7) % 9)) ((0, (nI (pSt S k2 ((x / 3) % (pRows S k2)) ((x / 7) % 9))), S)) (ok_stitch hn16 c53 (Nat.mod_lt _ (by omega)) hr40 (by omega)) hlt hh1 hI hY1) (vx_cwSW 4 hts gL_alike_L_stitch rfl rfl rfl (by decide +kernel) ⟨Nat.le_of_ble_eq_true rfl, Nat.le_of_ble_eq_true rfl⟩) (kPreS hE hS hV) rfl rfl hl.1 rfl (lv_room (Nat.le_of_ble_eq_true rfl)) dL_alike_172 ⟨(show 10 + 12 * k2 + 1 + 1 + 1 + 1 + 2 + 2 + 2 + 2 ≤ 280 by omega), (show 60 + 72 * k2 + 6 + 6 + 6 + 6 + 12 + 12 + 12 + 12 ≤ 1640 by omega)⟩) hS (fun r_36 u_35 H locs hp_34 hV hS => ?_)
                obtain ⟨hp_340, hY1, hh1⟩ := hp_34
                have hY1 : yI G S u_35 := hY1
                have hp_340 : (nI (pSt S k2 ((x / 3) % (pRows S k2)) ((x / 7) % 9))) = r_36 := (hp_340.trans (vI_0 ((nI (pSt S k2 ((x / 3) % (pRows S k2)) ((x / 7) % 9)))) S)).symm
                subst hp_340
                have hV : kV G (siteW G S u_35 ++ (siteW G S u_32 ++ ([(na, aN (kcI G) 3 f)] ++ wr))) _ := hV
                have hV : kV G (siteW G S u_32 ++ (siteW G S u_35 ++ ([(na, aN (kcI G) 3 f)] ++ wr))) _ := kV_wc hV (fun e => by simp only [wc_app]; omega)
                refine lv_icmp_ne (tgt := 182) hx hb dL_alike_175 (by decide) (fun z => absurd rfl z) (fun _ => ?_)
                refine lv_iconst (v := nI 1) hx hb dL_alike_178 (by decide) ?_
                refine lv_goto (tgt := 183) hx hb dL_alike_179 (by decide) ?_
                refine lv_istore (lv' := [(4, .int (nI (1))), (6, .int (nI (pRows S k2))), (5, .int (nI (k2))), (0, .ref (yha)), (1, .ref (yhb)), (2, .ref (na)), (3, .int (nI (x)))]) hx hb dL_alike_183 hl (by decide) rfl (fun ls hl => ?_)
                refine lv_iinc (lv' := [(5, .int (nI (k2 + 1))), (4, .int (nI (1))), (6, .int (nI (pRows S k2))), (0, .ref (yha)), (1, .ref (yhb)), (2, .ref (na)), (3, .int (nI (x)))]) hx hb dL_alike_185 hl (k := 2) rfl (kn_iinc k2 1) (by decide) rfl (fun ls hl => ?_)
                refine lv_goto (tgt := 48) hx hb dL_alike_188 (by decide) ?_
                refine W.widen (k := 10 + 12 * (k2 + 1)) (n := 60 + 72 * (k2 + 1)) (by omega) (by omega) ?_
                exact ihk48 (k2 + 1) u_32 u_35 (by omega) hY0 hh0 hY1 hh1 (by omega) _ _ hV hS ls (lv_sub hl [0, 1, 3, 4, 5, 6] rfl)
        refine W.widen (k := 10 + 12 * 0) (n := 60 + 72 * 0) (by omega) (by omega) ?_
        exact k48 ((S.1 1 0 - 0) + 1) 0 y6a y6b (by omega) hY0 hh0 hY1 hh1 (Nat.lt_succ_self _) _ _ hV hS ls (lv_sub hl [0, 1, 2, 3, 4, 5] rfl)
      · refine lv_iload hx hb dL_alike_12 (lv_at hl 1 rfl) ?_
        refine kn_if_eq_not hx hb (by decide) dL_alike_14 ?_ 45 (by decide)
        refine lv_aload_n hx hb dL_alike_17 rfl (lv_at hl 2 rfl) ?_
        refine lv_iload hx hb dL_alike_18 (lv_at hl 0 rfl) ?_
        refine kc_i (vx_runSW (As := [.ref (yha), .int (nI (k))]) (rest := []) hF (c_L_money l G S y6a yha (siteW G S y6b ++ ([(na, aN (kcI G) 3 f)] ++ wr)) (nI k) ((0, (S.2.2 k), S)) (ok_money c9) hlt hh0 hI hY0) (vx_cwSW 2 hts gL_alike_L_money rfl rfl rfl (by decide +kernel) ⟨Nat.le_of_ble_eq_true rfl, Nat.le_of_ble_eq_true rfl⟩) (kPreS hE hS hV) rfl rfl hl.1 rfl (lv_room (Nat.le_of_ble_eq_true rfl)) dL_alike_20 ⟨(show 2 * k + 1 ≤ 280 by omega), (show 12 * k + 6 ≤ 1640 by omega)⟩) hS (fun r_39 u_38 H locs hp_37 hV hS => ?_)
        obtain ⟨hp_370, hY0, hh0⟩ := hp_37
        have hY0 : yI G S u_38 := hY0
        have hp_370 : (S.2.2 k) = r_39 := (hp_370.trans (vI_0 ((S.2.2 k)) S)).symm
        subst hp_370
        have hV : kV G (siteW G S u_38 ++ (siteW G S y6b ++ ([(na, aN (kcI G) 3 f)] ++ wr))) _ := hV
        refine lv_aload_n hx hb dL_alike_23 rfl (lv_at hl 3 rfl) ?_
        refine lv_iload hx hb dL_alike_24 (lv_at hl 0 rfl) ?_
        have hV : kV G (siteW G S y6b ++ (siteW G S u_38 ++ ([(na, aN (kcI G) 3 f)] ++ wr))) _ := kV_wc hV (fun e => by simp only [wc_app]; omega)
        refine kc_i (vx_runSW (As := [.ref (yhb), .int (nI (k))]) (rest := [.int (S.2.2 k)]) hF (c_L_money l G S y6b yhb (siteW G S u_38 ++ ([(na, aN (kcI G) 3 f)] ++ wr)) (nI k) ((0, (S.2.2 k), S)) (ok_money c9) hlt hh1 hI hY1) (vx_cwSW 2 hts gL_alike_L_money rfl rfl rfl (by decide +kernel) ⟨Nat.le_of_ble_eq_true rfl, Nat.le_of_ble_eq_true rfl⟩) (kPreS hE hS hV) rfl rfl hl.1 rfl (lv_room (Nat.le_of_ble_eq_true rfl)) dL_alike_26 ⟨(show 2 * k + 1 + 1 ≤ 280 by omega), (show 12 * k + 6 + 6 ≤ 1640 by omega)⟩) hS (fun r_42 u_41 H locs hp_40 hV hS => ?_)
        obtain ⟨hp_400, hY1, hh1⟩ := hp_40
        have hY1 : yI G S u_41 := hY1
        have hp_400 : (S.2.2 k) = r_42 := (hp_400.trans (vI_0 ((S.2.2 k)) S)).symm
        subst hp_400
        have hV : kV G (siteW G S u_41 ++ (siteW G S u_38 ++ ([(na, aN (kcI G) 3 f)] ++ wr))) _ := hV
        have hV : kV G (siteW G S u_38 ++ (siteW G S u_41 ++ ([(na, aN (kcI G) 3 f)] ++ wr))) _ := kV_wc hV (fun e => by simp only [wc_app]; omega)
        refine lv_icmp_ne (tgt := 36) hx hb dL_alike_29 (by decide) (fun z => absurd rfl z) (fun _ => ?_)
        refine lv_iconst (v := nI 1) hx hb dL_alike_32 (by decide) ?_
        refine lv_goto (tgt := 37) hx hb dL_alike_33 (by decide) ?_
        refine lv_istore (lv' := [(4, .int (nI (1))), (5, .int (nI (k))), (0, .ref (yha)), (1, .ref (yhb)), (2, .ref (na)), (3, .int (nI (x)))]) hx hb dL_alike_37 hl (by decide) rfl (fun ls hl => ?_)
        refine lv_iinc (lv' := [(5, .int (nI (k + 1))), (4, .int (nI (1))), (0, .ref (yha)), (1, .ref (yhb)), (2, .ref (na)), (3, .int (nI (x)))]) hx hb dL_alike_39 hl (k := 1) rfl (kn_iinc k 1) (by decide) rfl (fun ls hl => ?_)
        refine lv_goto (tgt := 6) hx hb dL_alike_42 (by decide) ?_
        refine W.widen (k := 2 * (k + 1)) (n := 12 * (k + 1)) (by omega) (by omega) ?_
        exact ihk6 (k + 1) u_38 u_41 (by omega) hY0 hh0 hY1 hh1 (by omega) _ _ hV hS ls (lv_sub hl [0, 1, 2, 3, 4, 5] rfl)
  refine W.widen (k := 2 * 0) (n := 12 * 0) (by omega) (by omega) ?_
  exact k6 ((5 - 0) + 1) 0 ya yb (by omega) hY0 hh0 hY1 hh1 (Nat.lt_succ_self _) _ _ hV hS ls (lv_sub hl [0, 1, 2, 3, 4, 5] rfl)
