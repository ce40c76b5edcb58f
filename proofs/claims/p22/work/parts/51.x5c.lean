theorem i_nat {x : Int32} (h : 0 ≤ x) : ∃ m : Nat, m < 2 ^ 31 ∧ x = nI m := by
  rw [i_le, show ((0 : Int32)).toInt = 0 from by decide] at h
  have h2 := Int32.toInt_lt x
  refine ⟨x.toInt.toNat, by omega, ?_⟩
  apply Int32.toInt.inj
  rw [i_nI (by omega)]
  omega
theorem st_ans {S : kS} {i r c : Nat} (h : okP S i) (hr : r < pRows S i) : (if c < 40 then (pQ S i).2.2.1 (r * 40 + c) else 0) = pSt S i r c := by
  by_cases hc : c < 40
  · rw [if_pos hc]; exact (pQ_ok h).2.1 r c hc hr
  · rw [if_neg hc]
    have := (pW_in h r).2
    unfold pSt stV
    rw [if_pos (by omega)]
theorem sumN_mul (g : Nat) (f : Nat → Nat) : ∀ n, g * sumN f n = sumN (fun r => g * f r) n
  | 0 => rfl
  | n + 1 => by rw [sumN_s, sumN_s, Nat.mul_add, sumN_mul g f n]
theorem goS_sh {t T : Nat → Nat} {sh Z : Nat → Int} {b w n : Nat} (ht : ∀ k, k < n → 1 ≤ t (b + k)) (hT : ∀ k, k < n → T k = t (b + k)) (hZ : ∀ k, k < n → Z k = sh (b + k)) : ∀ r, r < sumN (fun k => t (b + k)) n → b + (goS T Z 0 w r).1 = (goS t sh b w r).1 ∧ (goS T Z 0 w r).2.1 = (goS t sh b w r).2.1 ∧ (goS T Z 0 w r).2.2 = (goS t sh b w r).2.2 := by
  intro r
  induction r with
  | zero =>
    intro hr
    have hn : 0 < n := by
      rcases Nat.eq_zero_or_pos n with q | q
      · subst q; exact absurd hr (Nat.not_lt_zero _)
      · exact q
    exact ⟨rfl, hT 0 hn, rfl⟩
  | succ r ih =>
    intro hr
    obtain ⟨a1, a2, a3⟩ := ih (by omega)
    obtain ⟨x, hx, e1, -, -, -⟩ := goS_at (t := t) (sh := sh) (b := b) (w := w) r n ht (by omega)
    obtain ⟨x2, hx2, e12, -, -, -⟩ := goS_at (t := t) (sh := sh) (b := b) (w := w) (r + 1) n ht hr
    have hx0 : (goS T Z 0 w r).1 = x := by omega
    have hz : Z x = sh (b + x) := hZ x hx
    by_cases c : (goS t sh b w r).2.1 = 1
    · have k1 : goS t sh b w (r + 1) = ((goS t sh b w r).1 + 1, t ((goS t sh b w r).1 + 1), clampW (((goS t sh b w r).2.2 : Int) + sh (goS t sh b w r).1)) := if_pos c
      have k2 : goS T Z 0 w (r + 1) = ((goS T Z 0 w r).1 + 1, T ((goS T Z 0 w r).1 + 1), clampW (((goS T Z 0 w r).2.2 : Int) + Z (goS T Z 0 w r).1)) := if_pos (by rw [a2]; exact c)
      rw [k1] at e12
      have e12' : (goS t sh b w r).1 + 1 = b + x2 := e12
      have hx3 : x + 1 < n := by omega
      rw [k1, k2, hx0, e1, a3, hz, hT (x + 1) hx3]
      exact ⟨by show b + (x + 1) = b + x + 1; omega, rfl, rfl⟩
    · have k1 : goS t sh b w (r + 1) = ((goS t sh b w r).1, (goS t sh b w r).2.1 - 1, clampW (((goS t sh b w r).2.2 : Int) + sh (goS t sh b w r).1)) := if_neg c
      have k2 : goS T Z 0 w (r + 1) = ((goS T Z 0 w r).1, (goS T Z 0 w r).2.1 - 1, clampW (((goS T Z 0 w r).2.2 : Int) + Z (goS T Z 0 w r).1)) := if_neg (by rw [a2]; exact c)
      rw [k1, k2, hx0, e1, a2, a3, hz]
      exact ⟨rfl, rfl, rfl⟩
theorem wk_ans {S : kS} {i r : Nat} (c : Nat) (h : okP S i) (hr : r < pRows S i) : stV ((pQ S i).2.1.1 (goS (pQ S i).2.1.2.2.2 (pQ S i).2.1.2.2.1 0 (S.1 3 i) r).1) ((pQ S i).2.1.2.1 (goS (pQ S i).2.1.2.2.2 (pQ S i).2.1.2.2.1 0 (S.1 3 i) r).1) (goS (pQ S i).2.1.2.2.2 (pQ S i).2.1.2.2.1 0 (S.1 3 i) r).2.2 c = pSt S i r c := by
  obtain ⟨a1, -, a3⟩ := goS_sh (t := S.1 9) (T := (pQ S i).2.1.2.2.2) (sh := S.2.1) (Z := (pQ S i).2.1.2.2.1) (b := 6 * i) (w := S.1 3 i) (n := S.1 5 i) (fun k hk => (h.2.2.2.2 k hk).2.2.2.1) (fun k hk => (pQ_l hk).2.2.2) (fun k hk => (pQ_l hk).2.2.1) r hr
  obtain ⟨x, hx, e⟩ := pL_at h hr
  have e2 : (goS (S.1 9) S.2.1 (6 * i) (S.1 3 i) r).1 = 6 * i + x := e
  have e3 : (goS (pQ S i).2.1.2.2.2 (pQ S i).2.1.2.2.1 0 (S.1 3 i) r).1 = x := by omega
  rw [e3, a3, (pQ_l hx).1, (pQ_l hx).2.1]
  unfold pSt
  rw [e]
  rfl
theorem pQ_sum {S : kS} {i : Nat} : sumN (pQ S i).2.1.2.2.2 (S.1 5 i) = pRows S i := sumN_cong (fun k hk => (pQ_l hk).2.2.2)
theorem pQ_hP {S : kS} {i : Nat} (h : okP S i) : ∀ k, k < S.1 5 i → (pQ S i).2.1.1 k ≤ 9 ∧ (pQ S i).2.1.2.1 k ≤ 9 ∧ 1 ≤ (pQ S i).2.1.1 k + (pQ S i).2.1.2.1 k ∧ 1 ≤ (pQ S i).2.1.2.2.2 k ∧ (pQ S i).2.1.2.2.2 k ≤ 40 ∧ -3 ≤ (pQ S i).2.1.2.2.1 k ∧ (pQ S i).2.1.2.2.1 k ≤ 3 := by
  intro k hk
  obtain ⟨a1, a2, a3, a4⟩ := pQ_l hk
  rw [a1, a2, a3, a4]
  exact h.2.2.2.2 k hk
set_option maxHeartbeats 4000000 in
set_option maxRecDepth 100000 in
theorem c_X5_rows (l : Launch) (hlt : l.stackTraces = false) (G : kG) (S : kS) (y : kY) (wr : va_W) (x : Int32) (hI : kInv S) (hY : yI G S y) : vx_Met l yX5_rows wsX5_rows ({ frames := 7, cells := 1, slots := 6, locals := 111 } : Room) (kPc G [.ref (yH y 0), .int (x)] (siteW G S y ++ wr)) (kQi G (S := kY) (fun z y2 => (opRows S x).1 = 0 ∧ z = (opRows S x).2.1 ∧ yI G (opRows S x).2.2 y2 ∧ yH y2 0 = yH y 0) (fun y2 => siteW G (opRows S x).2.2 y2 ++ wr)) (kXC G (xI (opRows S x)) (siteW G S y ++ wr)) 1 6 (kA G) := by
  refine vx_ofW (cc := cX5_rows) (maxL := 2) (ret := (some .int)) (by decide) rfl ?_
  intro pp ee s m args below meth cc0 s₁ Bd0 hml hx0 hv
  obtain ⟨rfl, hE, hV⟩ := hv
  have hK := hE.1
  have hx := Bd0.exec
  have hb := Bd0.bytes
  have hrt := Bd0.returns
  have hts := atoms_spec (ws := wsX5_rows) Bd0.pre
  have hown : s.vm.findClass RX5 = some m.cls := findClass_of_methodNamed Bd0.named
  have hlocks := Bd0.notSynchronized
  have hF : CallFix pp m cc0 cX5_rows 2 s _ wsX5_rows RX5 := ⟨hx, hb, hml, hown, hts⟩
  have hinX0 : ∀ w ∈ wsX00, w ∈ wsX5_rows := tb_of [44, 45, 46, 47] rfl
  have hinX2 : ∀ w ∈ wsX20, w ∈ wsX5_rows := tb_of [35, 36, 37, 38, 39, 40, 41, 42, 43] rfl
  have hS : va_S (kA G) s.heap s.heap [] := va_S.rf
  have hB0 := hE.2.1
  have hl := lv_entry ([.ref (yH y 0), .int (x)]) (n := 2) (Nat.le_of_ble_eq_true rfl)
  rw [lg_entry_eq]
  generalize (lg_sl ([.ref (yH y 0), .int (x)]) ++ List.replicate (2 - (lg_sl ([.ref (yH y 0), .int (x)])).length) Slot.unset).toArray = ls at hl ⊢
  have hl : lv_has ls 2 [(0, .ref (yH y 0)), (1, .int (x))] := hl
  obtain ⟨h1, h2, h3, h4, h5, h6, h7, h8⟩ := id hI
  refine lv_aload_n hx hb dX5_rows_0 rfl (lv_at hl 0 rfl) ?_
  refine lv_iload_n hx hb dX5_rows_1 rfl (lv_at hl 1 rfl) ?_
  refine kx_q (vx_runV (As := [.int (x)]) (rest := []) hF (c_X5_patternAt l hlt G S y wr x hI hY) (cwV 1 hts gX5_rows_X5_patternAt rfl rfl rfl (by decide +kernel) ⟨Nat.le_of_ble_eq_true rfl, Nat.le_of_ble_eq_true rfl⟩) (kPreV hE hS hV 0 rfl rfl) rfl rfl hl.1 rfl (lv_room (Nat.le_of_ble_eq_true rfl)) dX5_rows_2 ⟨Nat.le_of_ble_eq_true rfl, Nat.le_of_ble_eq_true rfl⟩) hS (fun E ce q9 H locs hxc hV hS hq1 hq2 hq3 => ?_) (fun r_3 u_2 H locs hp_1 hV hS => ?_)
  · have hV : kV G (siteW G S y ++ wr) _ := hV
    exact vx_out (fun x h => (hx0 x h).elim) hlocks hq1 hq2 hq3 (fun t ht hal => ⟨(), trivial, ⟨⟨hxc.1, by unfold opRows; rw [kif_t hxc.2]⟩, kV_eq ht hV⟩, hS.F ht⟩) hS.2.2 (Nat.le_refl _) (Nat.le_refl _)
  · obtain ⟨hp_1a, hp_1b⟩ := hp_1
    subst hp_1b
    have hV : kV G (siteW G S y ++ wr) _ := hV
    obtain ⟨j, hj, rfl⟩ := hp_1a
    have hj2 : j < 2 ^ 31 := by omega
    refine W.eq (g2 := F0 m 5 ls [.ref (yP y j 0)]) (by rw [tn_nI hj2]; rfl) ?_
    have hV : kV G (siteW G S y ++ wr) _ := hV
    have hV : kV G (sHd G S y ++ (patC G S y j ++ (sT G S y (List.range 4) ((List.range (S.1 1 0)).erase j) (List.range (S.1 15 0)) (List.range (S.1 19 0)) ++ wr))) _ := kV_wc hV (fun e => by
      have f0 := sT_p (G := G) (S := S) (y := y) (Lb := (List.range 4)) (Lp := (List.range (S.1 1 0))) (Ll := (List.range (S.1 15 0))) (Lj := (List.range (S.1 19 0))) (k := j) (List.mem_range.mpr (by omega)) e
      unfold siteW; simp only [wc_app]; omega)
    have hV : kV G ([(yH y 0, .inr (6, [.ref (yH y 1), .ref (yH y 2), .ref (yH y 3), .ref (yH y 4), .ref (yH y 5)])), (yH y 5, aR (kcI G) 5 S.2.2), (yH y 1, .inr (0, [.int (yM y 0), .ref (yB y 0), .int (nI (S.1 1 0))])), (yH y 2, .inr (0, [.int (yM y 1), .ref (yB y 1), .int (nI (S.1 11 0))])), (yH y 3, .inr (0, [.int (yM y 2), .ref (yB y 2), .int (nI (S.1 15 0))])), (yH y 4, .inr (0, [.int (yM y 3), .ref (yB y 3), .int (nI (S.1 19 0))])), (yP y j 0, .inr (3, [.int (nI (j)), .int (nI (S.1 2 j)), .int (nI (S.1 4 j)), .ref (yP y j 2), .ref (yP y j 7), .ref (yP y j 1), va_rf (pOr S y j), .int (nI (took S j)), .int (nI (S.1 12 j))])), (yP y j 1, aN (kcZ G) 5 ((pB S j))), (yP y j 2, .inr (4, [.int (nI (S.1 3 j)), .ref (yP y j 3), .ref (yP y j 4), .ref (yP y j 5), .ref (yP y j 6), .int (nI ((pQ S j).1.2.2))])), (yP y j 3, aN (kcI G) 6 ((pQ S j).2.1.1)), (yP y j 4, aN (kcI G) 6 ((pQ S j).2.1.2.1)), (yP y j 5, aZ (kcI G) 6 ((pQ S j).2.1.2.2.1)), (yP y j 6, aN (kcI G) 6 ((pQ S j).2.1.2.2.2)), (yP y j 7, .inr (1, [.int (nI ((pQ S j).1.1)), .ref (yP y j 8), .ref (yP y j 9), .int (nI ((pQ S j).1.2.1))])), (yP y j 8, aN (kcI G) 1600 ((pQ S j).2.2.1)), (yP y j 9, aN (kcI G) 40 ((pQ S j).2.2.2))] ++ (sT G S y (List.range 4) ((List.range (S.1 1 0)).erase j) (List.range (S.1 15 0)) (List.range (S.1 19 0)) ++ wr)) _ := hV
    refine va_get (D := kD G) (ci := 3) (v := .ref (yP y j 7)) (C := RX2) (T := TX2) (N := 9) hx hb hts hinX2 hown hK hV.1 6 rfl rfl 4 (by decide) (hts (Cond.fieldLink RX5 78 "Yarncourt$Pattern" "chart" "LYarncourt$Chart;") (List.mem_of_getElem? (i := 1) rfl)) (fun _ h9 => h9) rfl dX5_rows_5 ?_
    refine va_get (D := kD G) (ci := 1) (v := .int (nI ((pQ S j).1.1))) (C := RX0) (T := TX0) (N := 4) hx hb hts hinX0 hown hK hV.1 13 rfl rfl 0 (by decide) (hts (Cond.fieldLink RX5 82 "Yarncourt$Chart" "rowCount" "I") (List.mem_of_getElem? (i := 2) rfl)) (fun _ h9 => h9) rfl dX5_rows_8 ?_
    have hV : kV G (sHd G S y ++ (patC G S y j ++ (sT G S y (List.range 4) ((List.range (S.1 1 0)).erase j) (List.range (S.1 15 0)) (List.range (S.1 19 0)) ++ wr))) _ := hV
    have hV : kV G (siteW G S y ++ wr) _ := kV_wc hV (fun e => by
      have f0 := sT_p (G := G) (S := S) (y := y) (Lb := (List.range 4)) (Lp := (List.range (S.1 1 0))) (Ll := (List.range (S.1 15 0))) (Lj := (List.range (S.1 19 0))) (k := j) (List.mem_range.mpr (by omega)) e
      unfold siteW; simp only [wc_app]; omega)
    have hop : opRows S (nI j) = (0, nI (pRows S j), S) := by
      unfold opRows
      rw [kif_f (fun z => z (isIn_nI hj)), tn_nI hj2]
    refine vx_ret ?_
    exact W.iret (v := nI ((pQ S j).1.1)) hx hb hrt (fun t ht hW => ⟨⟨_, y, rfl, (by rw [hop]; exact ⟨rfl, (by rw [pQ_r]), hY, rfl⟩), kV_eq ht (show kV G (siteW G (opRows S (nI j)).2.2 y ++ wr) _ by rw [hop]; exact hV)⟩, hS.F ht⟩) hS.2.2 dX5_rows_11
set_option maxHeartbeats 4000000 in
set_option maxRecDepth 100000 in
theorem c_X5_left (l : Launch) (hlt : l.stackTraces = false) (G : kG) (S : kS) (y : kY) (wr : va_W) (x : Int32) (hI : kInv S) (hY : yI G S y) : vx_Met l yX5_left wsX5_left ({ frames := 7, cells := 1, slots := 6, locals := 111 } : Room) (kPc G [.ref (yH y 0), .int (x)] (siteW G S y ++ wr)) (kQi G (S := kY) (fun z y2 => (opLeft S x).1 = 0 ∧ z = (opLeft S x).2.1 ∧ yI G (opLeft S x).2.2 y2 ∧ yH y2 0 = yH y 0) (fun y2 => siteW G (opLeft S x).2.2 y2 ++ wr)) (kXC G (xI (opLeft S x)) (siteW G S y ++ wr)) 1 6 (kA G) := by
  refine vx_ofW (cc := cX5_left) (maxL := 2) (ret := (some .int)) (by decide) rfl ?_
  intro pp ee s m args below meth cc0 s₁ Bd0 hml hx0 hv
  obtain ⟨rfl, hE, hV⟩ := hv
  have hK := hE.1
  have hx := Bd0.exec
  have hb := Bd0.bytes
  have hrt := Bd0.returns
  have hts := atoms_spec (ws := wsX5_left) Bd0.pre
  have hown : s.vm.findClass RX5 = some m.cls := findClass_of_methodNamed Bd0.named
  have hlocks := Bd0.notSynchronized
  have hF : CallFix pp m cc0 cX5_left 2 s _ wsX5_left RX5 := ⟨hx, hb, hml, hown, hts⟩
  have hinX1 : ∀ w ∈ wsX10, w ∈ wsX5_left := tb_of [34, 35, 36, 37] rfl
  have hS : va_S (kA G) s.heap s.heap [] := va_S.rf
  have hB0 := hE.2.1
  have hl := lv_entry ([.ref (yH y 0), .int (x)]) (n := 2) (Nat.le_of_ble_eq_true rfl)
  rw [lg_entry_eq]
  generalize (lg_sl ([.ref (yH y 0), .int (x)]) ++ List.replicate (2 - (lg_sl ([.ref (yH y 0), .int (x)])).length) Slot.unset).toArray = ls at hl ⊢
  have hl : lv_has ls 2 [(0, .ref (yH y 0)), (1, .int (x))] := hl
  obtain ⟨h1, h2, h3, h4, h5, h6, h7, h8⟩ := id hI
  refine lv_aload_n hx hb dX5_left_0 rfl (lv_at hl 0 rfl) ?_
  refine lv_iload_n hx hb dX5_left_1 rfl (lv_at hl 1 rfl) ?_
  refine kx_q (vx_runV (As := [.int (x)]) (rest := []) hF (c_X5_lotAt l hlt G S y wr x hI hY) (cwV 1 hts gX5_left_X5_lotAt rfl rfl rfl (by decide +kernel) ⟨Nat.le_of_ble_eq_true rfl, Nat.le_of_ble_eq_true rfl⟩) (kPreV hE hS hV 0 rfl rfl) rfl rfl hl.1 rfl (lv_room (Nat.le_of_ble_eq_true rfl)) dX5_left_2 ⟨Nat.le_of_ble_eq_true rfl, Nat.le_of_ble_eq_true rfl⟩) hS (fun E ce q9 H locs hxc hV hS hq1 hq2 hq3 => ?_) (fun r_3 u_2 H locs hp_1 hV hS => ?_)
  · have hV : kV G (siteW G S y ++ wr) _ := hV
    exact vx_out (fun x h => (hx0 x h).elim) hlocks hq1 hq2 hq3 (fun t ht hal => ⟨(), trivial, ⟨⟨hxc.1, by unfold opLeft; rw [kif_t hxc.2]⟩, kV_eq ht hV⟩, hS.F ht⟩) hS.2.2 (Nat.le_refl _) (Nat.le_refl _)
  · obtain ⟨hp_1a, hp_1b⟩ := hp_1
    subst hp_1b
    have hV : kV G (siteW G S y ++ wr) _ := hV
    obtain ⟨j, hj, rfl⟩ := hp_1a
    have hj2 : j < 2 ^ 31 := by omega
    refine W.eq (g2 := F0 m 5 ls [.ref (yL y j)]) (by rw [tn_nI hj2]; rfl) ?_
    have hV : kV G (siteW G S y ++ wr) _ := hV
    have hV : kV G (sHd G S y ++ (lotC S y j ++ (sT G S y (List.range 4) (List.range (S.1 1 0)) ((List.range (S.1 15 0)).erase j) (List.range (S.1 19 0)) ++ wr))) _ := kV_wc hV (fun e => by
      have f0 := sT_l (G := G) (S := S) (y := y) (Lb := (List.range 4)) (Lp := (List.range (S.1 1 0))) (Ll := (List.range (S.1 15 0))) (Lj := (List.range (S.1 19 0))) (k := j) (List.mem_range.mpr (by omega)) e
      unfold siteW; simp only [wc_app]; omega)
    have hV : kV G ([(yH y 0, .inr (6, [.ref (yH y 1), .ref (yH y 2), .ref (yH y 3), .ref (yH y 4), .ref (yH y 5)])), (yH y 5, aR (kcI G) 5 S.2.2), (yH y 1, .inr (0, [.int (yM y 0), .ref (yB y 0), .int (nI (S.1 1 0))])), (yH y 2, .inr (0, [.int (yM y 1), .ref (yB y 1), .int (nI (S.1 11 0))])), (yH y 3, .inr (0, [.int (yM y 2), .ref (yB y 2), .int (nI (S.1 15 0))])), (yH y 4, .inr (0, [.int (yM y 3), .ref (yB y 3), .int (nI (S.1 19 0))])), (yL y j, .inr (2, [.int (nI (j)), .int (nI (S.1 17 j)), .int (nI (S.1 16 j)), .int (nI (S.1 18 j))]))] ++ (sT G S y (List.range 4) (List.range (S.1 1 0)) ((List.range (S.1 15 0)).erase j) (List.range (S.1 19 0)) ++ wr)) _ := hV
    refine va_get (D := kD G) (ci := 2) (v := .int (nI (S.1 18 j))) (C := RX1) (T := TX1) (N := 4) hx hb hts hinX1 hown hK hV.1 6 rfl rfl 3 (by decide) (hts (Cond.fieldLink RX5 191 "Yarncourt$Lot" "yarn" "I") (List.mem_of_getElem? (i := 1) rfl)) (fun _ h9 => h9) rfl dX5_left_5 ?_
    have hV : kV G (sHd G S y ++ (lotC S y j ++ (sT G S y (List.range 4) (List.range (S.1 1 0)) ((List.range (S.1 15 0)).erase j) (List.range (S.1 19 0)) ++ wr))) _ := hV
    have hV : kV G (siteW G S y ++ wr) _ := kV_wc hV (fun e => by
      have f0 := sT_l (G := G) (S := S) (y := y) (Lb := (List.range 4)) (Lp := (List.range (S.1 1 0))) (Ll := (List.range (S.1 15 0))) (Lj := (List.range (S.1 19 0))) (k := j) (List.mem_range.mpr (by omega)) e
      unfold siteW; simp only [wc_app]; omega)
    have hop : opLeft S (nI j) = (0, nI (S.1 18 j), S) := by
      unfold opLeft
      rw [kif_f (fun z => z (isIn_nI hj)), tn_nI hj2]
    refine vx_ret ?_
    exact W.iret (v := nI (S.1 18 j)) hx hb hrt (fun t ht hW => ⟨⟨_, y, rfl, (by rw [hop]; exact ⟨rfl, rfl, hY, rfl⟩), kV_eq ht (show kV G (siteW G (opLeft S (nI j)).2.2 y ++ wr) _ by rw [hop]; exact hV)⟩, hS.F ht⟩) hS.2.2 dX5_left_8
set_option maxHeartbeats 4000000 in
set_option maxRecDepth 100000 in
theorem c_X5_progress (l : Launch) (hlt : l.stackTraces = false) (G : kG) (S : kS) (y : kY) (wr : va_W) (x : Int32) (hI : kInv S) (hY : yI G S y) : vx_Met l yX5_progress wsX5_progress ({ frames := 7, cells := 1, slots := 6, locals := 111 } : Room) (kPc G [.ref (yH y 0), .int (x)] (siteW G S y ++ wr)) (kQi G (S := kY) (fun z y2 => (opProgress S x).1 = 0 ∧ z = (opProgress S x).2.1 ∧ yI G (opProgress S x).2.2 y2 ∧ yH y2 0 = yH y 0) (fun y2 => siteW G (opProgress S x).2.2 y2 ++ wr)) (kXC G (xI (opProgress S x)) (siteW G S y ++ wr)) 1 6 (kA G) := by
  refine vx_ofW (cc := cX5_progress) (maxL := 2) (ret := (some .int)) (by decide) rfl ?_
  intro pp ee s m args below meth cc0 s₁ Bd0 hml hx0 hv
  obtain ⟨rfl, hE, hV⟩ := hv
  have hK := hE.1
  have hx := Bd0.exec
  have hb := Bd0.bytes
  have hrt := Bd0.returns
  have hts := atoms_spec (ws := wsX5_progress) Bd0.pre
  have hown : s.vm.findClass RX5 = some m.cls := findClass_of_methodNamed Bd0.named
  have hlocks := Bd0.notSynchronized
  have hF : CallFix pp m cc0 cX5_progress 2 s _ wsX5_progress RX5 := ⟨hx, hb, hml, hown, hts⟩
  have hinX4 : ∀ w ∈ wsX40, w ∈ wsX5_progress := tb_of [34, 35, 36, 37] rfl
  have hS : va_S (kA G) s.heap s.heap [] := va_S.rf
  have hB0 := hE.2.1
  have hl := lv_entry ([.ref (yH y 0), .int (x)]) (n := 2) (Nat.le_of_ble_eq_true rfl)
  rw [lg_entry_eq]
  generalize (lg_sl ([.ref (yH y 0), .int (x)]) ++ List.replicate (2 - (lg_sl ([.ref (yH y 0), .int (x)])).length) Slot.unset).toArray = ls at hl ⊢
  have hl : lv_has ls 2 [(0, .ref (yH y 0)), (1, .int (x))] := hl
  obtain ⟨h1, h2, h3, h4, h5, h6, h7, h8⟩ := id hI
  refine lv_aload_n hx hb dX5_progress_0 rfl (lv_at hl 0 rfl) ?_
  refine lv_iload_n hx hb dX5_progress_1 rfl (lv_at hl 1 rfl) ?_
  refine kx_q (vx_runV (As := [.int (x)]) (rest := []) hF (c_X5_projectAt l hlt G S y wr x hI hY) (cwV 1 hts gX5_progress_X5_projectAt rfl rfl rfl (by decide +kernel) ⟨Nat.le_of_ble_eq_true rfl, Nat.le_of_ble_eq_true rfl⟩) (kPreV hE hS hV 0 rfl rfl) rfl rfl hl.1 rfl (lv_room (Nat.le_of_ble_eq_true rfl)) dX5_progress_2 ⟨Nat.le_of_ble_eq_true rfl, Nat.le_of_ble_eq_true rfl⟩) hS (fun E ce q9 H locs hxc hV hS hq1 hq2 hq3 => ?_) (fun r_3 u_2 H locs hp_1 hV hS => ?_)
  · have hV : kV G (siteW G S y ++ wr) _ := hV
    exact vx_out (fun x h => (hx0 x h).elim) hlocks hq1 hq2 hq3 (fun t ht hal => ⟨(), trivial, ⟨⟨hxc.1, by unfold opProgress; rw [kif_t hxc.2]⟩, kV_eq ht hV⟩, hS.F ht⟩) hS.2.2 (Nat.le_refl _) (Nat.le_refl _)
  · obtain ⟨hp_1a, hp_1b⟩ := hp_1
    subst hp_1b
    have hV : kV G (siteW G S y ++ wr) _ := hV
    obtain ⟨j, hj, rfl⟩ := hp_1a
    have hj2 : j < 2 ^ 31 := by omega
    refine W.eq (g2 := F0 m 5 ls [.ref (yJ y j)]) (by rw [tn_nI hj2]; rfl) ?_
    have hV : kV G (siteW G S y ++ wr) _ := hV
    have hV : kV G (sHd G S y ++ (prjC S y j ++ (sT G S y (List.range 4) (List.range (S.1 1 0)) (List.range (S.1 15 0)) ((List.range (S.1 19 0)).erase j) ++ wr))) _ := kV_wc hV (fun e => by
      have f0 := sT_j (G := G) (S := S) (y := y) (Lb := (List.range 4)) (Lp := (List.range (S.1 1 0))) (Ll := (List.range (S.1 15 0))) (Lj := (List.range (S.1 19 0))) (k := j) (List.mem_range.mpr (by omega)) e
      unfold siteW; simp only [wc_app]; omega)
    have hV : kV G ([(yH y 0, .inr (6, [.ref (yH y 1), .ref (yH y 2), .ref (yH y 3), .ref (yH y 4), .ref (yH y 5)])), (yH y 5, aR (kcI G) 5 S.2.2), (yH y 1, .inr (0, [.int (yM y 0), .ref (yB y 0), .int (nI (S.1 1 0))])), (yH y 2, .inr (0, [.int (yM y 1), .ref (yB y 1), .int (nI (S.1 11 0))])), (yH y 3, .inr (0, [.int (yM y 2), .ref (yB y 2), .int (nI (S.1 15 0))])), (yH y 4, .inr (0, [.int (yM y 3), .ref (yB y 3), .int (nI (S.1 19 0))])), (yJ y j, .inr (5, [.int (nI (S.1 20 j)), .ref (yP y (S.1 21 j) 0), .ref (yL y (S.1 22 j)), .int (nI (S.1 23 j))]))] ++ (sT G S y (List.range 4) (List.range (S.1 1 0)) (List.range (S.1 15 0)) ((List.range (S.1 19 0)).erase j) ++ wr)) _ := hV
    refine va_get (D := kD G) (ci := 5) (v := .int (nI (S.1 23 j))) (C := RX4) (T := TX4) (N := 4) hx hb hts hinX4 hown hK hV.1 6 rfl rfl 3 (by decide) (hts (Cond.fieldLink RX5 216 "Yarncourt$Project" "knitted" "I") (List.mem_of_getElem? (i := 1) rfl)) (fun _ h9 => h9) rfl dX5_progress_5 ?_
    have hV : kV G (sHd G S y ++ (prjC S y j ++ (sT G S y (List.range 4) (List.range (S.1 1 0)) (List.range (S.1 15 0)) ((List.range (S.1 19 0)).erase j) ++ wr))) _ := hV
    have hV : kV G (siteW G S y ++ wr) _ := kV_wc hV (fun e => by
      have f0 := sT_j (G := G) (S := S) (y := y) (Lb := (List.range 4)) (Lp := (List.range (S.1 1 0))) (Ll := (List.range (S.1 15 0))) (Lj := (List.range (S.1 19 0))) (k := j) (List.mem_range.mpr (by omega)) e
      unfold siteW; simp only [wc_app]; omega)
    have hop : opProgress S (nI j) = (0, nI (S.1 23 j), S) := by
      unfold opProgress
      rw [kif_f (fun z => z (isIn_nI hj)), tn_nI hj2]
    refine vx_ret ?_
    exact W.iret (v := nI (S.1 23 j)) hx hb hrt (fun t ht hW => ⟨⟨_, y, rfl, (by rw [hop]; exact ⟨rfl, rfl, hY, rfl⟩), kV_eq ht (show kV G (siteW G (opProgress S (nI j)).2.2 y ++ wr) _ by rw [hop]; exact hV)⟩, hS.F ht⟩) hS.2.2 dX5_progress_8
set_option maxHeartbeats 4000000 in
set_option maxRecDepth 100000 in
theorem c_X5_money (l : Launch) (hlt : l.stackTraces = false) (G : kG) (S : kS) (y : kY) (wr : va_W) (x : Int32) (hI : kInv S) (hY : yI G S y) : vx_Met l yX5_money wsX5_money ({ frames := 7, cells := 1, slots := 6, locals := 110 } : Room) (kPc G [.ref (yH y 0), .int (x)] (siteW G S y ++ wr)) (kQi G (S := kY) (fun z y2 => (opMoney S x).1 = 0 ∧ z = (opMoney S x).2.1 ∧ yI G (opMoney S x).2.2 y2 ∧ yH y2 0 = yH y 0) (fun y2 => siteW G (opMoney S x).2.2 y2 ++ wr)) (kXC G (xI (opMoney S x)) (siteW G S y ++ wr)) 1 6 (kA G) := by
  refine vx_ofW (cc := cX5_money) (maxL := 2) (ret := (some .int)) (by decide) rfl ?_
  intro pp ee s m args below meth cc0 s₁ Bd0 hml hx0 hv
  obtain ⟨rfl, hE, hV⟩ := hv
  have hK := hE.1
  have hx := Bd0.exec
  have hb := Bd0.bytes
  have hrt := Bd0.returns
  have hts := atoms_spec (ws := wsX5_money) Bd0.pre
  have hown : s.vm.findClass RX5 = some m.cls := findClass_of_methodNamed Bd0.named
  have hlocks := Bd0.notSynchronized
  have hF : CallFix pp m cc0 cX5_money 2 s _ wsX5_money RX5 := ⟨hx, hb, hml, hown, hts⟩
  have hinX5 : ∀ w ∈ wsX50, w ∈ wsX5_money := tb_of [8, 9, 10, 11, 12] rfl
  have hS : va_S (kA G) s.heap s.heap [] := va_S.rf
  have hB0 := hE.2.1
  have hl := lv_entry ([.ref (yH y 0), .int (x)]) (n := 2) (Nat.le_of_ble_eq_true rfl)
  rw [lg_entry_eq]
  generalize (lg_sl ([.ref (yH y 0), .int (x)]) ++ List.replicate (2 - (lg_sl ([.ref (yH y 0), .int (x)])).length) Slot.unset).toArray = ls at hl ⊢
  have hl : lv_has ls 2 [(0, .ref (yH y 0)), (1, .int (x))] := hl
  obtain ⟨h1, h2, h3, h4, h5, h6, h7, h8⟩ := id hI
  refine lv_iload_n hx hb dX5_money_0 rfl (lv_at hl 1 rfl) ?_
  refine kx_v (vx_runS (As := [.int (x)]) (rest := []) hF (c_X5_checkPerson l hlt G x (siteW G S y ++ wr)) (va_cwS 1 hts gX5_money_X5_checkPerson rfl rfl rfl (by decide +kernel) ⟨Nat.le_of_ble_eq_true rfl, Nat.le_of_ble_eq_true rfl⟩) (kPreS hE hS hV) rfl rfl hl.1 rfl (lv_room (Nat.le_of_ble_eq_true rfl)) dX5_money_1 ⟨Nat.le_of_ble_eq_true rfl, Nat.le_of_ble_eq_true rfl⟩) hS (fun E ce q9 H locs hxc hV hS hq1 hq2 hq3 => ?_) (fun u_2 H locs hp_1 hV hS => ?_)
  · have hV : kV G (siteW G S y ++ wr) _ := hV
    exact vx_out (fun x h => (hx0 x h).elim) hlocks hq1 hq2 hq3 (fun t ht hal => ⟨(), trivial, ⟨⟨hxc.1, by unfold opMoney; rw [kif_t hxc.2]⟩, kV_eq ht hV⟩, hS.F ht⟩) hS.2.2 (Nat.le_refl _) (Nat.le_refl _)
  · have hV : kV G (siteW G S y ++ wr) _ := hV
    obtain ⟨j, hj, rfl⟩ := hp_1
    have hj2 : j < 2 ^ 31 := by omega
    refine lv_aload_n hx hb dX5_money_4 rfl (lv_at hl 0 rfl) ?_
    refine va_get (D := kD G) (ci := 6) (v := .ref (yH y 5)) (C := RX5) (T := TX5) (N := 5) hx hb hts hinX5 hown hK hV.1 0 rfl rfl 4 (by decide) (hts (Cond.fieldLink RX5 25 "Yarncourt" "purses" "[I") (List.mem_of_getElem? (i := 1) rfl)) (fun _ h9 => h9) rfl dX5_money_5 ?_
    refine lv_iload_n hx hb dX5_money_8 rfl (lv_at hl 1 rfl) ?_
    refine kr_iald (G := G) (n := 5) (g := S.2.2) (j := j) hx hb hK hV 1 rfl (by omega) (by decide) dX5_money_9 ?_
    have hop : opMoney S (nI j) = (0, S.2.2 j, S) := by
      unfold opMoney
      rw [kif_f (fun z => z (isIn_nI hj)), tn_nI hj2]
    refine vx_ret ?_
    exact W.iret (v := (S.2.2 j)) hx hb hrt (fun t ht hW => ⟨⟨_, y, rfl, (by rw [hop]; exact ⟨rfl, rfl, hY, rfl⟩), kV_eq ht (show kV G (siteW G (opMoney S (nI j)).2.2 y ++ wr) _ by rw [hop]; exact hV)⟩, hS.F ht⟩) hS.2.2 dX5_money_10
set_option maxHeartbeats 4000000 in
set_option maxRecDepth 100000 in
theorem c_X5_original (l : Launch) (hlt : l.stackTraces = false) (G : kG) (S : kS) (y : kY) (wr : va_W) (x : Int32) (hI : kInv S) (hY : yI G S y) : vx_Met l yX5_original wsX5_original ({ frames := 7, cells := 1, slots := 6, locals := 111 } : Room) (kPc G [.ref (yH y 0), .int (x)] (siteW G S y ++ wr)) (kQi G (S := kY) (fun z y2 => (opOriginal S x).1 = 0 ∧ z = (opOriginal S x).2.1 ∧ yI G (opOriginal S x).2.2 y2 ∧ yH y2 0 = yH y 0) (fun y2 => siteW G (opOriginal S x).2.2 y2 ++ wr)) (kXC G (xI (opOriginal S x)) (siteW G S y ++ wr)) 1 6 (kA G) := by
  refine vx_ofW (cc := cX5_original) (maxL := 3) (ret := (some .int)) (by decide) rfl ?_
  intro pp ee s m args below meth cc0 s₁ Bd0 hml hx0 hv
  obtain ⟨rfl, hE, hV⟩ := hv
  have hK := hE.1
  have hx := Bd0.exec
  have hb := Bd0.bytes
  have hrt := Bd0.returns
  have hts := atoms_spec (ws := wsX5_original) Bd0.pre
  have hown : s.vm.findClass RX5 = some m.cls := findClass_of_methodNamed Bd0.named
  have hlocks := Bd0.notSynchronized
  have hF : CallFix pp m cc0 cX5_original 3 s _ wsX5_original RX5 := ⟨hx, hb, hml, hown, hts⟩
  have hinX2 : ∀ w ∈ wsX20, w ∈ wsX5_original := tb_of [35, 36, 37, 38, 39, 40, 41, 42, 43] rfl
  have hS : va_S (kA G) s.heap s.heap [] := va_S.rf
  have hB0 := hE.2.1
  have hl := lv_entry ([.ref (yH y 0), .int (x)]) (n := 3) (Nat.le_of_ble_eq_true rfl)
  rw [lg_entry_eq]
  generalize (lg_sl ([.ref (yH y 0), .int (x)]) ++ List.replicate (3 - (lg_sl ([.ref (yH y 0), .int (x)])).length) Slot.unset).toArray = ls at hl ⊢
  have hl : lv_has ls 3 [(0, .ref (yH y 0)), (1, .int (x))] := hl
  obtain ⟨h1, h2, h3, h4, h5, h6, h7, h8⟩ := id hI
  refine lv_aload_n hx hb dX5_original_0 rfl (lv_at hl 0 rfl) ?_
  refine lv_iload_n hx hb dX5_original_1 rfl (lv_at hl 1 rfl) ?_
  refine kx_q (vx_runV (As := [.int (x)]) (rest := []) hF (c_X5_patternAt l hlt G S y wr x hI hY) (cwV 1 hts gX5_original_X5_patternAt rfl rfl rfl (by decide +kernel) ⟨Nat.le_of_ble_eq_true rfl, Nat.le_of_ble_eq_true rfl⟩) (kPreV hE hS hV 0 rfl rfl) rfl rfl hl.1 rfl (lv_room (Nat.le_of_ble_eq_true rfl)) dX5_original_2 ⟨Nat.le_of_ble_eq_true rfl, Nat.le_of_ble_eq_true rfl⟩) hS (fun E ce q9 H locs hxc hV hS hq1 hq2 hq3 => ?_) (fun r_3 u_2 H locs hp_1 hV hS => ?_)
  · have hV : kV G (siteW G S y ++ wr) _ := hV
    exact vx_out (fun x h => (hx0 x h).elim) hlocks hq1 hq2 hq3 (fun t ht hal => ⟨(), trivial, ⟨⟨hxc.1, by unfold opOriginal; rw [kif_t hxc.2]⟩, kV_eq ht hV⟩, hS.F ht⟩) hS.2.2 (Nat.le_refl _) (Nat.le_refl _)
  · obtain ⟨hp_1a, hp_1b⟩ := hp_1
    subst hp_1b
    have hV : kV G (siteW G S y ++ wr) _ := hV
    obtain ⟨j, hj, rfl⟩ := hp_1a
    have hj2 : j < 2 ^ 31 := by omega
    refine W.eq (g2 := F0 m 5 ls [.ref (yP y j 0)]) (by rw [tn_nI hj2]; rfl) ?_
    have hV : kV G (siteW G S y ++ wr) _ := hV
    have hV : kV G (sHd G S y ++ (patC G S y j ++ (sT G S y (List.range 4) ((List.range (S.1 1 0)).erase j) (List.range (S.1 15 0)) (List.range (S.1 19 0)) ++ wr))) _ := kV_wc hV (fun e => by
      have f0 := sT_p (G := G) (S := S) (y := y) (Lb := (List.range 4)) (Lp := (List.range (S.1 1 0))) (Ll := (List.range (S.1 15 0))) (Lj := (List.range (S.1 19 0))) (k := j) (List.mem_range.mpr (by omega)) e
      unfold siteW; simp only [wc_app]; omega)
    have hV : kV G ([(yH y 0, .inr (6, [.ref (yH y 1), .ref (yH y 2), .ref (yH y 3), .ref (yH y 4), .ref (yH y 5)])), (yH y 5, aR (kcI G) 5 S.2.2), (yH y 1, .inr (0, [.int (yM y 0), .ref (yB y 0), .int (nI (S.1 1 0))])), (yH y 2, .inr (0, [.int (yM y 1), .ref (yB y 1), .int (nI (S.1 11 0))])), (yH y 3, .inr (0, [.int (yM y 2), .ref (yB y 2), .int (nI (S.1 15 0))])), (yH y 4, .inr (0, [.int (yM y 3), .ref (yB y 3), .int (nI (S.1 19 0))])), (yP y j 0, .inr (3, [.int (nI (j)), .int (nI (S.1 2 j)), .int (nI (S.1 4 j)), .ref (yP y j 2), .ref (yP y j 7), .ref (yP y j 1), va_rf (pOr S y j), .int (nI (took S j)), .int (nI (S.1 12 j))])), (yP y j 1, aN (kcZ G) 5 ((pB S j))), (yP y j 2, .inr (4, [.int (nI (S.1 3 j)), .ref (yP y j 3), .ref (yP y j 4), .ref (yP y j 5), .ref (yP y j 6), .int (nI ((pQ S j).1.2.2))])), (yP y j 3, aN (kcI G) 6 ((pQ S j).2.1.1)), (yP y j 4, aN (kcI G) 6 ((pQ S j).2.1.2.1)), (yP y j 5, aZ (kcI G) 6 ((pQ S j).2.1.2.2.1)), (yP y j 6, aN (kcI G) 6 ((pQ S j).2.1.2.2.2)), (yP y j 7, .inr (1, [.int (nI ((pQ S j).1.1)), .ref (yP y j 8), .ref (yP y j 9), .int (nI ((pQ S j).1.2.1))])), (yP y j 8, aN (kcI G) 1600 ((pQ S j).2.2.1)), (yP y j 9, aN (kcI G) 40 ((pQ S j).2.2.2))] ++ (sT G S y (List.range 4) ((List.range (S.1 1 0)).erase j) (List.range (S.1 15 0)) (List.range (S.1 19 0)) ++ wr)) _ := hV
    refine va_get (D := kD G) (ci := 3) (v := va_rf (pOr S y j)) (C := RX2) (T := TX2) (N := 9) hx hb hts hinX2 hown hK hV.1 6 rfl rfl 6 (by decide) (hts (Cond.fieldLink RX5 132 "Yarncourt$Pattern" "original" "LYarncourt$Pattern;") (List.mem_of_getElem? (i := 1) rfl)) (fun _ h9 => h9) rfl dX5_original_5 ?_
    refine kq_astore_n (lv' := [(2, va_rf (pOr S y j)), (0, .ref (yH y 0)), (1, .int (nI (j)))]) hx hb dX5_original_8 rfl hl (by decide) rfl (fun ls hl => ?_)
    refine kq_aload_n hx hb dX5_original_9 rfl (lv_at hl 0 rfl) ?_
    refine kq_ifnonnull (tgt := 17) hx hb dX5_original_10 (by decide) (fun c10 => ?_) (fun c10 => ?_)
    · have hu9 : S.1 10 j ≠ 99 := fun z => c10 (kif_t z)
      have ho9 : pOr S y j = some (yP y (pOrig S j) 0) := kif_f hu9
      rw [ho9] at hl
      have hl : lv_has ls 3 [(2, .ref (yP y (pOrig S j) 0)), (0, .ref (yH y 0)), (1, .int (nI (j)))] := hl
      have hV : kV G (sHd G S y ++ (patC G S y j ++ (sT G S y (List.range 4) ((List.range (S.1 1 0)).erase j) (List.range (S.1 15 0)) (List.range (S.1 19 0)) ++ wr))) _ := hV
      have hV : kV G (siteW G S y ++ wr) _ := kV_wc hV (fun e => by
        have f0 := sT_p (G := G) (S := S) (y := y) (Lb := (List.range 4)) (Lp := (List.range (S.1 1 0))) (Ll := (List.range (S.1 15 0))) (Lj := (List.range (S.1 19 0))) (k := j) (List.mem_range.mpr (by omega)) e
        unfold siteW; simp only [wc_app]; omega)
      have hq9 := pOrig_lt (S := S) hj
      have hV : kV G (siteW G S y ++ wr) _ := hV
      have hV : kV G (sHd G S y ++ (patC G S y (pOrig S j) ++ (sT G S y (List.range 4) ((List.range (S.1 1 0)).erase (pOrig S j)) (List.range (S.1 15 0)) (List.range (S.1 19 0)) ++ wr))) _ := kV_wc hV (fun e => by
        have f0 := sT_p (G := G) (S := S) (y := y) (Lb := (List.range 4)) (Lp := (List.range (S.1 1 0))) (Ll := (List.range (S.1 15 0))) (Lj := (List.range (S.1 19 0))) (k := pOrig S j) (List.mem_range.mpr (by omega)) e
        unfold siteW; simp only [wc_app]; omega)
      have hV : kV G ([(yH y 0, .inr (6, [.ref (yH y 1), .ref (yH y 2), .ref (yH y 3), .ref (yH y 4), .ref (yH y 5)])), (yH y 5, aR (kcI G) 5 S.2.2), (yH y 1, .inr (0, [.int (yM y 0), .ref (yB y 0), .int (nI (S.1 1 0))])), (yH y 2, .inr (0, [.int (yM y 1), .ref (yB y 1), .int (nI (S.1 11 0))])), (yH y 3, .inr (0, [.int (yM y 2), .ref (yB y 2), .int (nI (S.1 15 0))])), (yH y 4, .inr (0, [.int (yM y 3), .ref (yB y 3), .int (nI (S.1 19 0))])), (yP y (pOrig S j) 0, .inr (3, [.int (nI (pOrig S j)), .int (nI (S.1 2 (pOrig S j))), .int (nI (S.1 4 (pOrig S j))), .ref (yP y (pOrig S j) 2), .ref (yP y (pOrig S j) 7), .ref (yP y (pOrig S j) 1), va_rf (pOr S y (pOrig S j)), .int (nI (took S (pOrig S j))), .int (nI (S.1 12 (pOrig S j)))])), (yP y (pOrig S j) 1, aN (kcZ G) 5 ((pB S (pOrig S j)))), (yP y (pOrig S j) 2, .inr (4, [.int (nI (S.1 3 (pOrig S j))), .ref (yP y (pOrig S j) 3), .ref (yP y (pOrig S j) 4), .ref (yP y (pOrig S j) 5), .ref (yP y (pOrig S j) 6), .int (nI ((pQ S (pOrig S j)).1.2.2))])), (yP y (pOrig S j) 3, aN (kcI G) 6 ((pQ S (pOrig S j)).2.1.1)), (yP y (pOrig S j) 4, aN (kcI G) 6 ((pQ S (pOrig S j)).2.1.2.1)), (yP y (pOrig S j) 5, aZ (kcI G) 6 ((pQ S (pOrig S j)).2.1.2.2.1)), (yP y (pOrig S j) 6, aN (kcI G) 6 ((pQ S (pOrig S j)).2.1.2.2.2)), (yP y (pOrig S j) 7, .inr (1, [.int (nI ((pQ S (pOrig S j)).1.1)), .ref (yP y (pOrig S j) 8), .ref (yP y (pOrig S j) 9), .int (nI ((pQ S (pOrig S j)).1.2.1))])), (yP y (pOrig S j) 8, aN (kcI G) 1600 ((pQ S (pOrig S j)).2.2.1)), (yP y (pOrig S j) 9, aN (kcI G) 40 ((pQ S (pOrig S j)).2.2.2))] ++ (sT G S y (List.range 4) ((List.range (S.1 1 0)).erase (pOrig S j)) (List.range (S.1 15 0)) (List.range (S.1 19 0)) ++ wr)) _ := hV
      refine lv_aload_n hx hb dX5_original_17 rfl (lv_at hl 0 rfl) ?_
      refine va_get (D := kD G) (ci := 3) (v := .int (nI (pOrig S j))) (C := RX2) (T := TX2) (N := 9) hx hb hts hinX2 hown hK hV.1 6 rfl rfl 0 (by decide) (hts (Cond.fieldLink RX5 44 "Yarncourt$Pattern" "number" "I") (List.mem_of_getElem? (i := 2) rfl)) (fun _ h9 => h9) rfl dX5_original_18 ?_
      have hV : kV G (sHd G S y ++ (patC G S y (pOrig S j) ++ (sT G S y (List.range 4) ((List.range (S.1 1 0)).erase (pOrig S j)) (List.range (S.1 15 0)) (List.range (S.1 19 0)) ++ wr))) _ := hV
      have hV : kV G (siteW G S y ++ wr) _ := kV_wc hV (fun e => by
        have f0 := sT_p (G := G) (S := S) (y := y) (Lb := (List.range 4)) (Lp := (List.range (S.1 1 0))) (Ll := (List.range (S.1 15 0))) (Lj := (List.range (S.1 19 0))) (k := pOrig S j) (List.mem_range.mpr (by omega)) e
        unfold siteW; simp only [wc_app]; omega)
      have hop : opOriginal S (nI j) = (0, nI (pOrig S j), S) := by
        unfold opOriginal
        rw [kif_f (fun z => z (isIn_nI hj)), tn_nI hj2, kif_t hu9]
      refine vx_ret ?_
      exact W.iret (v := nI (pOrig S j)) hx hb hrt (fun t ht hW => ⟨⟨_, y, rfl, (by rw [hop]; exact ⟨rfl, rfl, hY, rfl⟩), kV_eq ht (show kV G (siteW G (opOriginal S (nI j)).2.2 y ++ wr) _ by rw [hop]; exact hV)⟩, hS.F ht⟩) hS.2.2 dX5_original_21
    · refine lv_iconst (v := -1) hx hb dX5_original_13 (by decide) ?_
      refine lv_goto (tgt := 21) hx hb dX5_original_14 (by decide) ?_
      have hu9 : S.1 10 j = 99 := by
        by_cases z : S.1 10 j = 99
        · exact z
        · exact absurd (show pOr S y j = some _ from kif_f z) (by rw [c10]; exact fun z => by cases z)
      have hV : kV G (sHd G S y ++ (patC G S y j ++ (sT G S y (List.range 4) ((List.range (S.1 1 0)).erase j) (List.range (S.1 15 0)) (List.range (S.1 19 0)) ++ wr))) _ := hV
      have hV : kV G (siteW G S y ++ wr) _ := kV_wc hV (fun e => by
        have f0 := sT_p (G := G) (S := S) (y := y) (Lb := (List.range 4)) (Lp := (List.range (S.1 1 0))) (Ll := (List.range (S.1 15 0))) (Lj := (List.range (S.1 19 0))) (k := j) (List.mem_range.mpr (by omega)) e
        unfold siteW; simp only [wc_app]; omega)
      have hop : opOriginal S (nI j) = (0, -1, S) := by
        unfold opOriginal
        rw [kif_f (fun z => z (isIn_nI hj)), tn_nI hj2, kif_f (fun z => z hu9)]
      refine vx_ret ?_
      exact W.iret (v := (-1)) hx hb hrt (fun t ht hW => ⟨⟨_, y, rfl, (by rw [hop]; exact ⟨rfl, rfl, hY, rfl⟩), kV_eq ht (show kV G (siteW G (opOriginal S (nI j)).2.2 y ++ wr) _ by rw [hop]; exact hV)⟩, hS.F ht⟩) hS.2.2 dX5_original_21
set_option maxHeartbeats 4000000 in
set_option maxRecDepth 100000 in
theorem c_X5_stitch (l : Launch) (hlt : l.stackTraces = false) (G : kG) (S : kS) (y : kY) (wr : va_W) (x : Int32) (xr : Int32) (xc : Int32) (hI : kInv S) (hY : yI G S y) : vx_Met l yX5_stitch wsX5_stitch ({ frames := 7, cells := 2, slots := 12, locals := 112 } : Room) (kPc G [.ref (yH y 0), .int (x), .int (xr), .int (xc)] (siteW G S y ++ wr)) (kQi G (S := kY) (fun z y2 => (opStitch S x xr xc).1 = 0 ∧ z = (opStitch S x xr xc).2.1 ∧ yI G (opStitch S x xr xc).2.2 y2 ∧ yH y2 0 = yH y 0) (fun y2 => siteW G (opStitch S x xr xc).2.2 y2 ++ wr)) (kXC G (xI (opStitch S x xr xc)) (siteW G S y ++ wr)) 2 12 (kA G) := by
  refine vx_ofW (cc := cX5_stitch) (maxL := 5) (ret := (some .int)) (by decide) rfl ?_
  intro pp ee s m args below meth cc0 s₁ Bd0 hml hx0 hv
  obtain ⟨rfl, hE, hV⟩ := hv
  have hK := hE.1
  have hx := Bd0.exec
  have hb := Bd0.bytes
  have hrt := Bd0.returns
  have hts := atoms_spec (ws := wsX5_stitch) Bd0.pre
  have hown : s.vm.findClass RX5 = some m.cls := findClass_of_methodNamed Bd0.named
  have hlocks := Bd0.notSynchronized
  have hF : CallFix pp m cc0 cX5_stitch 5 s _ wsX5_stitch RX5 := ⟨hx, hb, hml, hown, hts⟩
  have hinX2 : ∀ w ∈ wsX20, w ∈ wsX5_stitch := tb_of [44, 45, 46, 47, 48, 49, 50, 51, 52] rfl
  have hS : va_S (kA G) s.heap s.heap [] := va_S.rf
  have hB0 := hE.2.1
  have hl := lv_entry ([.ref (yH y 0), .int (x), .int (xr), .int (xc)]) (n := 5) (Nat.le_of_ble_eq_true rfl)
  rw [lg_entry_eq]
  generalize (lg_sl ([.ref (yH y 0), .int (x), .int (xr), .int (xc)]) ++ List.replicate (5 - (lg_sl ([.ref (yH y 0), .int (x), .int (xr), .int (xc)])).length) Slot.unset).toArray = ls at hl ⊢
  have hl : lv_has ls 5 [(0, .ref (yH y 0)), (1, .int (x)), (2, .int (xr)), (3, .int (xc))] := hl
  obtain ⟨h1, h2, h3, h4, h5, h6, h7, h8⟩ := id hI
  refine lv_aload_n hx hb dX5_stitch_0 rfl (lv_at hl 0 rfl) ?_
  refine lv_iload_n hx hb dX5_stitch_1 rfl (lv_at hl 1 rfl) ?_
  refine kx_q (vx_runV (As := [.int (x)]) (rest := []) hF (c_X5_patternAt l hlt G S y wr x hI hY) (cwV 1 hts gX5_stitch_X5_patternAt rfl rfl rfl (by decide +kernel) ⟨Nat.le_of_ble_eq_true rfl, Nat.le_of_ble_eq_true rfl⟩) (kPreV hE hS hV 0 rfl rfl) rfl rfl hl.1 rfl (lv_room (Nat.le_of_ble_eq_true rfl)) dX5_stitch_2 ⟨Nat.le_of_ble_eq_true rfl, Nat.le_of_ble_eq_true rfl⟩) hS (fun E ce q9 H locs hxc hV hS hq1 hq2 hq3 => ?_) (fun r_3 u_2 H locs hp_1 hV hS => ?_)
  · have hV : kV G (siteW G S y ++ wr) _ := hV
    refine vx_widen (k := 2) (n := 12) (by decide) (by decide) ?_
    exact vx_out (fun x h => (hx0 x h).elim) hlocks hq1 hq2 hq3 (fun t ht hal => ⟨(), trivial, ⟨⟨hxc.1, by unfold opStitch; rw [kif_t (fun z => hxc.2 z.1)]⟩, kV_eq ht hV⟩, hS.F ht⟩) hS.2.2 (Nat.le_refl _) (Nat.le_refl _)
  · obtain ⟨hp_1a, hp_1b⟩ := hp_1
    subst hp_1b
    have hV : kV G (siteW G S y ++ wr) _ := hV
    obtain ⟨j, hj, rfl⟩ := hp_1a
    have hj2 : j < 2 ^ 31 := by omega
    refine W.eq (g2 := F0 m 5 ls [.ref (yP y j 0)]) (by rw [tn_nI hj2]; rfl) ?_
    have hV : kV G (siteW G S y ++ wr) _ := hV
    have hV : kV G (sHd G S y ++ (patC G S y j ++ (sT G S y (List.range 4) ((List.range (S.1 1 0)).erase j) (List.range (S.1 15 0)) (List.range (S.1 19 0)) ++ wr))) _ := kV_wc hV (fun e => by
      have f0 := sT_p (G := G) (S := S) (y := y) (Lb := (List.range 4)) (Lp := (List.range (S.1 1 0))) (Ll := (List.range (S.1 15 0))) (Lj := (List.range (S.1 19 0))) (k := j) (List.mem_range.mpr (by omega)) e
      unfold siteW; simp only [wc_app]; omega)
    have hV : kV G ([(yH y 0, .inr (6, [.ref (yH y 1), .ref (yH y 2), .ref (yH y 3), .ref (yH y 4), .ref (yH y 5)])), (yH y 5, aR (kcI G) 5 S.2.2), (yH y 1, .inr (0, [.int (yM y 0), .ref (yB y 0), .int (nI (S.1 1 0))])), (yH y 2, .inr (0, [.int (yM y 1), .ref (yB y 1), .int (nI (S.1 11 0))])), (yH y 3, .inr (0, [.int (yM y 2), .ref (yB y 2), .int (nI (S.1 15 0))])), (yH y 4, .inr (0, [.int (yM y 3), .ref (yB y 3), .int (nI (S.1 19 0))])), (yP y j 0, .inr (3, [.int (nI (j)), .int (nI (S.1 2 j)), .int (nI (S.1 4 j)), .ref (yP y j 2), .ref (yP y j 7), .ref (yP y j 1), va_rf (pOr S y j), .int (nI (took S j)), .int (nI (S.1 12 j))])), (yP y j 1, aN (kcZ G) 5 ((pB S j))), (yP y j 2, .inr (4, [.int (nI (S.1 3 j)), .ref (yP y j 3), .ref (yP y j 4), .ref (yP y j 5), .ref (yP y j 6), .int (nI ((pQ S j).1.2.2))])), (yP y j 3, aN (kcI G) 6 ((pQ S j).2.1.1)), (yP y j 4, aN (kcI G) 6 ((pQ S j).2.1.2.1)), (yP y j 5, aZ (kcI G) 6 ((pQ S j).2.1.2.2.1)), (yP y j 6, aN (kcI G) 6 ((pQ S j).2.1.2.2.2)), (yP y j 7, .inr (1, [.int (nI ((pQ S j).1.1)), .ref (yP y j 8), .ref (yP y j 9), .int (nI ((pQ S j).1.2.1))])), (yP y j 8, aN (kcI G) 1600 ((pQ S j).2.2.1)), (yP y j 9, aN (kcI G) 40 ((pQ S j).2.2.2))] ++ (sT G S y (List.range 4) ((List.range (S.1 1 0)).erase j) (List.range (S.1 15 0)) (List.range (S.1 19 0)) ++ wr)) _ := hV
    refine lv_astore (lv' := [(4, .ref (yP y j 0)), (0, .ref (yH y 0)), (1, .int (nI (j))), (2, .int (xr)), (3, .int (xc))]) hx hb dX5_stitch_5 hl (by decide) rfl (fun ls hl => ?_)
    refine lv_aload hx hb dX5_stitch_7 (lv_at hl 0 rfl) ?_
    refine lv_iload_n hx hb dX5_stitch_9 rfl (lv_at hl 3 rfl) ?_
    refine lv_iload_n hx hb dX5_stitch_10 rfl (lv_at hl 4 rfl) ?_
    have hV : kV G ([(yP y j 0, .inr (3, [.int (nI (j)), .int (nI (S.1 2 j)), .int (nI (S.1 4 j)), .ref (yP y j 2), .ref (yP y j 7), .ref (yP y j 1), va_rf (pOr S y j), .int (nI (took S j)), .int (nI (S.1 12 j))])), (yP y j 1, aN (kcZ G) 5 ((pB S j))), (yP y j 2, .inr (4, [.int (nI (S.1 3 j)), .ref (yP y j 3), .ref (yP y j 4), .ref (yP y j 5), .ref (yP y j 6), .int (nI ((pQ S j).1.2.2))])), (yP y j 3, aN (kcI G) 6 ((pQ S j).2.1.1)), (yP y j 4, aN (kcI G) 6 ((pQ S j).2.1.2.1)), (yP y j 5, aZ (kcI G) 6 ((pQ S j).2.1.2.2.1)), (yP y j 6, aN (kcI G) 6 ((pQ S j).2.1.2.2.2)), (yP y j 7, .inr (1, [.int (nI ((pQ S j).1.1)), .ref (yP y j 8), .ref (yP y j 9), .int (nI ((pQ S j).1.2.1))])), (yP y j 8, aN (kcI G) 1600 ((pQ S j).2.2.1)), (yP y j 9, aN (kcI G) 40 ((pQ S j).2.2.2)), (yH y 0, .inr (6, [.ref (yH y 1), .ref (yH y 2), .ref (yH y 3), .ref (yH y 4), .ref (yH y 5)])), (yH y 5, aR (kcI G) 5 S.2.2), (yH y 1, .inr (0, [.int (yM y 0), .ref (yB y 0), .int (nI (S.1 1 0))])), (yH y 2, .inr (0, [.int (yM y 1), .ref (yB y 1), .int (nI (S.1 11 0))])), (yH y 3, .inr (0, [.int (yM y 2), .ref (yB y 2), .int (nI (S.1 15 0))])), (yH y 4, .inr (0, [.int (yM y 3), .ref (yB y 3), .int (nI (S.1 19 0))]))] ++ (sT G S y (List.range 4) ((List.range (S.1 1 0)).erase j) (List.range (S.1 15 0)) (List.range (S.1 19 0)) ++ wr)) _ := kV_part hV [6, 7, 8, 9, 10, 11, 12, 13, 14, 15, 0, 1, 2, 3, 4, 5] rfl rfl
    refine kx_v (vx_runS (As := [.ref (yP y j 0), .int (xr), .int (xc)]) (rest := []) hF (c_X5_checkPlace l hlt G (yP y j 0) (yP y j 1) (yP y j 2) (yP y j 3) (yP y j 4) (yP y j 5) (yP y j 6) (yP y j 7) (yP y j 8) (yP y j 9) j (S.1 2 j) (S.1 4 j) (pOr S y j) (took S j) (S.1 12 j) (S.1 3 j) (pQ S j) ((pB S j)) ([(yH y 0, .inr (6, [.ref (yH y 1), .ref (yH y 2), .ref (yH y 3), .ref (yH y 4), .ref (yH y 5)])), (yH y 5, aR (kcI G) 5 S.2.2), (yH y 1, .inr (0, [.int (yM y 0), .ref (yB y 0), .int (nI (S.1 1 0))])), (yH y 2, .inr (0, [.int (yM y 1), .ref (yB y 1), .int (nI (S.1 11 0))])), (yH y 3, .inr (0, [.int (yM y 2), .ref (yB y 2), .int (nI (S.1 15 0))])), (yH y 4, .inr (0, [.int (yM y 3), .ref (yB y 3), .int (nI (S.1 19 0))]))] ++ (sT G S y (List.range 4) ((List.range (S.1 1 0)).erase j) (List.range (S.1 15 0)) (List.range (S.1 19 0)) ++ wr)) xr xc (by rw [pQ_r]; exact (h2 j hj).1.2.2.2.1)) (va_cwS 3 hts gX5_stitch_X5_checkPlace rfl rfl rfl (by decide +kernel) ⟨Nat.le_of_ble_eq_true rfl, Nat.le_of_ble_eq_true rfl⟩) (kPreS hE hS hV) rfl rfl hl.1 rfl (lv_room (Nat.le_of_ble_eq_true rfl)) dX5_stitch_11 ⟨Nat.le_of_ble_eq_true rfl, Nat.le_of_ble_eq_true rfl⟩) hS (fun E ce q9 H locs hxc hV hS hq1 hq2 hq3 => ?_) (fun u_5 H locs hp_4 hV hS => ?_)
    · have hV : kV G ([(yP y j 0, .inr (3, [.int (nI (j)), .int (nI (S.1 2 j)), .int (nI (S.1 4 j)), .ref (yP y j 2), .ref (yP y j 7), .ref (yP y j 1), va_rf (pOr S y j), .int (nI (took S j)), .int (nI (S.1 12 j))])), (yP y j 1, aN (kcZ G) 5 ((pB S j))), (yP y j 2, .inr (4, [.int (nI (S.1 3 j)), .ref (yP y j 3), .ref (yP y j 4), .ref (yP y j 5), .ref (yP y j 6), .int (nI ((pQ S j).1.2.2))])), (yP y j 3, aN (kcI G) 6 ((pQ S j).2.1.1)), (yP y j 4, aN (kcI G) 6 ((pQ S j).2.1.2.1)), (yP y j 5, aZ (kcI G) 6 ((pQ S j).2.1.2.2.1)), (yP y j 6, aN (kcI G) 6 ((pQ S j).2.1.2.2.2)), (yP y j 7, .inr (1, [.int (nI ((pQ S j).1.1)), .ref (yP y j 8), .ref (yP y j 9), .int (nI ((pQ S j).1.2.1))])), (yP y j 8, aN (kcI G) 1600 ((pQ S j).2.2.1)), (yP y j 9, aN (kcI G) 40 ((pQ S j).2.2.2)), (yH y 0, .inr (6, [.ref (yH y 1), .ref (yH y 2), .ref (yH y 3), .ref (yH y 4), .ref (yH y 5)])), (yH y 5, aR (kcI G) 5 S.2.2), (yH y 1, .inr (0, [.int (yM y 0), .ref (yB y 0), .int (nI (S.1 1 0))])), (yH y 2, .inr (0, [.int (yM y 1), .ref (yB y 1), .int (nI (S.1 11 0))])), (yH y 3, .inr (0, [.int (yM y 2), .ref (yB y 2), .int (nI (S.1 15 0))])), (yH y 4, .inr (0, [.int (yM y 3), .ref (yB y 3), .int (nI (S.1 19 0))]))] ++ (sT G S y (List.range 4) ((List.range (S.1 1 0)).erase j) (List.range (S.1 15 0)) (List.range (S.1 19 0)) ++ wr)) _ := hV
      have hV : kV G ([(yH y 0, .inr (6, [.ref (yH y 1), .ref (yH y 2), .ref (yH y 3), .ref (yH y 4), .ref (yH y 5)])), (yH y 5, aR (kcI G) 5 S.2.2), (yH y 1, .inr (0, [.int (yM y 0), .ref (yB y 0), .int (nI (S.1 1 0))])), (yH y 2, .inr (0, [.int (yM y 1), .ref (yB y 1), .int (nI (S.1 11 0))])), (yH y 3, .inr (0, [.int (yM y 2), .ref (yB y 2), .int (nI (S.1 15 0))])), (yH y 4, .inr (0, [.int (yM y 3), .ref (yB y 3), .int (nI (S.1 19 0))])), (yP y j 0, .inr (3, [.int (nI (j)), .int (nI (S.1 2 j)), .int (nI (S.1 4 j)), .ref (yP y j 2), .ref (yP y j 7), .ref (yP y j 1), va_rf (pOr S y j), .int (nI (took S j)), .int (nI (S.1 12 j))])), (yP y j 1, aN (kcZ G) 5 ((pB S j))), (yP y j 2, .inr (4, [.int (nI (S.1 3 j)), .ref (yP y j 3), .ref (yP y j 4), .ref (yP y j 5), .ref (yP y j 6), .int (nI ((pQ S j).1.2.2))])), (yP y j 3, aN (kcI G) 6 ((pQ S j).2.1.1)), (yP y j 4, aN (kcI G) 6 ((pQ S j).2.1.2.1)), (yP y j 5, aZ (kcI G) 6 ((pQ S j).2.1.2.2.1)), (yP y j 6, aN (kcI G) 6 ((pQ S j).2.1.2.2.2)), (yP y j 7, .inr (1, [.int (nI ((pQ S j).1.1)), .ref (yP y j 8), .ref (yP y j 9), .int (nI ((pQ S j).1.2.1))])), (yP y j 8, aN (kcI G) 1600 ((pQ S j).2.2.1)), (yP y j 9, aN (kcI G) 40 ((pQ S j).2.2.2))] ++ (sT G S y (List.range 4) ((List.range (S.1 1 0)).erase j) (List.range (S.1 15 0)) (List.range (S.1 19 0)) ++ wr)) _ := kV_part hV [10, 11, 12, 13, 14, 15, 0, 1, 2, 3, 4, 5, 6, 7, 8, 9] rfl rfl
      have hV : kV G (sHd G S y ++ (patC G S y j ++ (sT G S y (List.range 4) ((List.range (S.1 1 0)).erase j) (List.range (S.1 15 0)) (List.range (S.1 19 0)) ++ wr))) _ := hV
      have hV : kV G (siteW G S y ++ wr) _ := kV_wc hV (fun e => by
        have f0 := sT_p (G := G) (S := S) (y := y) (Lb := (List.range 4)) (Lp := (List.range (S.1 1 0))) (Ll := (List.range (S.1 15 0))) (Lj := (List.range (S.1 19 0))) (k := j) (List.mem_range.mpr (by omega)) e
        unfold siteW; simp only [wc_app]; omega)
      exact vx_out (fun x h => (hx0 x h).elim) hlocks hq1 hq2 hq3 (fun t ht hal => ⟨(), trivial, ⟨⟨hxc.1, by unfold opStitch; rw [tn_nI hj2, kif_t (fun z => hxc.2 (by rw [pQ_r]; exact z.2))]⟩, kV_eq ht hV⟩, hS.F ht⟩) hS.2.2 (Nat.le_refl _) (Nat.le_refl _)
    · have hV : kV G ([(yP y j 0, .inr (3, [.int (nI (j)), .int (nI (S.1 2 j)), .int (nI (S.1 4 j)), .ref (yP y j 2), .ref (yP y j 7), .ref (yP y j 1), va_rf (pOr S y j), .int (nI (took S j)), .int (nI (S.1 12 j))])), (yP y j 1, aN (kcZ G) 5 ((pB S j))), (yP y j 2, .inr (4, [.int (nI (S.1 3 j)), .ref (yP y j 3), .ref (yP y j 4), .ref (yP y j 5), .ref (yP y j 6), .int (nI ((pQ S j).1.2.2))])), (yP y j 3, aN (kcI G) 6 ((pQ S j).2.1.1)), (yP y j 4, aN (kcI G) 6 ((pQ S j).2.1.2.1)), (yP y j 5, aZ (kcI G) 6 ((pQ S j).2.1.2.2.1)), (yP y j 6, aN (kcI G) 6 ((pQ S j).2.1.2.2.2)), (yP y j 7, .inr (1, [.int (nI ((pQ S j).1.1)), .ref (yP y j 8), .ref (yP y j 9), .int (nI ((pQ S j).1.2.1))])), (yP y j 8, aN (kcI G) 1600 ((pQ S j).2.2.1)), (yP y j 9, aN (kcI G) 40 ((pQ S j).2.2.2)), (yH y 0, .inr (6, [.ref (yH y 1), .ref (yH y 2), .ref (yH y 3), .ref (yH y 4), .ref (yH y 5)])), (yH y 5, aR (kcI G) 5 S.2.2), (yH y 1, .inr (0, [.int (yM y 0), .ref (yB y 0), .int (nI (S.1 1 0))])), (yH y 2, .inr (0, [.int (yM y 1), .ref (yB y 1), .int (nI (S.1 11 0))])), (yH y 3, .inr (0, [.int (yM y 2), .ref (yB y 2), .int (nI (S.1 15 0))])), (yH y 4, .inr (0, [.int (yM y 3), .ref (yB y 3), .int (nI (S.1 19 0))]))] ++ (sT G S y (List.range 4) ((List.range (S.1 1 0)).erase j) (List.range (S.1 15 0)) (List.range (S.1 19 0)) ++ wr)) _ := hV
      obtain ⟨⟨k, hk, rfl⟩, hc9⟩ := hp_4
      obtain ⟨mm, hmm, rfl⟩ := i_nat hc9
      rw [pQ_r] at hk
      have hok := (h2 j hj).1
      have hrw := hok.2.2.2.1
      have hk2 : k < 2 ^ 31 := by omega
      have hcn9 : isIn (nI j) (S.1 1 0) ∧ isIn (nI k) (pRows S (tn (nI j))) ∧ 0 ≤ nI mm := ⟨isIn_nI hj, by rw [tn_nI hj2]; exact isIn_nI hk, hc9⟩
      refine lv_aload hx hb dX5_stitch_14 (lv_at hl 0 rfl) ?_
      refine va_get (D := kD G) (ci := 3) (v := .ref (yP y j 7)) (C := RX2) (T := TX2) (N := 9) hx hb hts hinX2 hown hK hV.1 0 rfl rfl 4 (by decide) (hts (Cond.fieldLink RX5 78 "Yarncourt$Pattern" "chart" "LYarncourt$Chart;") (List.mem_of_getElem? (i := 1) rfl)) (fun _ h9 => h9) rfl dX5_stitch_16 ?_
      refine lv_iload_n hx hb dX5_stitch_19 rfl (lv_at hl 3 rfl) ?_
      refine lv_iload_n hx hb dX5_stitch_20 rfl (lv_at hl 4 rfl) ?_
      have hV : kV G ([(yP y j 7, .inr (1, [.int (nI ((pQ S j).1.1)), .ref (yP y j 8), .ref (yP y j 9), .int (nI ((pQ S j).1.2.1))])), (yP y j 8, aN (kcI G) 1600 ((pQ S j).2.2.1)), (yP y j 9, aN (kcI G) 40 ((pQ S j).2.2.2)), (yP y j 0, .inr (3, [.int (nI (j)), .int (nI (S.1 2 j)), .int (nI (S.1 4 j)), .ref (yP y j 2), .ref (yP y j 7), .ref (yP y j 1), va_rf (pOr S y j), .int (nI (took S j)), .int (nI (S.1 12 j))])), (yP y j 1, aN (kcZ G) 5 ((pB S j))), (yP y j 2, .inr (4, [.int (nI (S.1 3 j)), .ref (yP y j 3), .ref (yP y j 4), .ref (yP y j 5), .ref (yP y j 6), .int (nI ((pQ S j).1.2.2))])), (yP y j 3, aN (kcI G) 6 ((pQ S j).2.1.1)), (yP y j 4, aN (kcI G) 6 ((pQ S j).2.1.2.1)), (yP y j 5, aZ (kcI G) 6 ((pQ S j).2.1.2.2.1)), (yP y j 6, aN (kcI G) 6 ((pQ S j).2.1.2.2.2)), (yH y 0, .inr (6, [.ref (yH y 1), .ref (yH y 2), .ref (yH y 3), .ref (yH y 4), .ref (yH y 5)])), (yH y 5, aR (kcI G) 5 S.2.2), (yH y 1, .inr (0, [.int (yM y 0), .ref (yB y 0), .int (nI (S.1 1 0))])), (yH y 2, .inr (0, [.int (yM y 1), .ref (yB y 1), .int (nI (S.1 11 0))])), (yH y 3, .inr (0, [.int (yM y 2), .ref (yB y 2), .int (nI (S.1 15 0))])), (yH y 4, .inr (0, [.int (yM y 3), .ref (yB y 3), .int (nI (S.1 19 0))]))] ++ (sT G S y (List.range 4) ((List.range (S.1 1 0)).erase j) (List.range (S.1 15 0)) (List.range (S.1 19 0)) ++ wr)) _ := kV_part hV [7, 8, 9, 0, 1, 2, 3, 4, 5, 6, 10, 11, 12, 13, 14, 15] rfl rfl
      refine kc_i (va_runV (As := [.int (nI (k)), .int (nI (mm))]) (rest := []) hF (c_X0_stitchAt l G (yP y j 7) (yP y j 8) (yP y j 9) ((pQ S j).1.1) ((pQ S j).1.2.1) ((pQ S j).2.2.1) ((pQ S j).2.2.2) ([(yP y j 0, .inr (3, [.int (nI (j)), .int (nI (S.1 2 j)), .int (nI (S.1 4 j)), .ref (yP y j 2), .ref (yP y j 7), .ref (yP y j 1), va_rf (pOr S y j), .int (nI (took S j)), .int (nI (S.1 12 j))])), (yP y j 1, aN (kcZ G) 5 ((pB S j))), (yP y j 2, .inr (4, [.int (nI (S.1 3 j)), .ref (yP y j 3), .ref (yP y j 4), .ref (yP y j 5), .ref (yP y j 6), .int (nI ((pQ S j).1.2.2))])), (yP y j 3, aN (kcI G) 6 ((pQ S j).2.1.1)), (yP y j 4, aN (kcI G) 6 ((pQ S j).2.1.2.1)), (yP y j 5, aZ (kcI G) 6 ((pQ S j).2.1.2.2.1)), (yP y j 6, aN (kcI G) 6 ((pQ S j).2.1.2.2.2)), (yH y 0, .inr (6, [.ref (yH y 1), .ref (yH y 2), .ref (yH y 3), .ref (yH y 4), .ref (yH y 5)])), (yH y 5, aR (kcI G) 5 S.2.2), (yH y 1, .inr (0, [.int (yM y 0), .ref (yB y 0), .int (nI (S.1 1 0))])), (yH y 2, .inr (0, [.int (yM y 1), .ref (yB y 1), .int (nI (S.1 11 0))])), (yH y 3, .inr (0, [.int (yM y 2), .ref (yB y 2), .int (nI (S.1 15 0))])), (yH y 4, .inr (0, [.int (yM y 3), .ref (yB y 3), .int (nI (S.1 19 0))]))] ++ (sT G S y (List.range 4) ((List.range (S.1 1 0)).erase j) (List.range (S.1 15 0)) (List.range (S.1 19 0)) ++ wr)) k mm (by omega) hmm) (cwV 2 hts gX5_stitch_X0_stitchAt rfl rfl rfl (by decide +kernel) ⟨Nat.le_of_ble_eq_true rfl, Nat.le_of_ble_eq_true rfl⟩) (kPreV hE hS hV 0 rfl rfl) rfl rfl hl.1 rfl (lv_room (Nat.le_of_ble_eq_true rfl)) dX5_stitch_21 ⟨Nat.le_of_ble_eq_true rfl, Nat.le_of_ble_eq_true rfl⟩) hS (fun r_9 u_8 H locs hp_7 hV hS => ?_)
      subst hp_7
      have hV : kV G ([(yP y j 7, .inr (1, [.int (nI ((pQ S j).1.1)), .ref (yP y j 8), .ref (yP y j 9), .int (nI ((pQ S j).1.2.1))])), (yP y j 8, aN (kcI G) 1600 ((pQ S j).2.2.1)), (yP y j 9, aN (kcI G) 40 ((pQ S j).2.2.2)), (yP y j 0, .inr (3, [.int (nI (j)), .int (nI (S.1 2 j)), .int (nI (S.1 4 j)), .ref (yP y j 2), .ref (yP y j 7), .ref (yP y j 1), va_rf (pOr S y j), .int (nI (took S j)), .int (nI (S.1 12 j))])), (yP y j 1, aN (kcZ G) 5 ((pB S j))), (yP y j 2, .inr (4, [.int (nI (S.1 3 j)), .ref (yP y j 3), .ref (yP y j 4), .ref (yP y j 5), .ref (yP y j 6), .int (nI ((pQ S j).1.2.2))])), (yP y j 3, aN (kcI G) 6 ((pQ S j).2.1.1)), (yP y j 4, aN (kcI G) 6 ((pQ S j).2.1.2.1)), (yP y j 5, aZ (kcI G) 6 ((pQ S j).2.1.2.2.1)), (yP y j 6, aN (kcI G) 6 ((pQ S j).2.1.2.2.2)), (yH y 0, .inr (6, [.ref (yH y 1), .ref (yH y 2), .ref (yH y 3), .ref (yH y 4), .ref (yH y 5)])), (yH y 5, aR (kcI G) 5 S.2.2), (yH y 1, .inr (0, [.int (yM y 0), .ref (yB y 0), .int (nI (S.1 1 0))])), (yH y 2, .inr (0, [.int (yM y 1), .ref (yB y 1), .int (nI (S.1 11 0))])), (yH y 3, .inr (0, [.int (yM y 2), .ref (yB y 2), .int (nI (S.1 15 0))])), (yH y 4, .inr (0, [.int (yM y 3), .ref (yB y 3), .int (nI (S.1 19 0))]))] ++ (sT G S y (List.range 4) ((List.range (S.1 1 0)).erase j) (List.range (S.1 15 0)) (List.range (S.1 19 0)) ++ wr)) _ := hV
      have hV : kV G ([(yH y 0, .inr (6, [.ref (yH y 1), .ref (yH y 2), .ref (yH y 3), .ref (yH y 4), .ref (yH y 5)])), (yH y 5, aR (kcI G) 5 S.2.2), (yH y 1, .inr (0, [.int (yM y 0), .ref (yB y 0), .int (nI (S.1 1 0))])), (yH y 2, .inr (0, [.int (yM y 1), .ref (yB y 1), .int (nI (S.1 11 0))])), (yH y 3, .inr (0, [.int (yM y 2), .ref (yB y 2), .int (nI (S.1 15 0))])), (yH y 4, .inr (0, [.int (yM y 3), .ref (yB y 3), .int (nI (S.1 19 0))])), (yP y j 0, .inr (3, [.int (nI (j)), .int (nI (S.1 2 j)), .int (nI (S.1 4 j)), .ref (yP y j 2), .ref (yP y j 7), .ref (yP y j 1), va_rf (pOr S y j), .int (nI (took S j)), .int (nI (S.1 12 j))])), (yP y j 1, aN (kcZ G) 5 ((pB S j))), (yP y j 2, .inr (4, [.int (nI (S.1 3 j)), .ref (yP y j 3), .ref (yP y j 4), .ref (yP y j 5), .ref (yP y j 6), .int (nI ((pQ S j).1.2.2))])), (yP y j 3, aN (kcI G) 6 ((pQ S j).2.1.1)), (yP y j 4, aN (kcI G) 6 ((pQ S j).2.1.2.1)), (yP y j 5, aZ (kcI G) 6 ((pQ S j).2.1.2.2.1)), (yP y j 6, aN (kcI G) 6 ((pQ S j).2.1.2.2.2)), (yP y j 7, .inr (1, [.int (nI ((pQ S j).1.1)), .ref (yP y j 8), .ref (yP y j 9), .int (nI ((pQ S j).1.2.1))])), (yP y j 8, aN (kcI G) 1600 ((pQ S j).2.2.1)), (yP y j 9, aN (kcI G) 40 ((pQ S j).2.2.2))] ++ (sT G S y (List.range 4) ((List.range (S.1 1 0)).erase j) (List.range (S.1 15 0)) (List.range (S.1 19 0)) ++ wr)) _ := kV_part hV [10, 11, 12, 13, 14, 15, 3, 4, 5, 6, 7, 8, 9, 0, 1, 2] rfl rfl
      have hV : kV G (sHd G S y ++ (patC G S y j ++ (sT G S y (List.range 4) ((List.range (S.1 1 0)).erase j) (List.range (S.1 15 0)) (List.range (S.1 19 0)) ++ wr))) _ := hV
      have hV : kV G (siteW G S y ++ wr) _ := kV_wc hV (fun e => by
        have f0 := sT_p (G := G) (S := S) (y := y) (Lb := (List.range 4)) (Lp := (List.range (S.1 1 0))) (Ll := (List.range (S.1 15 0))) (Lj := (List.range (S.1 19 0))) (k := j) (List.mem_range.mpr (by omega)) e
        unfold siteW; simp only [wc_app]; omega)
      have hop : opStitch S (nI j) (nI k) (nI mm) = (0, nI (pSt S j k mm), S) := by
        unfold opStitch
        rw [kif_f (fun z => z hcn9), tn_nI hj2, tn_nI hk2, tn_nI hmm]
      refine vx_ret ?_
      exact W.iret (v := nI (if mm < 40 then ((pQ S j).2.2.1) (k * 40 + mm) else 0)) hx hb hrt (fun t ht hW => ⟨⟨_, y, rfl, (by rw [hop]; exact ⟨rfl, (by rw [st_ans hok hk]), hY, rfl⟩), kV_eq ht (show kV G (siteW G (opStitch S (nI j) (nI k) (nI mm)).2.2 y ++ wr) _ by rw [hop]; exact hV)⟩, hS.F ht⟩) hS.2.2 dX5_stitch_24
set_option maxHeartbeats 4000000 in
set_option maxRecDepth 100000 in
theorem c_X5_stitchByWork (l : Launch) (hlt : l.stackTraces = false) (G : kG) (S : kS) (y : kY) (wr : va_W) (x : Int32) (xr : Int32) (xc : Int32) (hI : kInv S) (hY : yI G S y) : vx_Met l yX5_stitchByWork wsX5_stitchByWork ({ frames := 7, cells := 2, slots := 12, locals := 112 } : Room) (kPc G [.ref (yH y 0), .int (x), .int (xr), .int (xc)] (siteW G S y ++ wr)) (kQi G (S := kY) (fun z y2 => (opStitch S x xr xc).1 = 0 ∧ z = (opStitch S x xr xc).2.1 ∧ yI G (opStitch S x xr xc).2.2 y2 ∧ yH y2 0 = yH y 0) (fun y2 => siteW G (opStitch S x xr xc).2.2 y2 ++ wr)) (kXC G (xI (opStitch S x xr xc)) (siteW G S y ++ wr)) 2 12 (kA G) := by
  refine vx_ofW (cc := cX5_stitchByWork) (maxL := 5) (ret := (some .int)) (by decide) rfl ?_
  intro pp ee s m args below meth cc0 s₁ Bd0 hml hx0 hv
  obtain ⟨rfl, hE, hV⟩ := hv
  have hK := hE.1
  have hx := Bd0.exec
  have hb := Bd0.bytes
  have hrt := Bd0.returns
  have hts := atoms_spec (ws := wsX5_stitchByWork) Bd0.pre
  have hown : s.vm.findClass RX5 = some m.cls := findClass_of_methodNamed Bd0.named
  have hlocks := Bd0.notSynchronized
  have hF : CallFix pp m cc0 cX5_stitchByWork 5 s _ wsX5_stitchByWork RX5 := ⟨hx, hb, hml, hown, hts⟩
  have hinX2 : ∀ w ∈ wsX20, w ∈ wsX5_stitchByWork := tb_of [66, 67, 68, 69, 70, 71, 72, 73, 74] rfl
  have hS : va_S (kA G) s.heap s.heap [] := va_S.rf
  have hB0 := hE.2.1
  have hl := lv_entry ([.ref (yH y 0), .int (x), .int (xr), .int (xc)]) (n := 5) (Nat.le_of_ble_eq_true rfl)
  rw [lg_entry_eq]
  generalize (lg_sl ([.ref (yH y 0), .int (x), .int (xr), .int (xc)]) ++ List.replicate (5 - (lg_sl ([.ref (yH y 0), .int (x), .int (xr), .int (xc)])).length) Slot.unset).toArray = ls at hl ⊢
  have hl : lv_has ls 5 [(0, .ref (yH y 0)), (1, .int (x)), (2, .int (xr)), (3, .int (xc))] := hl
  obtain ⟨h1, h2, h3, h4, h5, h6, h7, h8⟩ := id hI
  refine lv_aload_n hx hb dX5_stitchByWork_0 rfl (lv_at hl 0 rfl) ?_
  refine lv_iload_n hx hb dX5_stitchByWork_1 rfl (lv_at hl 1 rfl) ?_
  refine kx_q (vx_runV (As := [.int (x)]) (rest := []) hF (c_X5_patternAt l hlt G S y wr x hI hY) (cwV 1 hts gX5_stitchByWork_X5_patternAt rfl rfl rfl (by decide +kernel) ⟨Nat.le_of_ble_eq_true rfl, Nat.le_of_ble_eq_true rfl⟩) (kPreV hE hS hV 0 rfl rfl) rfl rfl hl.1 rfl (lv_room (Nat.le_of_ble_eq_true rfl)) dX5_stitchByWork_2 ⟨Nat.le_of_ble_eq_true rfl, Nat.le_of_ble_eq_true rfl⟩) hS (fun E ce q9 H locs hxc hV hS hq1 hq2 hq3 => ?_) (fun r_3 u_2 H locs hp_1 hV hS => ?_)
  · have hV : kV G (siteW G S y ++ wr) _ := hV
    refine vx_widen (k := 2) (n := 12) (by decide) (by decide) ?_
    exact vx_out (fun x h => (hx0 x h).elim) hlocks hq1 hq2 hq3 (fun t ht hal => ⟨(), trivial, ⟨⟨hxc.1, by unfold opStitch; rw [kif_t (fun z => hxc.2 z.1)]⟩, kV_eq ht hV⟩, hS.F ht⟩) hS.2.2 (Nat.le_refl _) (Nat.le_refl _)
  · obtain ⟨hp_1a, hp_1b⟩ := hp_1
    subst hp_1b
    have hV : kV G (siteW G S y ++ wr) _ := hV
    obtain ⟨j, hj, rfl⟩ := hp_1a
    have hj2 : j < 2 ^ 31 := by omega
    refine W.eq (g2 := F0 m 5 ls [.ref (yP y j 0)]) (by rw [tn_nI hj2]; rfl) ?_
    have hV : kV G (siteW G S y ++ wr) _ := hV
    have hV : kV G (sHd G S y ++ (patC G S y j ++ (sT G S y (List.range 4) ((List.range (S.1 1 0)).erase j) (List.range (S.1 15 0)) (List.range (S.1 19 0)) ++ wr))) _ := kV_wc hV (fun e => by
      have f0 := sT_p (G := G) (S := S) (y := y) (Lb := (List.range 4)) (Lp := (List.range (S.1 1 0))) (Ll := (List.range (S.1 15 0))) (Lj := (List.range (S.1 19 0))) (k := j) (List.mem_range.mpr (by omega)) e
      unfold siteW; simp only [wc_app]; omega)
    have hV : kV G ([(yH y 0, .inr (6, [.ref (yH y 1), .ref (yH y 2), .ref (yH y 3), .ref (yH y 4), .ref (yH y 5)])), (yH y 5, aR (kcI G) 5 S.2.2), (yH y 1, .inr (0, [.int (yM y 0), .ref (yB y 0), .int (nI (S.1 1 0))])), (yH y 2, .inr (0, [.int (yM y 1), .ref (yB y 1), .int (nI (S.1 11 0))])), (yH y 3, .inr (0, [.int (yM y 2), .ref (yB y 2), .int (nI (S.1 15 0))])), (yH y 4, .inr (0, [.int (yM y 3), .ref (yB y 3), .int (nI (S.1 19 0))])), (yP y j 0, .inr (3, [.int (nI (j)), .int (nI (S.1 2 j)), .int (nI (S.1 4 j)), .ref (yP y j 2), .ref (yP y j 7), .ref (yP y j 1), va_rf (pOr S y j), .int (nI (took S j)), .int (nI (S.1 12 j))])), (yP y j 1, aN (kcZ G) 5 ((pB S j))), (yP y j 2, .inr (4, [.int (nI (S.1 3 j)), .ref (yP y j 3), .ref (yP y j 4), .ref (yP y j 5), .ref (yP y j 6), .int (nI ((pQ S j).1.2.2))])), (yP y j 3, aN (kcI G) 6 ((pQ S j).2.1.1)), (yP y j 4, aN (kcI G) 6 ((pQ S j).2.1.2.1)), (yP y j 5, aZ (kcI G) 6 ((pQ S j).2.1.2.2.1)), (yP y j 6, aN (kcI G) 6 ((pQ S j).2.1.2.2.2)), (yP y j 7, .inr (1, [.int (nI ((pQ S j).1.1)), .ref (yP y j 8), .ref (yP y j 9), .int (nI ((pQ S j).1.2.1))])), (yP y j 8, aN (kcI G) 1600 ((pQ S j).2.2.1)), (yP y j 9, aN (kcI G) 40 ((pQ S j).2.2.2))] ++ (sT G S y (List.range 4) ((List.range (S.1 1 0)).erase j) (List.range (S.1 15 0)) (List.range (S.1 19 0)) ++ wr)) _ := hV
    refine lv_astore (lv' := [(4, .ref (yP y j 0)), (0, .ref (yH y 0)), (1, .int (nI (j))), (2, .int (xr)), (3, .int (xc))]) hx hb dX5_stitchByWork_5 hl (by decide) rfl (fun ls hl => ?_)
    refine lv_aload hx hb dX5_stitchByWork_7 (lv_at hl 0 rfl) ?_
    refine lv_iload_n hx hb dX5_stitchByWork_9 rfl (lv_at hl 3 rfl) ?_
    refine lv_iload_n hx hb dX5_stitchByWork_10 rfl (lv_at hl 4 rfl) ?_
    have hV : kV G ([(yP y j 0, .inr (3, [.int (nI (j)), .int (nI (S.1 2 j)), .int (nI (S.1 4 j)), .ref (yP y j 2), .ref (yP y j 7), .ref (yP y j 1), va_rf (pOr S y j), .int (nI (took S j)), .int (nI (S.1 12 j))])), (yP y j 1, aN (kcZ G) 5 ((pB S j))), (yP y j 2, .inr (4, [.int (nI (S.1 3 j)), .ref (yP y j 3), .ref (yP y j 4), .ref (yP y j 5), .ref (yP y j 6), .int (nI ((pQ S j).1.2.2))])), (yP y j 3, aN (kcI G) 6 ((pQ S j).2.1.1)), (yP y j 4, aN (kcI G) 6 ((pQ S j).2.1.2.1)), (yP y j 5, aZ (kcI G) 6 ((pQ S j).2.1.2.2.1)), (yP y j 6, aN (kcI G) 6 ((pQ S j).2.1.2.2.2)), (yP y j 7, .inr (1, [.int (nI ((pQ S j).1.1)), .ref (yP y j 8), .ref (yP y j 9), .int (nI ((pQ S j).1.2.1))])), (yP y j 8, aN (kcI G) 1600 ((pQ S j).2.2.1)), (yP y j 9, aN (kcI G) 40 ((pQ S j).2.2.2)), (yH y 0, .inr (6, [.ref (yH y 1), .ref (yH y 2), .ref (yH y 3), .ref (yH y 4), .ref (yH y 5)])), (yH y 5, aR (kcI G) 5 S.2.2), (yH y 1, .inr (0, [.int (yM y 0), .ref (yB y 0), .int (nI (S.1 1 0))])), (yH y 2, .inr (0, [.int (yM y 1), .ref (yB y 1), .int (nI (S.1 11 0))])), (yH y 3, .inr (0, [.int (yM y 2), .ref (yB y 2), .int (nI (S.1 15 0))])), (yH y 4, .inr (0, [.int (yM y 3), .ref (yB y 3), .int (nI (S.1 19 0))]))] ++ (sT G S y (List.range 4) ((List.range (S.1 1 0)).erase j) (List.range (S.1 15 0)) (List.range (S.1 19 0)) ++ wr)) _ := kV_part hV [6, 7, 8, 9, 10, 11, 12, 13, 14, 15, 0, 1, 2, 3, 4, 5] rfl rfl
    refine kx_v (vx_runS (As := [.ref (yP y j 0), .int (xr), .int (xc)]) (rest := []) hF (c_X5_checkPlace l hlt G (yP y j 0) (yP y j 1) (yP y j 2) (yP y j 3) (yP y j 4) (yP y j 5) (yP y j 6) (yP y j 7) (yP y j 8) (yP y j 9) j (S.1 2 j) (S.1 4 j) (pOr S y j) (took S j) (S.1 12 j) (S.1 3 j) (pQ S j) ((pB S j)) ([(yH y 0, .inr (6, [.ref (yH y 1), .ref (yH y 2), .ref (yH y 3), .ref (yH y 4), .ref (yH y 5)])), (yH y 5, aR (kcI G) 5 S.2.2), (yH y 1, .inr (0, [.int (yM y 0), .ref (yB y 0), .int (nI (S.1 1 0))])), (yH y 2, .inr (0, [.int (yM y 1), .ref (yB y 1), .int (nI (S.1 11 0))])), (yH y 3, .inr (0, [.int (yM y 2), .ref (yB y 2), .int (nI (S.1 15 0))])), (yH y 4, .inr (0, [.int (yM y 3), .ref (yB y 3), .int (nI (S.1 19 0))]))] ++ (sT G S y (List.range 4) ((List.range (S.1 1 0)).erase j) (List.range (S.1 15 0)) (List.range (S.1 19 0)) ++ wr)) xr xc (by rw [pQ_r]; exact (h2 j hj).1.2.2.2.1)) (va_cwS 3 hts gX5_stitchByWork_X5_checkPlace rfl rfl rfl (by decide +kernel) ⟨Nat.le_of_ble_eq_true rfl, Nat.le_of_ble_eq_true rfl⟩) (kPreS hE hS hV) rfl rfl hl.1 rfl (lv_room (Nat.le_of_ble_eq_true rfl)) dX5_stitchByWork_11 ⟨Nat.le_of_ble_eq_true rfl, Nat.le_of_ble_eq_true rfl⟩) hS (fun E ce q9 H locs hxc hV hS hq1 hq2 hq3 => ?_) (fun u_5 H locs hp_4 hV hS => ?_)
    · have hV : kV G ([(yP y j 0, .inr (3, [.int (nI (j)), .int (nI (S.1 2 j)), .int (nI (S.1 4 j)), .ref (yP y j 2), .ref (yP y j 7), .ref (yP y j 1), va_rf (pOr S y j), .int (nI (took S j)), .int (nI (S.1 12 j))])), (yP y j 1, aN (kcZ G) 5 ((pB S j))), (yP y j 2, .inr (4, [.int (nI (S.1 3 j)), .ref (yP y j 3), .ref (yP y j 4), .ref (yP y j 5), .ref (yP y j 6), .int (nI ((pQ S j).1.2.2))])), (yP y j 3, aN (kcI G) 6 ((pQ S j).2.1.1)), (yP y j 4, aN (kcI G) 6 ((pQ S j).2.1.2.1)), (yP y j 5, aZ (kcI G) 6 ((pQ S j).2.1.2.2.1)), (yP y j 6, aN (kcI G) 6 ((pQ S j).2.1.2.2.2)), (yP y j 7, .inr (1, [.int (nI ((pQ S j).1.1)), .ref (yP y j 8), .ref (yP y j 9), .int (nI ((pQ S j).1.2.1))])), (yP y j 8, aN (kcI G) 1600 ((pQ S j).2.2.1)), (yP y j 9, aN (kcI G) 40 ((pQ S j).2.2.2)), (yH y 0, .inr (6, [.ref (yH y 1), .ref (yH y 2), .ref (yH y 3), .ref (yH y 4), .ref (yH y 5)])), (yH y 5, aR (kcI G) 5 S.2.2), (yH y 1, .inr (0, [.int (yM y 0), .ref (yB y 0), .int (nI (S.1 1 0))])), (yH y 2, .inr (0, [.int (yM y 1), .ref (yB y 1), .int (nI (S.1 11 0))])), (yH y 3, .inr (0, [.int (yM y 2), .ref (yB y 2), .int (nI (S.1 15 0))])), (yH y 4, .inr (0, [.int (yM y 3), .ref (yB y 3), .int (nI (S.1 19 0))]))] ++ (sT G S y (List.range 4) ((List.range (S.1 1 0)).erase j) (List.range (S.1 15 0)) (List.range (S.1 19 0)) ++ wr)) _ := hV
      have hV : kV G ([(yH y 0, .inr (6, [.ref (yH y 1), .ref (yH y 2), .ref (yH y 3), .ref (yH y 4), .ref (yH y 5)])), (yH y 5, aR (kcI G) 5 S.2.2), (yH y 1, .inr (0, [.int (yM y 0), .ref (yB y 0), .int (nI (S.1 1 0))])), (yH y 2, .inr (0, [.int (yM y 1), .ref (yB y 1), .int (nI (S.1 11 0))])), (yH y 3, .inr (0, [.int (yM y 2), .ref (yB y 2), .int (nI (S.1 15 0))])), (yH y 4, .inr (0, [.int (yM y 3), .ref (yB y 3), .int (nI (S.1 19 0))])), (yP y j 0, .inr (3, [.int (nI (j)), .int (nI (S.1 2 j)), .int (nI (S.1 4 j)), .ref (yP y j 2), .ref (yP y j 7), .ref (yP y j 1), va_rf (pOr S y j), .int (nI (took S j)), .int (nI (S.1 12 j))])), (yP y j 1, aN (kcZ G) 5 ((pB S j))), (yP y j 2, .inr (4, [.int (nI (S.1 3 j)), .ref (yP y j 3), .ref (yP y j 4), .ref (yP y j 5), .ref (yP y j 6), .int (nI ((pQ S j).1.2.2))])), (yP y j 3, aN (kcI G) 6 ((pQ S j).2.1.1)), (yP y j 4, aN (kcI G) 6 ((pQ S j).2.1.2.1)), (yP y j 5, aZ (kcI G) 6 ((pQ S j).2.1.2.2.1)), (yP y j 6, aN (kcI G) 6 ((pQ S j).2.1.2.2.2)), (yP y j 7, .inr (1, [.int (nI ((pQ S j).1.1)), .ref (yP y j 8), .ref (yP y j 9), .int (nI ((pQ S j).1.2.1))])), (yP y j 8, aN (kcI G) 1600 ((pQ S j).2.2.1)), (yP y j 9, aN (kcI G) 40 ((pQ S j).2.2.2))] ++ (sT G S y (List.range 4) ((List.range (S.1 1 0)).erase j) (List.range (S.1 15 0)) (List.range (S.1 19 0)) ++ wr)) _ := kV_part hV [10, 11, 12, 13, 14, 15, 0, 1, 2, 3, 4, 5, 6, 7, 8, 9] rfl rfl
      have hV : kV G (sHd G S y ++ (patC G S y j ++ (sT G S y (List.range 4) ((List.range (S.1 1 0)).erase j) (List.range (S.1 15 0)) (List.range (S.1 19 0)) ++ wr))) _ := hV
      have hV : kV G (siteW G S y ++ wr) _ := kV_wc hV (fun e => by
        have f0 := sT_p (G := G) (S := S) (y := y) (Lb := (List.range 4)) (Lp := (List.range (S.1 1 0))) (Ll := (List.range (S.1 15 0))) (Lj := (List.range (S.1 19 0))) (k := j) (List.mem_range.mpr (by omega)) e
        unfold siteW; simp only [wc_app]; omega)
      exact vx_out (fun x h => (hx0 x h).elim) hlocks hq1 hq2 hq3 (fun t ht hal => ⟨(), trivial, ⟨⟨hxc.1, by unfold opStitch; rw [tn_nI hj2, kif_t (fun z => hxc.2 (by rw [pQ_r]; exact z.2))]⟩, kV_eq ht hV⟩, hS.F ht⟩) hS.2.2 (Nat.le_refl _) (Nat.le_refl _)
    · have hV : kV G ([(yP y j 0, .inr (3, [.int (nI (j)), .int (nI (S.1 2 j)), .int (nI (S.1 4 j)), .ref (yP y j 2), .ref (yP y j 7), .ref (yP y j 1), va_rf (pOr S y j), .int (nI (took S j)), .int (nI (S.1 12 j))])), (yP y j 1, aN (kcZ G) 5 ((pB S j))), (yP y j 2, .inr (4, [.int (nI (S.1 3 j)), .ref (yP y j 3), .ref (yP y j 4), .ref (yP y j 5), .ref (yP y j 6), .int (nI ((pQ S j).1.2.2))])), (yP y j 3, aN (kcI G) 6 ((pQ S j).2.1.1)), (yP y j 4, aN (kcI G) 6 ((pQ S j).2.1.2.1)), (yP y j 5, aZ (kcI G) 6 ((pQ S j).2.1.2.2.1)), (yP y j 6, aN (kcI G) 6 ((pQ S j).2.1.2.2.2)), (yP y j 7, .inr (1, [.int (nI ((pQ S j).1.1)), .ref (yP y j 8), .ref (yP y j 9), .int (nI ((pQ S j).1.2.1))])), (yP y j 8, aN (kcI G) 1600 ((pQ S j).2.2.1)), (yP y j 9, aN (kcI G) 40 ((pQ S j).2.2.2)), (yH y 0, .inr (6, [.ref (yH y 1), .ref (yH y 2), .ref (yH y 3), .ref (yH y 4), .ref (yH y 5)])), (yH y 5, aR (kcI G) 5 S.2.2), (yH y 1, .inr (0, [.int (yM y 0), .ref (yB y 0), .int (nI (S.1 1 0))])), (yH y 2, .inr (0, [.int (yM y 1), .ref (yB y 1), .int (nI (S.1 11 0))])), (yH y 3, .inr (0, [.int (yM y 2), .ref (yB y 2), .int (nI (S.1 15 0))])), (yH y 4, .inr (0, [.int (yM y 3), .ref (yB y 3), .int (nI (S.1 19 0))]))] ++ (sT G S y (List.range 4) ((List.range (S.1 1 0)).erase j) (List.range (S.1 15 0)) (List.range (S.1 19 0)) ++ wr)) _ := hV
      obtain ⟨⟨k, hk, rfl⟩, hc9⟩ := hp_4
      obtain ⟨mm, hmm, rfl⟩ := i_nat hc9
      rw [pQ_r] at hk
      have hok := (h2 j hj).1
      have hrw := hok.2.2.2.1
      have hk2 : k < 2 ^ 31 := by omega
      have hcn9 : isIn (nI j) (S.1 1 0) ∧ isIn (nI k) (pRows S (tn (nI j))) ∧ 0 ≤ nI mm := ⟨isIn_nI hj, by rw [tn_nI hj2]; exact isIn_nI hk, hc9⟩
      refine lv_aload hx hb dX5_stitchByWork_14 (lv_at hl 0 rfl) ?_
      refine va_get (D := kD G) (ci := 3) (v := .ref (yP y j 2)) (C := RX2) (T := TX2) (N := 9) hx hb hts hinX2 hown hK hV.1 0 rfl rfl 3 (by decide) (hts (Cond.fieldLink RX5 93 "Yarncourt$Pattern" "program" "LYarncourt$Program;") (List.mem_of_getElem? (i := 1) rfl)) (fun _ h9 => h9) rfl dX5_stitchByWork_16 ?_
      refine lv_iload_n hx hb dX5_stitchByWork_19 rfl (lv_at hl 3 rfl) ?_
      refine lv_iload_n hx hb dX5_stitchByWork_20 rfl (lv_at hl 4 rfl) ?_
      have hV : kV G ([(yP y j 2, .inr (4, [.int (nI (S.1 3 j)), .ref (yP y j 3), .ref (yP y j 4), .ref (yP y j 5), .ref (yP y j 6), .int (nI ((pQ S j).1.2.2))])), (yP y j 3, aN (kcI G) 6 ((pQ S j).2.1.1)), (yP y j 4, aN (kcI G) 6 ((pQ S j).2.1.2.1)), (yP y j 5, aZ (kcI G) 6 ((pQ S j).2.1.2.2.1)), (yP y j 6, aN (kcI G) 6 ((pQ S j).2.1.2.2.2)), (yP y j 0, .inr (3, [.int (nI (j)), .int (nI (S.1 2 j)), .int (nI (S.1 4 j)), .ref (yP y j 2), .ref (yP y j 7), .ref (yP y j 1), va_rf (pOr S y j), .int (nI (took S j)), .int (nI (S.1 12 j))])), (yP y j 1, aN (kcZ G) 5 ((pB S j))), (yP y j 7, .inr (1, [.int (nI ((pQ S j).1.1)), .ref (yP y j 8), .ref (yP y j 9), .int (nI ((pQ S j).1.2.1))])), (yP y j 8, aN (kcI G) 1600 ((pQ S j).2.2.1)), (yP y j 9, aN (kcI G) 40 ((pQ S j).2.2.2)), (yH y 0, .inr (6, [.ref (yH y 1), .ref (yH y 2), .ref (yH y 3), .ref (yH y 4), .ref (yH y 5)])), (yH y 5, aR (kcI G) 5 S.2.2), (yH y 1, .inr (0, [.int (yM y 0), .ref (yB y 0), .int (nI (S.1 1 0))])), (yH y 2, .inr (0, [.int (yM y 1), .ref (yB y 1), .int (nI (S.1 11 0))])), (yH y 3, .inr (0, [.int (yM y 2), .ref (yB y 2), .int (nI (S.1 15 0))])), (yH y 4, .inr (0, [.int (yM y 3), .ref (yB y 3), .int (nI (S.1 19 0))]))] ++ (sT G S y (List.range 4) ((List.range (S.1 1 0)).erase j) (List.range (S.1 15 0)) (List.range (S.1 19 0)) ++ wr)) _ := kV_part hV [2, 3, 4, 5, 6, 0, 1, 7, 8, 9, 10, 11, 12, 13, 14, 15] rfl rfl
      refine kc_i (va_runV (As := [.int (nI (k)), .int (nI (mm))]) (rest := []) hF (c_X3_workTo l G (yP y j 2) (yP y j 3) (yP y j 4) (yP y j 5) (yP y j 6) (S.1 3 j) ((pQ S j).1.2.2) ((pQ S j).2.1.1) ((pQ S j).2.1.2.1) ((pQ S j).2.1.2.2.1) ((pQ S j).2.1.2.2.2) ([(yP y j 0, .inr (3, [.int (nI (j)), .int (nI (S.1 2 j)), .int (nI (S.1 4 j)), .ref (yP y j 2), .ref (yP y j 7), .ref (yP y j 1), va_rf (pOr S y j), .int (nI (took S j)), .int (nI (S.1 12 j))])), (yP y j 1, aN (kcZ G) 5 ((pB S j))), (yP y j 7, .inr (1, [.int (nI ((pQ S j).1.1)), .ref (yP y j 8), .ref (yP y j 9), .int (nI ((pQ S j).1.2.1))])), (yP y j 8, aN (kcI G) 1600 ((pQ S j).2.2.1)), (yP y j 9, aN (kcI G) 40 ((pQ S j).2.2.2)), (yH y 0, .inr (6, [.ref (yH y 1), .ref (yH y 2), .ref (yH y 3), .ref (yH y 4), .ref (yH y 5)])), (yH y 5, aR (kcI G) 5 S.2.2), (yH y 1, .inr (0, [.int (yM y 0), .ref (yB y 0), .int (nI (S.1 1 0))])), (yH y 2, .inr (0, [.int (yM y 1), .ref (yB y 1), .int (nI (S.1 11 0))])), (yH y 3, .inr (0, [.int (yM y 2), .ref (yB y 2), .int (nI (S.1 15 0))])), (yH y 4, .inr (0, [.int (yM y 3), .ref (yB y 3), .int (nI (S.1 19 0))]))] ++ (sT G S y (List.range 4) ((List.range (S.1 1 0)).erase j) (List.range (S.1 15 0)) (List.range (S.1 19 0)) ++ wr)) k mm (by rw [pQ_n]; exact hok.1) ⟨hok.2.1, Nat.le_trans hok.2.2.1 (by decide)⟩ (fun i hi => by rw [pQ_n] at hi; exact pQ_hP hok i hi) (by rw [pQ_n, pQ_sum]; exact hrw) (by rw [pQ_n, pQ_sum]; exact hk) hmm) (cwV 2 hts gX5_stitchByWork_X3_workTo rfl rfl rfl (by decide +kernel) ⟨Nat.le_of_ble_eq_true rfl, Nat.le_of_ble_eq_true rfl⟩) (kPreV hE hS hV 0 rfl rfl) rfl rfl hl.1 rfl (lv_room (Nat.le_of_ble_eq_true rfl)) dX5_stitchByWork_21 ⟨Nat.le_of_ble_eq_true rfl, Nat.le_of_ble_eq_true rfl⟩) hS (fun r_9 u_8 H locs hp_7 hV hS => ?_)
      subst hp_7
      have hV : kV G ([(yP y j 2, .inr (4, [.int (nI (S.1 3 j)), .ref (yP y j 3), .ref (yP y j 4), .ref (yP y j 5), .ref (yP y j 6), .int (nI ((pQ S j).1.2.2))])), (yP y j 3, aN (kcI G) 6 ((pQ S j).2.1.1)), (yP y j 4, aN (kcI G) 6 ((pQ S j).2.1.2.1)), (yP y j 5, aZ (kcI G) 6 ((pQ S j).2.1.2.2.1)), (yP y j 6, aN (kcI G) 6 ((pQ S j).2.1.2.2.2)), (yP y j 0, .inr (3, [.int (nI (j)), .int (nI (S.1 2 j)), .int (nI (S.1 4 j)), .ref (yP y j 2), .ref (yP y j 7), .ref (yP y j 1), va_rf (pOr S y j), .int (nI (took S j)), .int (nI (S.1 12 j))])), (yP y j 1, aN (kcZ G) 5 ((pB S j))), (yP y j 7, .inr (1, [.int (nI ((pQ S j).1.1)), .ref (yP y j 8), .ref (yP y j 9), .int (nI ((pQ S j).1.2.1))])), (yP y j 8, aN (kcI G) 1600 ((pQ S j).2.2.1)), (yP y j 9, aN (kcI G) 40 ((pQ S j).2.2.2)), (yH y 0, .inr (6, [.ref (yH y 1), .ref (yH y 2), .ref (yH y 3), .ref (yH y 4), .ref (yH y 5)])), (yH y 5, aR (kcI G) 5 S.2.2), (yH y 1, .inr (0, [.int (yM y 0), .ref (yB y 0), .int (nI (S.1 1 0))])), (yH y 2, .inr (0, [.int (yM y 1), .ref (yB y 1), .int (nI (S.1 11 0))])), (yH y 3, .inr (0, [.int (yM y 2), .ref (yB y 2), .int (nI (S.1 15 0))])), (yH y 4, .inr (0, [.int (yM y 3), .ref (yB y 3), .int (nI (S.1 19 0))]))] ++ (sT G S y (List.range 4) ((List.range (S.1 1 0)).erase j) (List.range (S.1 15 0)) (List.range (S.1 19 0)) ++ wr)) _ := hV
      have hV : kV G ([(yH y 0, .inr (6, [.ref (yH y 1), .ref (yH y 2), .ref (yH y 3), .ref (yH y 4), .ref (yH y 5)])), (yH y 5, aR (kcI G) 5 S.2.2), (yH y 1, .inr (0, [.int (yM y 0), .ref (yB y 0), .int (nI (S.1 1 0))])), (yH y 2, .inr (0, [.int (yM y 1), .ref (yB y 1), .int (nI (S.1 11 0))])), (yH y 3, .inr (0, [.int (yM y 2), .ref (yB y 2), .int (nI (S.1 15 0))])), (yH y 4, .inr (0, [.int (yM y 3), .ref (yB y 3), .int (nI (S.1 19 0))])), (yP y j 0, .inr (3, [.int (nI (j)), .int (nI (S.1 2 j)), .int (nI (S.1 4 j)), .ref (yP y j 2), .ref (yP y j 7), .ref (yP y j 1), va_rf (pOr S y j), .int (nI (took S j)), .int (nI (S.1 12 j))])), (yP y j 1, aN (kcZ G) 5 ((pB S j))), (yP y j 2, .inr (4, [.int (nI (S.1 3 j)), .ref (yP y j 3), .ref (yP y j 4), .ref (yP y j 5), .ref (yP y j 6), .int (nI ((pQ S j).1.2.2))])), (yP y j 3, aN (kcI G) 6 ((pQ S j).2.1.1)), (yP y j 4, aN (kcI G) 6 ((pQ S j).2.1.2.1)), (yP y j 5, aZ (kcI G) 6 ((pQ S j).2.1.2.2.1)), (yP y j 6, aN (kcI G) 6 ((pQ S j).2.1.2.2.2)), (yP y j 7, .inr (1, [.int (nI ((pQ S j).1.1)), .ref (yP y j 8), .ref (yP y j 9), .int (nI ((pQ S j).1.2.1))])), (yP y j 8, aN (kcI G) 1600 ((pQ S j).2.2.1)), (yP y j 9, aN (kcI G) 40 ((pQ S j).2.2.2))] ++ (sT G S y (List.range 4) ((List.range (S.1 1 0)).erase j) (List.range (S.1 15 0)) (List.range (S.1 19 0)) ++ wr)) _ := kV_part hV [10, 11, 12, 13, 14, 15, 5, 6, 0, 1, 2, 3, 4, 7, 8, 9] rfl rfl
      have hV : kV G (sHd G S y ++ (patC G S y j ++ (sT G S y (List.range 4) ((List.range (S.1 1 0)).erase j) (List.range (S.1 15 0)) (List.range (S.1 19 0)) ++ wr))) _ := hV
      have hV : kV G (siteW G S y ++ wr) _ := kV_wc hV (fun e => by
        have f0 := sT_p (G := G) (S := S) (y := y) (Lb := (List.range 4)) (Lp := (List.range (S.1 1 0))) (Ll := (List.range (S.1 15 0))) (Lj := (List.range (S.1 19 0))) (k := j) (List.mem_range.mpr (by omega)) e
        unfold siteW; simp only [wc_app]; omega)
      have hop : opStitch S (nI j) (nI k) (nI mm) = (0, nI (pSt S j k mm), S) := by
        unfold opStitch
        rw [kif_f (fun z => z hcn9), tn_nI hj2, tn_nI hk2, tn_nI hmm]
      refine vx_ret ?_
      exact W.iret (v := nI (stV (((pQ S j).2.1.1) (goS ((pQ S j).2.1.2.2.2) ((pQ S j).2.1.2.2.1) 0 (S.1 3 j) k).1) (((pQ S j).2.1.2.1) (goS ((pQ S j).2.1.2.2.2) ((pQ S j).2.1.2.2.1) 0 (S.1 3 j) k).1) (goS ((pQ S j).2.1.2.2.2) ((pQ S j).2.1.2.2.1) 0 (S.1 3 j) k).2.2 mm)) hx hb hrt (fun t ht hW => ⟨⟨_, y, rfl, (by rw [hop]; exact ⟨rfl, (by rw [wk_ans mm hok hk]), hY, rfl⟩), kV_eq ht (show kV G (siteW G (opStitch S (nI j) (nI k) (nI mm)).2.2 y ++ wr) _ by rw [hop]; exact hV)⟩, hS.F ht⟩) hS.2.2 dX5_stitchByWork_24
set_option maxHeartbeats 4000000 in
set_option maxRecDepth 100000 in
theorem c_X5_need (l : Launch) (hlt : l.stackTraces = false) (G : kG) (S : kS) (y : kY) (wr : va_W) (x : Int32) (g : Int32) (hI : kInv S) (hY : yI G S y) : vx_Met l yX5_need wsX5_need ({ frames := 8, cells := 2, slots := 12, locals := 132 } : Room) (kPc G [.ref (yH y 0), .int (x), .int (g)] (siteW G S y ++ wr)) (kQi G (S := kY) (fun z y2 => (opNeed S x g).1 = 0 ∧ z = (opNeed S x g).2.1 ∧ yI G (opNeed S x g).2.2 y2 ∧ yH y2 0 = yH y 0) (fun y2 => siteW G (opNeed S x g).2.2 y2 ++ wr)) (kXC G (xIA (opNeed S x g)) (siteW G S y ++ wr)) 2 12 (kA G) := by
  refine vx_ofW (cc := cX5_need) (maxL := 4) (ret := (some .int)) (by decide) rfl ?_
  intro pp ee s m args below meth cc0 s₁ Bd0 hml hx0 hv
  obtain ⟨rfl, hE, hV⟩ := hv
  have hK := hE.1
  have hx := Bd0.exec
  have hb := Bd0.bytes
  have hrt := Bd0.returns
  have hts := atoms_spec (ws := wsX5_need) Bd0.pre
  have hown : s.vm.findClass RX5 = some m.cls := findClass_of_methodNamed Bd0.named
  have hlocks := Bd0.notSynchronized
  have hF : CallFix pp m cc0 cX5_need 4 s _ wsX5_need RX5 := ⟨hx, hb, hml, hown, hts⟩
  have hinX2 : ∀ w ∈ wsX20, w ∈ wsX5_need := tb_of [49, 50, 51, 52, 53, 54, 55, 56, 57] rfl
  have hS : va_S (kA G) s.heap s.heap [] := va_S.rf
  have hB0 := hE.2.1
  have hl := lv_entry ([.ref (yH y 0), .int (x), .int (g)]) (n := 4) (Nat.le_of_ble_eq_true rfl)
  rw [lg_entry_eq]
  generalize (lg_sl ([.ref (yH y 0), .int (x), .int (g)]) ++ List.replicate (4 - (lg_sl ([.ref (yH y 0), .int (x), .int (g)])).length) Slot.unset).toArray = ls at hl ⊢
  have hl : lv_has ls 4 [(0, .ref (yH y 0)), (1, .int (x)), (2, .int (g))] := hl
  obtain ⟨h1, h2, h3, h4, h5, h6, h7, h8⟩ := id hI
  refine lv_aload_n hx hb dX5_need_0 rfl (lv_at hl 0 rfl) ?_
  refine lv_iload_n hx hb dX5_need_1 rfl (lv_at hl 1 rfl) ?_
  refine kx_q (vx_runV (As := [.int (x)]) (rest := []) hF (c_X5_patternAt l hlt G S y wr x hI hY) (cwV 1 hts gX5_need_X5_patternAt rfl rfl rfl (by decide +kernel) ⟨Nat.le_of_ble_eq_true rfl, Nat.le_of_ble_eq_true rfl⟩) (kPreV hE hS hV 0 rfl rfl) rfl rfl hl.1 rfl (lv_room (Nat.le_of_ble_eq_true rfl)) dX5_need_2 ⟨Nat.le_of_ble_eq_true rfl, Nat.le_of_ble_eq_true rfl⟩) hS (fun E ce q9 H locs hxc hV hS hq1 hq2 hq3 => ?_) (fun r_3 u_2 H locs hp_1 hV hS => ?_)
  · have hV : kV G (siteW G S y ++ wr) _ := hV
    refine vx_widen (k := 2) (n := 12) (by decide) (by decide) ?_
    exact vx_out (fun x h => (hx0 x h).elim) hlocks hq1 hq2 hq3 (fun t ht hal => ⟨(), trivial, ⟨Or.inl ⟨hxc.1, by unfold opNeed; rw [kif_t hxc.2]⟩, kV_eq ht hV⟩, hS.F ht⟩) hS.2.2 (Nat.le_refl _) (Nat.le_refl _)
  · obtain ⟨hp_1a, hp_1b⟩ := hp_1
    subst hp_1b
    have hV : kV G (siteW G S y ++ wr) _ := hV
    obtain ⟨j, hj, rfl⟩ := hp_1a
    have hj2 : j < 2 ^ 31 := by omega
    refine W.eq (g2 := F0 m 5 ls [.ref (yP y j 0)]) (by rw [tn_nI hj2]; rfl) ?_
    have hV : kV G (siteW G S y ++ wr) _ := hV
    have hV : kV G (sHd G S y ++ (patC G S y j ++ (sT G S y (List.range 4) ((List.range (S.1 1 0)).erase j) (List.range (S.1 15 0)) (List.range (S.1 19 0)) ++ wr))) _ := kV_wc hV (fun e => by
      have f0 := sT_p (G := G) (S := S) (y := y) (Lb := (List.range 4)) (Lp := (List.range (S.1 1 0))) (Ll := (List.range (S.1 15 0))) (Lj := (List.range (S.1 19 0))) (k := j) (List.mem_range.mpr (by omega)) e
      unfold siteW; simp only [wc_app]; omega)
    have hV : kV G ([(yH y 0, .inr (6, [.ref (yH y 1), .ref (yH y 2), .ref (yH y 3), .ref (yH y 4), .ref (yH y 5)])), (yH y 5, aR (kcI G) 5 S.2.2), (yH y 1, .inr (0, [.int (yM y 0), .ref (yB y 0), .int (nI (S.1 1 0))])), (yH y 2, .inr (0, [.int (yM y 1), .ref (yB y 1), .int (nI (S.1 11 0))])), (yH y 3, .inr (0, [.int (yM y 2), .ref (yB y 2), .int (nI (S.1 15 0))])), (yH y 4, .inr (0, [.int (yM y 3), .ref (yB y 3), .int (nI (S.1 19 0))])), (yP y j 0, .inr (3, [.int (nI (j)), .int (nI (S.1 2 j)), .int (nI (S.1 4 j)), .ref (yP y j 2), .ref (yP y j 7), .ref (yP y j 1), va_rf (pOr S y j), .int (nI (took S j)), .int (nI (S.1 12 j))])), (yP y j 1, aN (kcZ G) 5 ((pB S j))), (yP y j 2, .inr (4, [.int (nI (S.1 3 j)), .ref (yP y j 3), .ref (yP y j 4), .ref (yP y j 5), .ref (yP y j 6), .int (nI ((pQ S j).1.2.2))])), (yP y j 3, aN (kcI G) 6 ((pQ S j).2.1.1)), (yP y j 4, aN (kcI G) 6 ((pQ S j).2.1.2.1)), (yP y j 5, aZ (kcI G) 6 ((pQ S j).2.1.2.2.1)), (yP y j 6, aN (kcI G) 6 ((pQ S j).2.1.2.2.2)), (yP y j 7, .inr (1, [.int (nI ((pQ S j).1.1)), .ref (yP y j 8), .ref (yP y j 9), .int (nI ((pQ S j).1.2.1))])), (yP y j 8, aN (kcI G) 1600 ((pQ S j).2.2.1)), (yP y j 9, aN (kcI G) 40 ((pQ S j).2.2.2))] ++ (sT G S y (List.range 4) ((List.range (S.1 1 0)).erase j) (List.range (S.1 15 0)) (List.range (S.1 19 0)) ++ wr)) _ := hV
    refine lv_astore_n (lv' := [(3, .ref (yP y j 0)), (0, .ref (yH y 0)), (1, .int (nI (j))), (2, .int (g))]) hx hb dX5_need_5 rfl hl (by decide) rfl (fun ls hl => ?_)
    refine lv_iload_n hx hb dX5_need_6 rfl (lv_at hl 3 rfl) ?_
    refine kx_v (vx_runS (As := [.int (g)]) (rest := []) hF (c_X5_checkGauge l hlt G g ([(yH y 0, .inr (6, [.ref (yH y 1), .ref (yH y 2), .ref (yH y 3), .ref (yH y 4), .ref (yH y 5)])), (yH y 5, aR (kcI G) 5 S.2.2), (yH y 1, .inr (0, [.int (yM y 0), .ref (yB y 0), .int (nI (S.1 1 0))])), (yH y 2, .inr (0, [.int (yM y 1), .ref (yB y 1), .int (nI (S.1 11 0))])), (yH y 3, .inr (0, [.int (yM y 2), .ref (yB y 2), .int (nI (S.1 15 0))])), (yH y 4, .inr (0, [.int (yM y 3), .ref (yB y 3), .int (nI (S.1 19 0))])), (yP y j 0, .inr (3, [.int (nI (j)), .int (nI (S.1 2 j)), .int (nI (S.1 4 j)), .ref (yP y j 2), .ref (yP y j 7), .ref (yP y j 1), va_rf (pOr S y j), .int (nI (took S j)), .int (nI (S.1 12 j))])), (yP y j 1, aN (kcZ G) 5 ((pB S j))), (yP y j 2, .inr (4, [.int (nI (S.1 3 j)), .ref (yP y j 3), .ref (yP y j 4), .ref (yP y j 5), .ref (yP y j 6), .int (nI ((pQ S j).1.2.2))])), (yP y j 3, aN (kcI G) 6 ((pQ S j).2.1.1)), (yP y j 4, aN (kcI G) 6 ((pQ S j).2.1.2.1)), (yP y j 5, aZ (kcI G) 6 ((pQ S j).2.1.2.2.1)), (yP y j 6, aN (kcI G) 6 ((pQ S j).2.1.2.2.2)), (yP y j 7, .inr (1, [.int (nI ((pQ S j).1.1)), .ref (yP y j 8), .ref (yP y j 9), .int (nI ((pQ S j).1.2.1))])), (yP y j 8, aN (kcI G) 1600 ((pQ S j).2.2.1)), (yP y j 9, aN (kcI G) 40 ((pQ S j).2.2.2))] ++ (sT G S y (List.range 4) ((List.range (S.1 1 0)).erase j) (List.range (S.1 15 0)) (List.range (S.1 19 0)) ++ wr))) (va_cwS 1 hts gX5_need_X5_checkGauge rfl rfl rfl (by decide +kernel) ⟨Nat.le_of_ble_eq_true rfl, Nat.le_of_ble_eq_true rfl⟩) (kPreS hE hS hV) rfl rfl hl.1 rfl (lv_room (Nat.le_of_ble_eq_true rfl)) dX5_need_7 ⟨Nat.le_of_ble_eq_true rfl, Nat.le_of_ble_eq_true rfl⟩) hS (fun E ce q9 H locs hxc hV hS hq1 hq2 hq3 => ?_) (fun u_5 H locs hp_4 hV hS => ?_)
    · have hV : kV G ([(yH y 0, .inr (6, [.ref (yH y 1), .ref (yH y 2), .ref (yH y 3), .ref (yH y 4), .ref (yH y 5)])), (yH y 5, aR (kcI G) 5 S.2.2), (yH y 1, .inr (0, [.int (yM y 0), .ref (yB y 0), .int (nI (S.1 1 0))])), (yH y 2, .inr (0, [.int (yM y 1), .ref (yB y 1), .int (nI (S.1 11 0))])), (yH y 3, .inr (0, [.int (yM y 2), .ref (yB y 2), .int (nI (S.1 15 0))])), (yH y 4, .inr (0, [.int (yM y 3), .ref (yB y 3), .int (nI (S.1 19 0))])), (yP y j 0, .inr (3, [.int (nI (j)), .int (nI (S.1 2 j)), .int (nI (S.1 4 j)), .ref (yP y j 2), .ref (yP y j 7), .ref (yP y j 1), va_rf (pOr S y j), .int (nI (took S j)), .int (nI (S.1 12 j))])), (yP y j 1, aN (kcZ G) 5 ((pB S j))), (yP y j 2, .inr (4, [.int (nI (S.1 3 j)), .ref (yP y j 3), .ref (yP y j 4), .ref (yP y j 5), .ref (yP y j 6), .int (nI ((pQ S j).1.2.2))])), (yP y j 3, aN (kcI G) 6 ((pQ S j).2.1.1)), (yP y j 4, aN (kcI G) 6 ((pQ S j).2.1.2.1)), (yP y j 5, aZ (kcI G) 6 ((pQ S j).2.1.2.2.1)), (yP y j 6, aN (kcI G) 6 ((pQ S j).2.1.2.2.2)), (yP y j 7, .inr (1, [.int (nI ((pQ S j).1.1)), .ref (yP y j 8), .ref (yP y j 9), .int (nI ((pQ S j).1.2.1))])), (yP y j 8, aN (kcI G) 1600 ((pQ S j).2.2.1)), (yP y j 9, aN (kcI G) 40 ((pQ S j).2.2.2))] ++ (sT G S y (List.range 4) ((List.range (S.1 1 0)).erase j) (List.range (S.1 15 0)) (List.range (S.1 19 0)) ++ wr)) _ := hV
      have hV : kV G (sHd G S y ++ (patC G S y j ++ (sT G S y (List.range 4) ((List.range (S.1 1 0)).erase j) (List.range (S.1 15 0)) (List.range (S.1 19 0)) ++ wr))) _ := hV
      have hV : kV G (siteW G S y ++ wr) _ := kV_wc hV (fun e => by
        have f0 := sT_p (G := G) (S := S) (y := y) (Lb := (List.range 4)) (Lp := (List.range (S.1 1 0))) (Ll := (List.range (S.1 15 0))) (Lj := (List.range (S.1 19 0))) (k := j) (List.mem_range.mpr (by omega)) e
        unfold siteW; simp only [wc_app]; omega)
      exact vx_out (fun x h => (hx0 x h).elim) hlocks hq1 hq2 hq3 (fun t ht hal => ⟨(), trivial, ⟨Or.inr ⟨hxc.1, by unfold opNeed; rw [kif_f (fun z => z (isIn_nI hj)), kif_t hxc.2]⟩, kV_eq ht hV⟩, hS.F ht⟩) hS.2.2 (Nat.le_refl _) (Nat.le_refl _)
    · have hV : kV G ([(yH y 0, .inr (6, [.ref (yH y 1), .ref (yH y 2), .ref (yH y 3), .ref (yH y 4), .ref (yH y 5)])), (yH y 5, aR (kcI G) 5 S.2.2), (yH y 1, .inr (0, [.int (yM y 0), .ref (yB y 0), .int (nI (S.1 1 0))])), (yH y 2, .inr (0, [.int (yM y 1), .ref (yB y 1), .int (nI (S.1 11 0))])), (yH y 3, .inr (0, [.int (yM y 2), .ref (yB y 2), .int (nI (S.1 15 0))])), (yH y 4, .inr (0, [.int (yM y 3), .ref (yB y 3), .int (nI (S.1 19 0))])), (yP y j 0, .inr (3, [.int (nI (j)), .int (nI (S.1 2 j)), .int (nI (S.1 4 j)), .ref (yP y j 2), .ref (yP y j 7), .ref (yP y j 1), va_rf (pOr S y j), .int (nI (took S j)), .int (nI (S.1 12 j))])), (yP y j 1, aN (kcZ G) 5 ((pB S j))), (yP y j 2, .inr (4, [.int (nI (S.1 3 j)), .ref (yP y j 3), .ref (yP y j 4), .ref (yP y j 5), .ref (yP y j 6), .int (nI ((pQ S j).1.2.2))])), (yP y j 3, aN (kcI G) 6 ((pQ S j).2.1.1)), (yP y j 4, aN (kcI G) 6 ((pQ S j).2.1.2.1)), (yP y j 5, aZ (kcI G) 6 ((pQ S j).2.1.2.2.1)), (yP y j 6, aN (kcI G) 6 ((pQ S j).2.1.2.2.2)), (yP y j 7, .inr (1, [.int (nI ((pQ S j).1.1)), .ref (yP y j 8), .ref (yP y j 9), .int (nI ((pQ S j).1.2.1))])), (yP y j 8, aN (kcI G) 1600 ((pQ S j).2.2.1)), (yP y j 9, aN (kcI G) 40 ((pQ S j).2.2.2))] ++ (sT G S y (List.range 4) ((List.range (S.1 1 0)).erase j) (List.range (S.1 15 0)) (List.range (S.1 19 0)) ++ wr)) _ := hV
      obtain ⟨gg, hggl, hggh, rfl⟩ := rng_nI hp_4 (by decide) (by decide)
      have hgg2 : gg < 2 ^ 31 := by omega
      refine lv_iload_n hx hb dX5_need_10 rfl (lv_at hl 3 rfl) ?_
      refine lv_aload_n hx hb dX5_need_11 rfl (lv_at hl 0 rfl) ?_
      refine va_get (D := kD G) (ci := 3) (v := .ref (yP y j 7)) (C := RX2) (T := TX2) (N := 9) hx hb hts hinX2 hown hK hV.1 6 rfl rfl 4 (by decide) (hts (Cond.fieldLink RX5 78 "Yarncourt$Pattern" "chart" "LYarncourt$Chart;") (List.mem_of_getElem? (i := 1) rfl)) (fun _ h9 => h9) rfl dX5_need_12 ?_
      have hV : kV G ([(yP y j 7, .inr (1, [.int (nI ((pQ S j).1.1)), .ref (yP y j 8), .ref (yP y j 9), .int (nI ((pQ S j).1.2.1))])), (yP y j 8, aN (kcI G) 1600 ((pQ S j).2.2.1)), (yP y j 9, aN (kcI G) 40 ((pQ S j).2.2.2)), (yH y 0, .inr (6, [.ref (yH y 1), .ref (yH y 2), .ref (yH y 3), .ref (yH y 4), .ref (yH y 5)])), (yH y 5, aR (kcI G) 5 S.2.2), (yH y 1, .inr (0, [.int (yM y 0), .ref (yB y 0), .int (nI (S.1 1 0))])), (yH y 2, .inr (0, [.int (yM y 1), .ref (yB y 1), .int (nI (S.1 11 0))])), (yH y 3, .inr (0, [.int (yM y 2), .ref (yB y 2), .int (nI (S.1 15 0))])), (yH y 4, .inr (0, [.int (yM y 3), .ref (yB y 3), .int (nI (S.1 19 0))])), (yP y j 0, .inr (3, [.int (nI (j)), .int (nI (S.1 2 j)), .int (nI (S.1 4 j)), .ref (yP y j 2), .ref (yP y j 7), .ref (yP y j 1), va_rf (pOr S y j), .int (nI (took S j)), .int (nI (S.1 12 j))])), (yP y j 1, aN (kcZ G) 5 ((pB S j))), (yP y j 2, .inr (4, [.int (nI (S.1 3 j)), .ref (yP y j 3), .ref (yP y j 4), .ref (yP y j 5), .ref (yP y j 6), .int (nI ((pQ S j).1.2.2))])), (yP y j 3, aN (kcI G) 6 ((pQ S j).2.1.1)), (yP y j 4, aN (kcI G) 6 ((pQ S j).2.1.2.1)), (yP y j 5, aZ (kcI G) 6 ((pQ S j).2.1.2.2.1)), (yP y j 6, aN (kcI G) 6 ((pQ S j).2.1.2.2.2))] ++ (sT G S y (List.range 4) ((List.range (S.1 1 0)).erase j) (List.range (S.1 15 0)) (List.range (S.1 19 0)) ++ wr)) _ := kV_part hV [13, 14, 15, 0, 1, 2, 3, 4, 5, 6, 7, 8, 9, 10, 11, 12] rfl rfl
      refine kc_i (va_runV (As := []) (rest := [.int (nI (gg))]) hF (c_X0_yarnOfAllRows l G (yP y j 7) (yP y j 8) (yP y j 9) ((pQ S j).1.1) ((pQ S j).1.2.1) ((pQ S j).2.2.1) ((pQ S j).2.2.2) ([(yH y 0, .inr (6, [.ref (yH y 1), .ref (yH y 2), .ref (yH y 3), .ref (yH y 4), .ref (yH y 5)])), (yH y 5, aR (kcI G) 5 S.2.2), (yH y 1, .inr (0, [.int (yM y 0), .ref (yB y 0), .int (nI (S.1 1 0))])), (yH y 2, .inr (0, [.int (yM y 1), .ref (yB y 1), .int (nI (S.1 11 0))])), (yH y 3, .inr (0, [.int (yM y 2), .ref (yB y 2), .int (nI (S.1 15 0))])), (yH y 4, .inr (0, [.int (yM y 3), .ref (yB y 3), .int (nI (S.1 19 0))])), (yP y j 0, .inr (3, [.int (nI (j)), .int (nI (S.1 2 j)), .int (nI (S.1 4 j)), .ref (yP y j 2), .ref (yP y j 7), .ref (yP y j 1), va_rf (pOr S y j), .int (nI (took S j)), .int (nI (S.1 12 j))])), (yP y j 1, aN (kcZ G) 5 ((pB S j))), (yP y j 2, .inr (4, [.int (nI (S.1 3 j)), .ref (yP y j 3), .ref (yP y j 4), .ref (yP y j 5), .ref (yP y j 6), .int (nI ((pQ S j).1.2.2))])), (yP y j 3, aN (kcI G) 6 ((pQ S j).2.1.1)), (yP y j 4, aN (kcI G) 6 ((pQ S j).2.1.2.1)), (yP y j 5, aZ (kcI G) 6 ((pQ S j).2.1.2.2.1)), (yP y j 6, aN (kcI G) 6 ((pQ S j).2.1.2.2.2))] ++ (sT G S y (List.range 4) ((List.range (S.1 1 0)).erase j) (List.range (S.1 15 0)) (List.range (S.1 19 0)) ++ wr)) (by rw [pQ_r]; exact (h2 j hj).1.2.2.2.1)) (cwV 0 hts gX5_need_X0_yarnOfAllRows rfl rfl rfl (by decide +kernel) ⟨Nat.le_of_ble_eq_true rfl, Nat.le_of_ble_eq_true rfl⟩) (kPreV hE hS hV 0 rfl rfl) rfl rfl hl.1 rfl (lv_room (Nat.le_of_ble_eq_true rfl)) dX5_need_15 ⟨Nat.le_of_ble_eq_true rfl, Nat.le_of_ble_eq_true rfl⟩) hS (fun r_9 u_8 H locs hp_7 hV hS => ?_)
      subst hp_7
      have hV : kV G ([(yP y j 7, .inr (1, [.int (nI ((pQ S j).1.1)), .ref (yP y j 8), .ref (yP y j 9), .int (nI ((pQ S j).1.2.1))])), (yP y j 8, aN (kcI G) 1600 ((pQ S j).2.2.1)), (yP y j 9, aN (kcI G) 40 ((pQ S j).2.2.2)), (yH y 0, .inr (6, [.ref (yH y 1), .ref (yH y 2), .ref (yH y 3), .ref (yH y 4), .ref (yH y 5)])), (yH y 5, aR (kcI G) 5 S.2.2), (yH y 1, .inr (0, [.int (yM y 0), .ref (yB y 0), .int (nI (S.1 1 0))])), (yH y 2, .inr (0, [.int (yM y 1), .ref (yB y 1), .int (nI (S.1 11 0))])), (yH y 3, .inr (0, [.int (yM y 2), .ref (yB y 2), .int (nI (S.1 15 0))])), (yH y 4, .inr (0, [.int (yM y 3), .ref (yB y 3), .int (nI (S.1 19 0))])), (yP y j 0, .inr (3, [.int (nI (j)), .int (nI (S.1 2 j)), .int (nI (S.1 4 j)), .ref (yP y j 2), .ref (yP y j 7), .ref (yP y j 1), va_rf (pOr S y j), .int (nI (took S j)), .int (nI (S.1 12 j))])), (yP y j 1, aN (kcZ G) 5 ((pB S j))), (yP y j 2, .inr (4, [.int (nI (S.1 3 j)), .ref (yP y j 3), .ref (yP y j 4), .ref (yP y j 5), .ref (yP y j 6), .int (nI ((pQ S j).1.2.2))])), (yP y j 3, aN (kcI G) 6 ((pQ S j).2.1.1)), (yP y j 4, aN (kcI G) 6 ((pQ S j).2.1.2.1)), (yP y j 5, aZ (kcI G) 6 ((pQ S j).2.1.2.2.1)), (yP y j 6, aN (kcI G) 6 ((pQ S j).2.1.2.2.2))] ++ (sT G S y (List.range 4) ((List.range (S.1 1 0)).erase j) (List.range (S.1 15 0)) (List.range (S.1 19 0)) ++ wr)) _ := hV
      refine kn_mul hx hb dX5_need_18 ?_
      have hV : kV G ([(yH y 0, .inr (6, [.ref (yH y 1), .ref (yH y 2), .ref (yH y 3), .ref (yH y 4), .ref (yH y 5)])), (yH y 5, aR (kcI G) 5 S.2.2), (yH y 1, .inr (0, [.int (yM y 0), .ref (yB y 0), .int (nI (S.1 1 0))])), (yH y 2, .inr (0, [.int (yM y 1), .ref (yB y 1), .int (nI (S.1 11 0))])), (yH y 3, .inr (0, [.int (yM y 2), .ref (yB y 2), .int (nI (S.1 15 0))])), (yH y 4, .inr (0, [.int (yM y 3), .ref (yB y 3), .int (nI (S.1 19 0))])), (yP y j 0, .inr (3, [.int (nI (j)), .int (nI (S.1 2 j)), .int (nI (S.1 4 j)), .ref (yP y j 2), .ref (yP y j 7), .ref (yP y j 1), va_rf (pOr S y j), .int (nI (took S j)), .int (nI (S.1 12 j))])), (yP y j 1, aN (kcZ G) 5 ((pB S j))), (yP y j 2, .inr (4, [.int (nI (S.1 3 j)), .ref (yP y j 3), .ref (yP y j 4), .ref (yP y j 5), .ref (yP y j 6), .int (nI ((pQ S j).1.2.2))])), (yP y j 3, aN (kcI G) 6 ((pQ S j).2.1.1)), (yP y j 4, aN (kcI G) 6 ((pQ S j).2.1.2.1)), (yP y j 5, aZ (kcI G) 6 ((pQ S j).2.1.2.2.1)), (yP y j 6, aN (kcI G) 6 ((pQ S j).2.1.2.2.2)), (yP y j 7, .inr (1, [.int (nI ((pQ S j).1.1)), .ref (yP y j 8), .ref (yP y j 9), .int (nI ((pQ S j).1.2.1))])), (yP y j 8, aN (kcI G) 1600 ((pQ S j).2.2.1)), (yP y j 9, aN (kcI G) 40 ((pQ S j).2.2.2))] ++ (sT G S y (List.range 4) ((List.range (S.1 1 0)).erase j) (List.range (S.1 15 0)) (List.range (S.1 19 0)) ++ wr)) _ := kV_part hV [3, 4, 5, 6, 7, 8, 9, 10, 11, 12, 13, 14, 15, 0, 1, 2] rfl rfl
      have hV : kV G (sHd G S y ++ (patC G S y j ++ (sT G S y (List.range 4) ((List.range (S.1 1 0)).erase j) (List.range (S.1 15 0)) (List.range (S.1 19 0)) ++ wr))) _ := hV
      have hV : kV G (siteW G S y ++ wr) _ := kV_wc hV (fun e => by
        have f0 := sT_p (G := G) (S := S) (y := y) (Lb := (List.range 4)) (Lp := (List.range (S.1 1 0))) (Ll := (List.range (S.1 15 0))) (Lj := (List.range (S.1 19 0))) (k := j) (List.mem_range.mpr (by omega)) e
        unfold siteW; simp only [wc_app]; omega)
      have hop : opNeed S (nI j) (nI gg) = (0, nI (sumN (fun r => gg * pYn S j r) (pRows S j)), S) := by
        unfold opNeed
        rw [kif_f (fun z => z (isIn_nI hj)), kif_f (fun z => z (nI_rng hggl hggh (by decide))), tn_nI hj2, tn_nI hgg2]
      refine vx_ret ?_
      exact W.iret (v := nI (gg * (sumN ((pQ S j).2.2.2) ((pQ S j).1.1)))) hx hb hrt (fun t ht hW => ⟨⟨_, y, rfl, (by rw [hop]; exact ⟨rfl, (by rw [sumN_mul, pQ_r, sumN_cong (g := fun r => gg * pYn S j r) (fun k hk => by rw [(pQ_ok (h2 j hj).1).2.2 k hk])]), hY, rfl⟩), kV_eq ht (show kV G (siteW G (opNeed S (nI j) (nI gg)).2.2 y ++ wr) _ by rw [hop]; exact hV)⟩, hS.F ht⟩) hS.2.2 dX5_need_19
