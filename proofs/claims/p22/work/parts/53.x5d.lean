theorem of_er2 {i j k n : Nat} (h : j ∈ ((List.range n).erase i).erase k) : j < n ∧ j ≠ i ∧ j ≠ k := by
  obtain ⟨h1, h2⟩ := of_er (List.mem_of_mem_erase h)
  refine ⟨h1, h2, fun z => ?_⟩
  subst z
  exact ((List.nodup_range (n := n)).erase i).not_mem_erase h
theorem nQ_same {S T : kS} (h1 : T.1 1 0 = S.1 1 0) (h11 : T.1 11 0 = S.1 11 0) (h15 : T.1 15 0 = S.1 15 0) (h19 : T.1 19 0 = S.1 19 0) (k : Nat) : nQ T k = nQ S k := by
  rcases (show k = 0 ∨ k = 1 ∨ k = 2 ∨ 3 ≤ k by omega) with rfl | rfl | rfl | h
  · exact h1
  · exact h11
  · exact h15
  · obtain ⟨m, rfl⟩ : ∃ m, k = m + 3 := ⟨k - 3, by omega⟩
    exact h19
theorem yI_same {G : kG} {S T : kS} {y : kY} (h : ∀ k, nQ T k = nQ S k) (hY : yI G S y) : yI G T y := fun k hk => by rw [h k]; exact hY k hk
set_option maxHeartbeats 4000000 in
set_option maxRecDepth 100000 in
theorem c_X5_knit (l : Launch) (hlt : l.stackTraces = false) (G : kG) (S : kS) (y : kY) (wr : va_W) (x : Int32) (xn : Int32) (hI : kInv S) (hY : yI G S y) : vx_Met l yX5_knit wsX5_knit ({ frames := 7, cells := 2, slots := 12, locals := 112 } : Room) (kPc G [.ref (yH y 0), .int (x), .int (xn)] (siteW G S y ++ wr)) (kQi G (S := kY) (fun z y2 => (opKnit S x xn).1 = 0 ∧ z = (opKnit S x xn).2.1 ∧ yI G (opKnit S x xn).2.2 y2 ∧ yH y2 0 = yH y 0) (fun y2 => siteW G (opKnit S x xn).2.2 y2 ++ wr)) (kXC G (xIA (opKnit S x xn)) (siteW G S y ++ wr)) 2 12 (kA G) := by
  refine vx_ofW (cc := cX5_knit) (maxL := 4) (ret := (some .int)) (by decide) rfl ?_
  intro pp ee s m args below meth cc0 s₁ Bd0 hml hx0 hv
  obtain ⟨rfl, hE, hV⟩ := hv
  have hK := hE.1
  have hx := Bd0.exec
  have hb := Bd0.bytes
  have hrt := Bd0.returns
  have hts := atoms_spec (ws := wsX5_knit) Bd0.pre
  have hown : s.vm.findClass RX5 = some m.cls := findClass_of_methodNamed Bd0.named
  have hlocks := Bd0.notSynchronized
  have hF : CallFix pp m cc0 cX5_knit 4 s _ wsX5_knit RX5 := ⟨hx, hb, hml, hown, hts⟩
  have hS : va_S (kA G) s.heap s.heap [] := va_S.rf
  have hB0 := hE.2.1
  have hl := lv_entry ([.ref (yH y 0), .int (x), .int (xn)]) (n := 4) (Nat.le_of_ble_eq_true rfl)
  rw [lg_entry_eq]
  generalize (lg_sl ([.ref (yH y 0), .int (x), .int (xn)]) ++ List.replicate (4 - (lg_sl ([.ref (yH y 0), .int (x), .int (xn)])).length) Slot.unset).toArray = ls at hl ⊢
  have hl : lv_has ls 4 [(0, .ref (yH y 0)), (1, .int (x)), (2, .int (xn))] := hl
  obtain ⟨h1, h2, h3, h4, h5, h6, h7, h8⟩ := id hI
  refine lv_aload_n hx hb dX5_knit_0 rfl (lv_at hl 0 rfl) ?_
  refine lv_iload_n hx hb dX5_knit_1 rfl (lv_at hl 1 rfl) ?_
  refine kx_q (vx_runV (As := [.int (x)]) (rest := []) hF (c_X5_projectAt l hlt G S y wr x hI hY) (cwV 1 hts gX5_knit_X5_projectAt rfl rfl rfl (by decide +kernel) ⟨Nat.le_of_ble_eq_true rfl, Nat.le_of_ble_eq_true rfl⟩) (kPreV hE hS hV 0 rfl rfl) rfl rfl hl.1 rfl (lv_room (Nat.le_of_ble_eq_true rfl)) dX5_knit_2 ⟨Nat.le_of_ble_eq_true rfl, Nat.le_of_ble_eq_true rfl⟩) hS (fun E ce q9 H locs hxc hV hS hq1 hq2 hq3 => ?_) (fun r_3 u_2 H locs hp_1 hV hS => ?_)
  · have hV : kV G (siteW G S y ++ wr) _ := hV
    refine vx_widen (k := 2) (n := 12) (by decide) (by decide) ?_
    exact vx_out (fun x h => (hx0 x h).elim) hlocks hq1 hq2 hq3 (fun t ht hal => ⟨(), trivial, ⟨Or.inl ⟨hxc.1, by unfold opKnit; rw [kif_t hxc.2]⟩, kV_eq ht hV⟩, hS.F ht⟩) hS.2.2 (Nat.le_refl _) (Nat.le_refl _)
  · obtain ⟨hp_1a, hp_1b⟩ := hp_1
    subst hp_1b
    have hV : kV G (siteW G S y ++ wr) _ := hV
    obtain ⟨j, hj, rfl⟩ := hp_1a
    have hj2 : j < 2 ^ 31 := by omega
    refine W.eq (g2 := F0 m 5 ls [.ref (yJ y j)]) (by rw [tn_nI hj2]; rfl) ?_
    refine lv_astore_n (lv' := [(3, .ref (yJ y j)), (0, .ref (yH y 0)), (1, .int (nI (j))), (2, .int (xn))]) hx hb dX5_knit_5 rfl hl (by decide) rfl (fun ls hl => ?_)
    refine lv_iload_n hx hb dX5_knit_6 rfl (lv_at hl 3 rfl) ?_
    refine lv_iconst (v := nI 1) hx hb dX5_knit_7 (by decide) ?_
    refine lv_bipush (v := nI 40) hx hb dX5_knit_8 (by decide) ?_
    refine kx_v (vx_runS (As := [.int (xn), .int (nI (1)), .int (nI (40))]) (rest := []) hF (c_X5_checkRange l hlt G xn (nI 1) (nI 40) (siteW G S y ++ wr)) (va_cwS 3 hts gX5_knit_X5_checkRange rfl rfl rfl (by decide +kernel) ⟨Nat.le_of_ble_eq_true rfl, Nat.le_of_ble_eq_true rfl⟩) (kPreS hE hS hV) rfl rfl hl.1 rfl (lv_room (Nat.le_of_ble_eq_true rfl)) dX5_knit_10 ⟨Nat.le_of_ble_eq_true rfl, Nat.le_of_ble_eq_true rfl⟩) hS (fun E ce q9 H locs hxc hV hS hq1 hq2 hq3 => ?_) (fun u_5 H locs hp_4 hV hS => ?_)
    · have hV : kV G (siteW G S y ++ wr) _ := hV
      exact vx_out (fun x h => (hx0 x h).elim) hlocks hq1 hq2 hq3 (fun t ht hal => ⟨(), trivial, ⟨Or.inr ⟨hxc.1, by unfold opKnit; rw [kif_f (fun z => z (isIn_nI hj)), kif_t hxc.2]⟩, kV_eq ht hV⟩, hS.F ht⟩) hS.2.2 (Nat.le_refl _) (Nat.le_refl _)
    · have hV : kV G (siteW G S y ++ wr) _ := hV
      obtain ⟨nn, hnnl, hnnh, rfl⟩ := rng_nI hp_4 (by decide) (by decide)
      have hnn2 : nn < 2 ^ 31 := by omega
      obtain ⟨q1, q2, q3, q4, q5⟩ := h5 j hj
      have hrw := (h2 _ q2).1.2.2.2.1
      have hgy9 : ∀ d, S.1 17 (S.1 22 j) * (pQ S (S.1 21 j)).2.2.2 d ≤ 100000 := fun d => Nat.le_trans (Nat.mul_le_mul (h4 _ q4).2.2.1 (pQ_Y2 (h2 _ q2).1 d)) (by decide)
      have hV : kV G (siteW G S y ++ wr) _ := hV
      have hV : kV G (sHd G S y ++ (prjC S y j ++ (lotC S y (S.1 22 j) ++ (patC G S y (S.1 21 j) ++ (sT G S y (List.range 4) ((List.range (S.1 1 0)).erase (S.1 21 j)) ((List.range (S.1 15 0)).erase (S.1 22 j)) ((List.range (S.1 19 0)).erase j) ++ wr))))) _ := kV_wc hV (fun e => by
        have f0 := sT_j (G := G) (S := S) (y := y) (Lb := (List.range 4)) (Lp := (List.range (S.1 1 0))) (Ll := (List.range (S.1 15 0))) (Lj := (List.range (S.1 19 0))) (k := j) (List.mem_range.mpr (by omega)) e
        have f1 := sT_l (G := G) (S := S) (y := y) (Lb := (List.range 4)) (Lp := (List.range (S.1 1 0))) (Ll := (List.range (S.1 15 0))) (Lj := ((List.range (S.1 19 0)).erase j)) (k := S.1 22 j) (List.mem_range.mpr (by omega)) e
        have f2 := sT_p (G := G) (S := S) (y := y) (Lb := (List.range 4)) (Lp := (List.range (S.1 1 0))) (Ll := ((List.range (S.1 15 0)).erase (S.1 22 j))) (Lj := ((List.range (S.1 19 0)).erase j)) (k := S.1 21 j) (List.mem_range.mpr (by omega)) e
        unfold siteW; simp only [wc_app]; omega)
      have hV : kV G ([(yH y 0, .inr (6, [.ref (yH y 1), .ref (yH y 2), .ref (yH y 3), .ref (yH y 4), .ref (yH y 5)])), (yH y 5, aR (kcI G) 5 S.2.2), (yH y 1, .inr (0, [.int (yM y 0), .ref (yB y 0), .int (nI (S.1 1 0))])), (yH y 2, .inr (0, [.int (yM y 1), .ref (yB y 1), .int (nI (S.1 11 0))])), (yH y 3, .inr (0, [.int (yM y 2), .ref (yB y 2), .int (nI (S.1 15 0))])), (yH y 4, .inr (0, [.int (yM y 3), .ref (yB y 3), .int (nI (S.1 19 0))])), (yJ y j, .inr (5, [.int (nI (S.1 20 j)), .ref (yP y (S.1 21 j) 0), .ref (yL y (S.1 22 j)), .int (nI (S.1 23 j))])), (yL y (S.1 22 j), .inr (2, [.int (nI (S.1 22 j)), .int (nI (S.1 17 (S.1 22 j))), .int (nI (S.1 16 (S.1 22 j))), .int (nI (S.1 18 (S.1 22 j)))])), (yP y (S.1 21 j) 0, .inr (3, [.int (nI (S.1 21 j)), .int (nI (S.1 2 (S.1 21 j))), .int (nI (S.1 4 (S.1 21 j))), .ref (yP y (S.1 21 j) 2), .ref (yP y (S.1 21 j) 7), .ref (yP y (S.1 21 j) 1), va_rf (pOr S y (S.1 21 j)), .int (nI (took S (S.1 21 j))), .int (nI (S.1 12 (S.1 21 j)))])), (yP y (S.1 21 j) 1, aN (kcZ G) 5 ((pB S (S.1 21 j)))), (yP y (S.1 21 j) 2, .inr (4, [.int (nI (S.1 3 (S.1 21 j))), .ref (yP y (S.1 21 j) 3), .ref (yP y (S.1 21 j) 4), .ref (yP y (S.1 21 j) 5), .ref (yP y (S.1 21 j) 6), .int (nI ((pQ S (S.1 21 j)).1.2.2))])), (yP y (S.1 21 j) 3, aN (kcI G) 6 ((pQ S (S.1 21 j)).2.1.1)), (yP y (S.1 21 j) 4, aN (kcI G) 6 ((pQ S (S.1 21 j)).2.1.2.1)), (yP y (S.1 21 j) 5, aZ (kcI G) 6 ((pQ S (S.1 21 j)).2.1.2.2.1)), (yP y (S.1 21 j) 6, aN (kcI G) 6 ((pQ S (S.1 21 j)).2.1.2.2.2)), (yP y (S.1 21 j) 7, .inr (1, [.int (nI ((pQ S (S.1 21 j)).1.1)), .ref (yP y (S.1 21 j) 8), .ref (yP y (S.1 21 j) 9), .int (nI ((pQ S (S.1 21 j)).1.2.1))])), (yP y (S.1 21 j) 8, aN (kcI G) 1600 ((pQ S (S.1 21 j)).2.2.1)), (yP y (S.1 21 j) 9, aN (kcI G) 40 ((pQ S (S.1 21 j)).2.2.2))] ++ (sT G S y (List.range 4) ((List.range (S.1 1 0)).erase (S.1 21 j)) ((List.range (S.1 15 0)).erase (S.1 22 j)) ((List.range (S.1 19 0)).erase j) ++ wr)) _ := hV
      refine lv_aload_n hx hb dX5_knit_13 rfl (lv_at hl 0 rfl) ?_
      refine lv_iload_n hx hb dX5_knit_14 rfl (lv_at hl 3 rfl) ?_
      have hV : kV G ([(yJ y j, .inr (5, [.int (nI (S.1 20 j)), .ref (yP y (S.1 21 j) 0), .ref (yL y (S.1 22 j)), .int (nI (S.1 23 j))])), (yL y (S.1 22 j), .inr (2, [.int (nI (S.1 22 j)), .int (nI (S.1 17 (S.1 22 j))), .int (nI (S.1 16 (S.1 22 j))), .int (nI (S.1 18 (S.1 22 j)))])), (yP y (S.1 21 j) 0, .inr (3, [.int (nI (S.1 21 j)), .int (nI (S.1 2 (S.1 21 j))), .int (nI (S.1 4 (S.1 21 j))), .ref (yP y (S.1 21 j) 2), .ref (yP y (S.1 21 j) 7), .ref (yP y (S.1 21 j) 1), va_rf (pOr S y (S.1 21 j)), .int (nI (took S (S.1 21 j))), .int (nI (S.1 12 (S.1 21 j)))])), (yP y (S.1 21 j) 7, .inr (1, [.int (nI ((pQ S (S.1 21 j)).1.1)), .ref (yP y (S.1 21 j) 8), .ref (yP y (S.1 21 j) 9), .int (nI ((pQ S (S.1 21 j)).1.2.1))])), (yP y (S.1 21 j) 8, aN (kcI G) 1600 ((pQ S (S.1 21 j)).2.2.1)), (yP y (S.1 21 j) 9, aN (kcI G) 40 ((pQ S (S.1 21 j)).2.2.2)), (yH y 0, .inr (6, [.ref (yH y 1), .ref (yH y 2), .ref (yH y 3), .ref (yH y 4), .ref (yH y 5)])), (yH y 5, aR (kcI G) 5 S.2.2), (yH y 1, .inr (0, [.int (yM y 0), .ref (yB y 0), .int (nI (S.1 1 0))])), (yH y 2, .inr (0, [.int (yM y 1), .ref (yB y 1), .int (nI (S.1 11 0))])), (yH y 3, .inr (0, [.int (yM y 2), .ref (yB y 2), .int (nI (S.1 15 0))])), (yH y 4, .inr (0, [.int (yM y 3), .ref (yB y 3), .int (nI (S.1 19 0))])), (yP y (S.1 21 j) 1, aN (kcZ G) 5 ((pB S (S.1 21 j)))), (yP y (S.1 21 j) 2, .inr (4, [.int (nI (S.1 3 (S.1 21 j))), .ref (yP y (S.1 21 j) 3), .ref (yP y (S.1 21 j) 4), .ref (yP y (S.1 21 j) 5), .ref (yP y (S.1 21 j) 6), .int (nI ((pQ S (S.1 21 j)).1.2.2))])), (yP y (S.1 21 j) 3, aN (kcI G) 6 ((pQ S (S.1 21 j)).2.1.1)), (yP y (S.1 21 j) 4, aN (kcI G) 6 ((pQ S (S.1 21 j)).2.1.2.1)), (yP y (S.1 21 j) 5, aZ (kcI G) 6 ((pQ S (S.1 21 j)).2.1.2.2.1)), (yP y (S.1 21 j) 6, aN (kcI G) 6 ((pQ S (S.1 21 j)).2.1.2.2.2))] ++ (sT G S y (List.range 4) ((List.range (S.1 1 0)).erase (S.1 21 j)) ((List.range (S.1 15 0)).erase (S.1 22 j)) ((List.range (S.1 19 0)).erase j) ++ wr)) _ := kV_part hV [6, 7, 8, 15, 16, 17, 0, 1, 2, 3, 4, 5, 9, 10, 11, 12, 13, 14] rfl rfl
      refine kc_i (va_runV (As := [.int (nI (nn))]) (rest := []) hF (c_X4_knitUpTo l G (yJ y j) (yL y (S.1 22 j)) (yP y (S.1 21 j) 0) (yP y (S.1 21 j) 7) (yP y (S.1 21 j) 8) (yP y (S.1 21 j) 9) (S.1 20 j) (S.1 23 j) (S.1 22 j) (S.1 17 (S.1 22 j)) (S.1 16 (S.1 22 j)) (S.1 18 (S.1 22 j)) (S.1 21 j) (S.1 2 (S.1 21 j)) (S.1 4 (S.1 21 j)) (yP y (S.1 21 j) 2) (yP y (S.1 21 j) 1) (pOr S y (S.1 21 j)) (took S (S.1 21 j)) (S.1 12 (S.1 21 j)) ((pQ S (S.1 21 j)).1.1) ((pQ S (S.1 21 j)).1.2.1) ((pQ S (S.1 21 j)).2.2.1) ((pQ S (S.1 21 j)).2.2.2) ([(yH y 0, .inr (6, [.ref (yH y 1), .ref (yH y 2), .ref (yH y 3), .ref (yH y 4), .ref (yH y 5)])), (yH y 5, aR (kcI G) 5 S.2.2), (yH y 1, .inr (0, [.int (yM y 0), .ref (yB y 0), .int (nI (S.1 1 0))])), (yH y 2, .inr (0, [.int (yM y 1), .ref (yB y 1), .int (nI (S.1 11 0))])), (yH y 3, .inr (0, [.int (yM y 2), .ref (yB y 2), .int (nI (S.1 15 0))])), (yH y 4, .inr (0, [.int (yM y 3), .ref (yB y 3), .int (nI (S.1 19 0))])), (yP y (S.1 21 j) 1, aN (kcZ G) 5 ((pB S (S.1 21 j)))), (yP y (S.1 21 j) 2, .inr (4, [.int (nI (S.1 3 (S.1 21 j))), .ref (yP y (S.1 21 j) 3), .ref (yP y (S.1 21 j) 4), .ref (yP y (S.1 21 j) 5), .ref (yP y (S.1 21 j) 6), .int (nI ((pQ S (S.1 21 j)).1.2.2))])), (yP y (S.1 21 j) 3, aN (kcI G) 6 ((pQ S (S.1 21 j)).2.1.1)), (yP y (S.1 21 j) 4, aN (kcI G) 6 ((pQ S (S.1 21 j)).2.1.2.1)), (yP y (S.1 21 j) 5, aZ (kcI G) 6 ((pQ S (S.1 21 j)).2.1.2.2.1)), (yP y (S.1 21 j) 6, aN (kcI G) 6 ((pQ S (S.1 21 j)).2.1.2.2.2))] ++ (sT G S y (List.range 4) ((List.range (S.1 1 0)).erase (S.1 21 j)) ((List.range (S.1 15 0)).erase (S.1 22 j)) ((List.range (S.1 19 0)).erase j) ++ wr)) nn (by rw [pQ_r]; exact hrw) (by omega) q1 (h4 _ q4).1 (h4 _ q4).2.2.2 hgy9 (by omega)) (cwV 1 hts gX5_knit_X4_knitUpTo rfl rfl rfl (by decide +kernel) ⟨Nat.le_of_ble_eq_true rfl, Nat.le_of_ble_eq_true rfl⟩) (kPreV hE hS hV 0 rfl rfl) rfl rfl hl.1 rfl (lv_room (Nat.le_of_ble_eq_true rfl)) dX5_knit_15 ⟨Nat.le_of_ble_eq_true rfl, Nat.le_of_ble_eq_true rfl⟩) hS (fun r_9 u_8 H locs hp_7 hV hS => ?_)
      subst hp_7
      have hV : kV G ([(yJ y j, .inr (5, [.int (nI (S.1 20 j)), .ref (yP y (S.1 21 j) 0), .ref (yL y (S.1 22 j)), .int (nI ((kuN ((pQ S (S.1 21 j)).1.1) (S.1 17 (S.1 22 j)) ((S.1 16 (S.1 22 j)) = (S.1 20 j)) ((pQ S (S.1 21 j)).2.2.2) nn (S.1 23 j) (S.1 18 (S.1 22 j))).2.1))])), (yL y (S.1 22 j), .inr (2, [.int (nI (S.1 22 j)), .int (nI (S.1 17 (S.1 22 j))), .int (nI (S.1 16 (S.1 22 j))), .int (nI ((kuN ((pQ S (S.1 21 j)).1.1) (S.1 17 (S.1 22 j)) ((S.1 16 (S.1 22 j)) = (S.1 20 j)) ((pQ S (S.1 21 j)).2.2.2) nn (S.1 23 j) (S.1 18 (S.1 22 j))).2.2))])), (yP y (S.1 21 j) 0, .inr (3, [.int (nI (S.1 21 j)), .int (nI (S.1 2 (S.1 21 j))), .int (nI (S.1 4 (S.1 21 j))), .ref (yP y (S.1 21 j) 2), .ref (yP y (S.1 21 j) 7), .ref (yP y (S.1 21 j) 1), va_rf (pOr S y (S.1 21 j)), .int (nI (took S (S.1 21 j))), .int (nI (S.1 12 (S.1 21 j)))])), (yP y (S.1 21 j) 7, .inr (1, [.int (nI ((pQ S (S.1 21 j)).1.1)), .ref (yP y (S.1 21 j) 8), .ref (yP y (S.1 21 j) 9), .int (nI ((pQ S (S.1 21 j)).1.2.1))])), (yP y (S.1 21 j) 8, aN (kcI G) 1600 ((pQ S (S.1 21 j)).2.2.1)), (yP y (S.1 21 j) 9, aN (kcI G) 40 ((pQ S (S.1 21 j)).2.2.2)), (yH y 0, .inr (6, [.ref (yH y 1), .ref (yH y 2), .ref (yH y 3), .ref (yH y 4), .ref (yH y 5)])), (yH y 5, aR (kcI G) 5 S.2.2), (yH y 1, .inr (0, [.int (yM y 0), .ref (yB y 0), .int (nI (S.1 1 0))])), (yH y 2, .inr (0, [.int (yM y 1), .ref (yB y 1), .int (nI (S.1 11 0))])), (yH y 3, .inr (0, [.int (yM y 2), .ref (yB y 2), .int (nI (S.1 15 0))])), (yH y 4, .inr (0, [.int (yM y 3), .ref (yB y 3), .int (nI (S.1 19 0))])), (yP y (S.1 21 j) 1, aN (kcZ G) 5 ((pB S (S.1 21 j)))), (yP y (S.1 21 j) 2, .inr (4, [.int (nI (S.1 3 (S.1 21 j))), .ref (yP y (S.1 21 j) 3), .ref (yP y (S.1 21 j) 4), .ref (yP y (S.1 21 j) 5), .ref (yP y (S.1 21 j) 6), .int (nI ((pQ S (S.1 21 j)).1.2.2))])), (yP y (S.1 21 j) 3, aN (kcI G) 6 ((pQ S (S.1 21 j)).2.1.1)), (yP y (S.1 21 j) 4, aN (kcI G) 6 ((pQ S (S.1 21 j)).2.1.2.1)), (yP y (S.1 21 j) 5, aZ (kcI G) 6 ((pQ S (S.1 21 j)).2.1.2.2.1)), (yP y (S.1 21 j) 6, aN (kcI G) 6 ((pQ S (S.1 21 j)).2.1.2.2.2))] ++ (sT G S y (List.range 4) ((List.range (S.1 1 0)).erase (S.1 21 j)) ((List.range (S.1 15 0)).erase (S.1 22 j)) ((List.range (S.1 19 0)).erase j) ++ wr)) _ := hV
      have hku := kn_ku (rc := (pQ S (S.1 21 j)).1.1) (g := S.1 17 (S.1 22 j)) (ok := S.1 16 (S.1 22 j) = S.1 20 j) (Y := (pQ S (S.1 21 j)).2.2.2) nn hI hj rfl pQ_r.symm rfl Iff.rfl (fun r hr => (pQ_ok (h2 _ q2).1).2.2 r (by rw [← pQ_r]; exact hr))
      have hI2 : kInv (st (st S 18 (S.1 22 j) (kuN (pQ S (S.1 21 j)).1.1 (S.1 17 (S.1 22 j)) (S.1 16 (S.1 22 j) = S.1 20 j) (pQ S (S.1 21 j)).2.2.2 nn (S.1 23 j) (S.1 18 (S.1 22 j))).2.2) 23 j (kuN (pQ S (S.1 21 j)).1.1 (S.1 17 (S.1 22 j)) (S.1 16 (S.1 22 j) = S.1 20 j) (pQ S (S.1 21 j)).2.2.2 nn (S.1 23 j) (S.1 18 (S.1 22 j))).2.1) := by have := kInv_knitN nn hI hj; rw [hku] at this; exact this
      have hsc9 : sameC S (st (st S 18 (S.1 22 j) (kuN (pQ S (S.1 21 j)).1.1 (S.1 17 (S.1 22 j)) (S.1 16 (S.1 22 j) = S.1 20 j) (pQ S (S.1 21 j)).2.2.2 nn (S.1 23 j) (S.1 18 (S.1 22 j))).2.2) 23 j (kuN (pQ S (S.1 21 j)).1.1 (S.1 17 (S.1 22 j)) (S.1 16 (S.1 22 j) = S.1 20 j) (pQ S (S.1 21 j)).2.2.2 nn (S.1 23 j) (S.1 18 (S.1 22 j))).2.1) := ⟨rfl, rfl, rfl, rfl, rfl, rfl, rfl, rfl⟩
      have hx9 : kExt S (st (st S 18 (S.1 22 j) (kuN (pQ S (S.1 21 j)).1.1 (S.1 17 (S.1 22 j)) (S.1 16 (S.1 22 j) = S.1 20 j) (pQ S (S.1 21 j)).2.2.2 nn (S.1 23 j) (S.1 18 (S.1 22 j))).2.2) 23 j (kuN (pQ S (S.1 21 j)).1.1 (S.1 17 (S.1 22 j)) (S.1 16 (S.1 22 j) = S.1 20 j) (pQ S (S.1 21 j)).2.2.2 nn (S.1 23 j) (S.1 18 (S.1 22 j))).2.1) := ext_same hsc9 rfl hI
      have hnq9 : ∀ k, nQ (st (st S 18 (S.1 22 j) (kuN (pQ S (S.1 21 j)).1.1 (S.1 17 (S.1 22 j)) (S.1 16 (S.1 22 j) = S.1 20 j) (pQ S (S.1 21 j)).2.2.2 nn (S.1 23 j) (S.1 18 (S.1 22 j))).2.2) 23 j (kuN (pQ S (S.1 21 j)).1.1 (S.1 17 (S.1 22 j)) (S.1 16 (S.1 22 j) = S.1 20 j) (pQ S (S.1 21 j)).2.2.2 nn (S.1 23 j) (S.1 18 (S.1 22 j))).2.1) k = nQ S k := nQ_same rfl rfl rfl rfl
      have hV : kV G ([(yH y 0, .inr (6, [.ref (yH y 1), .ref (yH y 2), .ref (yH y 3), .ref (yH y 4), .ref (yH y 5)])), (yH y 5, aR (kcI G) 5 S.2.2), (yH y 1, .inr (0, [.int (yM y 0), .ref (yB y 0), .int (nI (S.1 1 0))])), (yH y 2, .inr (0, [.int (yM y 1), .ref (yB y 1), .int (nI (S.1 11 0))])), (yH y 3, .inr (0, [.int (yM y 2), .ref (yB y 2), .int (nI (S.1 15 0))])), (yH y 4, .inr (0, [.int (yM y 3), .ref (yB y 3), .int (nI (S.1 19 0))])), (yJ y j, .inr (5, [.int (nI (S.1 20 j)), .ref (yP y (S.1 21 j) 0), .ref (yL y (S.1 22 j)), .int (nI ((kuN ((pQ S (S.1 21 j)).1.1) (S.1 17 (S.1 22 j)) ((S.1 16 (S.1 22 j)) = (S.1 20 j)) ((pQ S (S.1 21 j)).2.2.2) nn (S.1 23 j) (S.1 18 (S.1 22 j))).2.1))])), (yL y (S.1 22 j), .inr (2, [.int (nI (S.1 22 j)), .int (nI (S.1 17 (S.1 22 j))), .int (nI (S.1 16 (S.1 22 j))), .int (nI ((kuN ((pQ S (S.1 21 j)).1.1) (S.1 17 (S.1 22 j)) ((S.1 16 (S.1 22 j)) = (S.1 20 j)) ((pQ S (S.1 21 j)).2.2.2) nn (S.1 23 j) (S.1 18 (S.1 22 j))).2.2))])), (yP y (S.1 21 j) 0, .inr (3, [.int (nI (S.1 21 j)), .int (nI (S.1 2 (S.1 21 j))), .int (nI (S.1 4 (S.1 21 j))), .ref (yP y (S.1 21 j) 2), .ref (yP y (S.1 21 j) 7), .ref (yP y (S.1 21 j) 1), va_rf (pOr S y (S.1 21 j)), .int (nI (took S (S.1 21 j))), .int (nI (S.1 12 (S.1 21 j)))])), (yP y (S.1 21 j) 1, aN (kcZ G) 5 ((pB S (S.1 21 j)))), (yP y (S.1 21 j) 2, .inr (4, [.int (nI (S.1 3 (S.1 21 j))), .ref (yP y (S.1 21 j) 3), .ref (yP y (S.1 21 j) 4), .ref (yP y (S.1 21 j) 5), .ref (yP y (S.1 21 j) 6), .int (nI ((pQ S (S.1 21 j)).1.2.2))])), (yP y (S.1 21 j) 3, aN (kcI G) 6 ((pQ S (S.1 21 j)).2.1.1)), (yP y (S.1 21 j) 4, aN (kcI G) 6 ((pQ S (S.1 21 j)).2.1.2.1)), (yP y (S.1 21 j) 5, aZ (kcI G) 6 ((pQ S (S.1 21 j)).2.1.2.2.1)), (yP y (S.1 21 j) 6, aN (kcI G) 6 ((pQ S (S.1 21 j)).2.1.2.2.2)), (yP y (S.1 21 j) 7, .inr (1, [.int (nI ((pQ S (S.1 21 j)).1.1)), .ref (yP y (S.1 21 j) 8), .ref (yP y (S.1 21 j) 9), .int (nI ((pQ S (S.1 21 j)).1.2.1))])), (yP y (S.1 21 j) 8, aN (kcI G) 1600 ((pQ S (S.1 21 j)).2.2.1)), (yP y (S.1 21 j) 9, aN (kcI G) 40 ((pQ S (S.1 21 j)).2.2.2))] ++ (sT G S y (List.range 4) ((List.range (S.1 1 0)).erase (S.1 21 j)) ((List.range (S.1 15 0)).erase (S.1 22 j)) ((List.range (S.1 19 0)).erase j) ++ wr)) _ := kV_part hV [6, 7, 8, 9, 10, 11, 0, 1, 2, 12, 13, 14, 15, 16, 17, 3, 4, 5] rfl rfl
      have hT9 : sT G (st (st S 18 (S.1 22 j) (kuN (pQ S (S.1 21 j)).1.1 (S.1 17 (S.1 22 j)) (S.1 16 (S.1 22 j) = S.1 20 j) (pQ S (S.1 21 j)).2.2.2 nn (S.1 23 j) (S.1 18 (S.1 22 j))).2.2) 23 j (kuN (pQ S (S.1 21 j)).1.1 (S.1 17 (S.1 22 j)) (S.1 16 (S.1 22 j) = S.1 20 j) (pQ S (S.1 21 j)).2.2.2 nn (S.1 23 j) (S.1 18 (S.1 22 j))).2.1) y (List.range 4) ((List.range (S.1 1 0)).erase (S.1 21 j)) ((List.range (S.1 15 0)).erase (S.1 22 j)) ((List.range (S.1 19 0)).erase j) = sT G S y (List.range 4) ((List.range (S.1 1 0)).erase (S.1 21 j)) ((List.range (S.1 15 0)).erase (S.1 22 j)) ((List.range (S.1 19 0)).erase j) := sT_ext hI hI2 hx9 (fun _ _ => rfl) (fun _ _ => rfl) (fun _ _ => rfl) (fun k hi => by
        have h9 := List.mem_range.mp hi
        exact ⟨h9, hnq9 _, rfl, rfl⟩) (fun i hi => by
        have h9 := of_er hi
        exact ⟨h9.1, rfl, rfl, rfl, rfl, rfl, rfl, pQ_same hsc9 _⟩) (fun i hi => by
        have h9 := of_er hi
        exact ⟨h9.1, rfl, rfl, by simp [st_1, h9.2]⟩) (fun i hi => by
        have h9 := of_er hi
        exact ⟨h9.1, rfl, rfl, rfl, by simp [st_1, h9.2]⟩)
      have he_pS121j : [(yP y (S.1 21 j) 0, .inr (3, [.int (nI (S.1 21 j)), .int (nI (S.1 2 (S.1 21 j))), .int (nI (S.1 4 (S.1 21 j))), .ref (yP y (S.1 21 j) 2), .ref (yP y (S.1 21 j) 7), .ref (yP y (S.1 21 j) 1), va_rf (pOr S y (S.1 21 j)), .int (nI (took S (S.1 21 j))), .int (nI (S.1 12 (S.1 21 j)))])), (yP y (S.1 21 j) 1, aN (kcZ G) 5 ((pB S (S.1 21 j)))), (yP y (S.1 21 j) 2, .inr (4, [.int (nI (S.1 3 (S.1 21 j))), .ref (yP y (S.1 21 j) 3), .ref (yP y (S.1 21 j) 4), .ref (yP y (S.1 21 j) 5), .ref (yP y (S.1 21 j) 6), .int (nI ((pQ S (S.1 21 j)).1.2.2))])), (yP y (S.1 21 j) 3, aN (kcI G) 6 ((pQ S (S.1 21 j)).2.1.1)), (yP y (S.1 21 j) 4, aN (kcI G) 6 ((pQ S (S.1 21 j)).2.1.2.1)), (yP y (S.1 21 j) 5, aZ (kcI G) 6 ((pQ S (S.1 21 j)).2.1.2.2.1)), (yP y (S.1 21 j) 6, aN (kcI G) 6 ((pQ S (S.1 21 j)).2.1.2.2.2)), (yP y (S.1 21 j) 7, .inr (1, [.int (nI ((pQ S (S.1 21 j)).1.1)), .ref (yP y (S.1 21 j) 8), .ref (yP y (S.1 21 j) 9), .int (nI ((pQ S (S.1 21 j)).1.2.1))])), (yP y (S.1 21 j) 8, aN (kcI G) 1600 ((pQ S (S.1 21 j)).2.2.1)), (yP y (S.1 21 j) 9, aN (kcI G) 40 ((pQ S (S.1 21 j)).2.2.2))] = patC G (st (st S 18 (S.1 22 j) (kuN (pQ S (S.1 21 j)).1.1 (S.1 17 (S.1 22 j)) (S.1 16 (S.1 22 j) = S.1 20 j) (pQ S (S.1 21 j)).2.2.2 nn (S.1 23 j) (S.1 18 (S.1 22 j))).2.2) 23 j (kuN (pQ S (S.1 21 j)).1.1 (S.1 17 (S.1 22 j)) (S.1 16 (S.1 22 j) = S.1 20 j) (pQ S (S.1 21 j)).2.2.2 nn (S.1 23 j) (S.1 18 (S.1 22 j))).2.1) y (S.1 21 j) := (patC_cong (S := S) (T := st (st S 18 (S.1 22 j) (kuN (pQ S (S.1 21 j)).1.1 (S.1 17 (S.1 22 j)) (S.1 16 (S.1 22 j) = S.1 20 j) (pQ S (S.1 21 j)).2.2.2 nn (S.1 23 j) (S.1 18 (S.1 22 j))).2.2) 23 j (kuN (pQ S (S.1 21 j)).1.1 (S.1 17 (S.1 22 j)) (S.1 16 (S.1 22 j) = S.1 20 j) (pQ S (S.1 21 j)).2.2.2 nn (S.1 23 j) (S.1 18 (S.1 22 j))).2.1) (y := y) (z := y) rfl rfl rfl rfl rfl rfl (pQ_same hsc9 _) (pOr_ext hI hI2 hx9 (fun _ _ => rfl) (by omega) rfl)).symm
      have he_lS122j : [(yL y (S.1 22 j), .inr (2, [.int (nI (S.1 22 j)), .int (nI (S.1 17 (S.1 22 j))), .int (nI (S.1 16 (S.1 22 j))), .int (nI ((kuN ((pQ S (S.1 21 j)).1.1) (S.1 17 (S.1 22 j)) ((S.1 16 (S.1 22 j)) = (S.1 20 j)) ((pQ S (S.1 21 j)).2.2.2) nn (S.1 23 j) (S.1 18 (S.1 22 j))).2.2))]))] = lotC (st (st S 18 (S.1 22 j) (kuN (pQ S (S.1 21 j)).1.1 (S.1 17 (S.1 22 j)) (S.1 16 (S.1 22 j) = S.1 20 j) (pQ S (S.1 21 j)).2.2.2 nn (S.1 23 j) (S.1 18 (S.1 22 j))).2.2) 23 j (kuN (pQ S (S.1 21 j)).1.1 (S.1 17 (S.1 22 j)) (S.1 16 (S.1 22 j) = S.1 20 j) (pQ S (S.1 21 j)).2.2.2 nn (S.1 23 j) (S.1 18 (S.1 22 j))).2.1) y (S.1 22 j) := by unfold lotC; simp [st_1]
      have he_jj : [(yJ y j, .inr (5, [.int (nI (S.1 20 j)), .ref (yP y (S.1 21 j) 0), .ref (yL y (S.1 22 j)), .int (nI ((kuN ((pQ S (S.1 21 j)).1.1) (S.1 17 (S.1 22 j)) ((S.1 16 (S.1 22 j)) = (S.1 20 j)) ((pQ S (S.1 21 j)).2.2.2) nn (S.1 23 j) (S.1 18 (S.1 22 j))).2.1))]))] = prjC (st (st S 18 (S.1 22 j) (kuN (pQ S (S.1 21 j)).1.1 (S.1 17 (S.1 22 j)) (S.1 16 (S.1 22 j) = S.1 20 j) (pQ S (S.1 21 j)).2.2.2 nn (S.1 23 j) (S.1 18 (S.1 22 j))).2.2) 23 j (kuN (pQ S (S.1 21 j)).1.1 (S.1 17 (S.1 22 j)) (S.1 16 (S.1 22 j) = S.1 20 j) (pQ S (S.1 21 j)).2.2.2 nn (S.1 23 j) (S.1 18 (S.1 22 j))).2.1) y j := by unfold prjC; simp [st_1]
      have hV : kV G (sHd G (st (st S 18 (S.1 22 j) (kuN (pQ S (S.1 21 j)).1.1 (S.1 17 (S.1 22 j)) (S.1 16 (S.1 22 j) = S.1 20 j) (pQ S (S.1 21 j)).2.2.2 nn (S.1 23 j) (S.1 18 (S.1 22 j))).2.2) 23 j (kuN (pQ S (S.1 21 j)).1.1 (S.1 17 (S.1 22 j)) (S.1 16 (S.1 22 j) = S.1 20 j) (pQ S (S.1 21 j)).2.2.2 nn (S.1 23 j) (S.1 18 (S.1 22 j))).2.1) y ++ ([(yJ y j, .inr (5, [.int (nI (S.1 20 j)), .ref (yP y (S.1 21 j) 0), .ref (yL y (S.1 22 j)), .int (nI ((kuN ((pQ S (S.1 21 j)).1.1) (S.1 17 (S.1 22 j)) ((S.1 16 (S.1 22 j)) = (S.1 20 j)) ((pQ S (S.1 21 j)).2.2.2) nn (S.1 23 j) (S.1 18 (S.1 22 j))).2.1))]))] ++ ([(yL y (S.1 22 j), .inr (2, [.int (nI (S.1 22 j)), .int (nI (S.1 17 (S.1 22 j))), .int (nI (S.1 16 (S.1 22 j))), .int (nI ((kuN ((pQ S (S.1 21 j)).1.1) (S.1 17 (S.1 22 j)) ((S.1 16 (S.1 22 j)) = (S.1 20 j)) ((pQ S (S.1 21 j)).2.2.2) nn (S.1 23 j) (S.1 18 (S.1 22 j))).2.2))]))] ++ ([(yP y (S.1 21 j) 0, .inr (3, [.int (nI (S.1 21 j)), .int (nI (S.1 2 (S.1 21 j))), .int (nI (S.1 4 (S.1 21 j))), .ref (yP y (S.1 21 j) 2), .ref (yP y (S.1 21 j) 7), .ref (yP y (S.1 21 j) 1), va_rf (pOr S y (S.1 21 j)), .int (nI (took S (S.1 21 j))), .int (nI (S.1 12 (S.1 21 j)))])), (yP y (S.1 21 j) 1, aN (kcZ G) 5 ((pB S (S.1 21 j)))), (yP y (S.1 21 j) 2, .inr (4, [.int (nI (S.1 3 (S.1 21 j))), .ref (yP y (S.1 21 j) 3), .ref (yP y (S.1 21 j) 4), .ref (yP y (S.1 21 j) 5), .ref (yP y (S.1 21 j) 6), .int (nI ((pQ S (S.1 21 j)).1.2.2))])), (yP y (S.1 21 j) 3, aN (kcI G) 6 ((pQ S (S.1 21 j)).2.1.1)), (yP y (S.1 21 j) 4, aN (kcI G) 6 ((pQ S (S.1 21 j)).2.1.2.1)), (yP y (S.1 21 j) 5, aZ (kcI G) 6 ((pQ S (S.1 21 j)).2.1.2.2.1)), (yP y (S.1 21 j) 6, aN (kcI G) 6 ((pQ S (S.1 21 j)).2.1.2.2.2)), (yP y (S.1 21 j) 7, .inr (1, [.int (nI ((pQ S (S.1 21 j)).1.1)), .ref (yP y (S.1 21 j) 8), .ref (yP y (S.1 21 j) 9), .int (nI ((pQ S (S.1 21 j)).1.2.1))])), (yP y (S.1 21 j) 8, aN (kcI G) 1600 ((pQ S (S.1 21 j)).2.2.1)), (yP y (S.1 21 j) 9, aN (kcI G) 40 ((pQ S (S.1 21 j)).2.2.2))] ++ (sT G S y (List.range 4) ((List.range (S.1 1 0)).erase (S.1 21 j)) ((List.range (S.1 15 0)).erase (S.1 22 j)) ((List.range (S.1 19 0)).erase j) ++ wr))))) _ := hV
      rw [← hT9, he_jj, he_lS122j, he_pS121j] at hV
      have hV : kV G (siteW G (st (st S 18 (S.1 22 j) (kuN (pQ S (S.1 21 j)).1.1 (S.1 17 (S.1 22 j)) (S.1 16 (S.1 22 j) = S.1 20 j) (pQ S (S.1 21 j)).2.2.2 nn (S.1 23 j) (S.1 18 (S.1 22 j))).2.2) 23 j (kuN (pQ S (S.1 21 j)).1.1 (S.1 17 (S.1 22 j)) (S.1 16 (S.1 22 j) = S.1 20 j) (pQ S (S.1 21 j)).2.2.2 nn (S.1 23 j) (S.1 18 (S.1 22 j))).2.1) y ++ wr) _ := kV_wc hV (fun e => by
        have f0 := sT_j (G := G) (S := st (st S 18 (S.1 22 j) (kuN (pQ S (S.1 21 j)).1.1 (S.1 17 (S.1 22 j)) (S.1 16 (S.1 22 j) = S.1 20 j) (pQ S (S.1 21 j)).2.2.2 nn (S.1 23 j) (S.1 18 (S.1 22 j))).2.2) 23 j (kuN (pQ S (S.1 21 j)).1.1 (S.1 17 (S.1 22 j)) (S.1 16 (S.1 22 j) = S.1 20 j) (pQ S (S.1 21 j)).2.2.2 nn (S.1 23 j) (S.1 18 (S.1 22 j))).2.1) (y := y) (Lb := (List.range 4)) (Lp := (List.range (S.1 1 0))) (Ll := (List.range (S.1 15 0))) (Lj := (List.range (S.1 19 0))) (k := j) (List.mem_range.mpr (by omega)) e
        have f1 := sT_l (G := G) (S := st (st S 18 (S.1 22 j) (kuN (pQ S (S.1 21 j)).1.1 (S.1 17 (S.1 22 j)) (S.1 16 (S.1 22 j) = S.1 20 j) (pQ S (S.1 21 j)).2.2.2 nn (S.1 23 j) (S.1 18 (S.1 22 j))).2.2) 23 j (kuN (pQ S (S.1 21 j)).1.1 (S.1 17 (S.1 22 j)) (S.1 16 (S.1 22 j) = S.1 20 j) (pQ S (S.1 21 j)).2.2.2 nn (S.1 23 j) (S.1 18 (S.1 22 j))).2.1) (y := y) (Lb := (List.range 4)) (Lp := (List.range (S.1 1 0))) (Ll := (List.range (S.1 15 0))) (Lj := ((List.range (S.1 19 0)).erase j)) (k := S.1 22 j) (List.mem_range.mpr (by omega)) e
        have f2 := sT_p (G := G) (S := st (st S 18 (S.1 22 j) (kuN (pQ S (S.1 21 j)).1.1 (S.1 17 (S.1 22 j)) (S.1 16 (S.1 22 j) = S.1 20 j) (pQ S (S.1 21 j)).2.2.2 nn (S.1 23 j) (S.1 18 (S.1 22 j))).2.2) 23 j (kuN (pQ S (S.1 21 j)).1.1 (S.1 17 (S.1 22 j)) (S.1 16 (S.1 22 j) = S.1 20 j) (pQ S (S.1 21 j)).2.2.2 nn (S.1 23 j) (S.1 18 (S.1 22 j))).2.1) (y := y) (Lb := (List.range 4)) (Lp := (List.range (S.1 1 0))) (Ll := ((List.range (S.1 15 0)).erase (S.1 22 j))) (Lj := ((List.range (S.1 19 0)).erase j)) (k := S.1 21 j) (List.mem_range.mpr (by omega)) e
        rw [show siteW G (st (st S 18 (S.1 22 j) (kuN (pQ S (S.1 21 j)).1.1 (S.1 17 (S.1 22 j)) (S.1 16 (S.1 22 j) = S.1 20 j) (pQ S (S.1 21 j)).2.2.2 nn (S.1 23 j) (S.1 18 (S.1 22 j))).2.2) 23 j (kuN (pQ S (S.1 21 j)).1.1 (S.1 17 (S.1 22 j)) (S.1 16 (S.1 22 j) = S.1 20 j) (pQ S (S.1 21 j)).2.2.2 nn (S.1 23 j) (S.1 18 (S.1 22 j))).2.1) y = sHd G (st (st S 18 (S.1 22 j) (kuN (pQ S (S.1 21 j)).1.1 (S.1 17 (S.1 22 j)) (S.1 16 (S.1 22 j) = S.1 20 j) (pQ S (S.1 21 j)).2.2.2 nn (S.1 23 j) (S.1 18 (S.1 22 j))).2.2) 23 j (kuN (pQ S (S.1 21 j)).1.1 (S.1 17 (S.1 22 j)) (S.1 16 (S.1 22 j) = S.1 20 j) (pQ S (S.1 21 j)).2.2.2 nn (S.1 23 j) (S.1 18 (S.1 22 j))).2.1) y ++ sT G (st (st S 18 (S.1 22 j) (kuN (pQ S (S.1 21 j)).1.1 (S.1 17 (S.1 22 j)) (S.1 16 (S.1 22 j) = S.1 20 j) (pQ S (S.1 21 j)).2.2.2 nn (S.1 23 j) (S.1 18 (S.1 22 j))).2.2) 23 j (kuN (pQ S (S.1 21 j)).1.1 (S.1 17 (S.1 22 j)) (S.1 16 (S.1 22 j) = S.1 20 j) (pQ S (S.1 21 j)).2.2.2 nn (S.1 23 j) (S.1 18 (S.1 22 j))).2.1) y (List.range 4) (List.range (S.1 1 0)) (List.range (S.1 15 0)) (List.range (S.1 19 0)) from rfl]
        simp only [wc_app]; omega)
      have hop : opKnit S (nI j) (nI nn) = (0, nI (kuN (pQ S (S.1 21 j)).1.1 (S.1 17 (S.1 22 j)) (S.1 16 (S.1 22 j) = S.1 20 j) (pQ S (S.1 21 j)).2.2.2 nn (S.1 23 j) (S.1 18 (S.1 22 j))).1, st (st S 18 (S.1 22 j) (kuN (pQ S (S.1 21 j)).1.1 (S.1 17 (S.1 22 j)) (S.1 16 (S.1 22 j) = S.1 20 j) (pQ S (S.1 21 j)).2.2.2 nn (S.1 23 j) (S.1 18 (S.1 22 j))).2.2) 23 j (kuN (pQ S (S.1 21 j)).1.1 (S.1 17 (S.1 22 j)) (S.1 16 (S.1 22 j) = S.1 20 j) (pQ S (S.1 21 j)).2.2.2 nn (S.1 23 j) (S.1 18 (S.1 22 j))).2.1) := by
        unfold opKnit
        rw [kif_f (fun z => z (isIn_nI hj)), kif_f (fun z => z (nI_rng hnnl hnnh (by decide))), tn_nI hj2, tn_nI hnn2, hku]
      refine vx_ret ?_
      exact W.iret (v := nI ((kuN ((pQ S (S.1 21 j)).1.1) (S.1 17 (S.1 22 j)) ((S.1 16 (S.1 22 j)) = (S.1 20 j)) ((pQ S (S.1 21 j)).2.2.2) nn (S.1 23 j) (S.1 18 (S.1 22 j))).1)) hx hb hrt (fun t ht hW => ⟨⟨_, y, rfl, (by rw [hop]; exact ⟨rfl, rfl, yI_same hnq9 hY, rfl⟩), kV_eq ht (show kV G (siteW G (opKnit S (nI j) (nI nn)).2.2 y ++ wr) _ by rw [hop]; exact hV)⟩, hS.F ht⟩) hS.2.2 dX5_knit_18
set_option maxHeartbeats 4000000 in
set_option maxRecDepth 100000 in
theorem c_X5_take (l : Launch) (hlt : l.stackTraces = false) (G : kG) (S : kS) (y : kY) (wr : va_W) (x : Int32) (xa : Int32) (hI : kInv S) (hY : yI G S y) : vx_Met l yX5_take wsX5_take ({ frames := 7, cells := 3, slots := 18, locals := 111 } : Room) (kPc G [.ref (yH y 0), .int (x), .int (xa)] (siteW G S y ++ wr)) (kQi G (S := kY) (fun z y2 => (opTake S x xa).1 = 0 ∧ z = (opTake S x xa).2.1 ∧ yI G (opTake S x xa).2.2 y2 ∧ yH y2 0 = yH y 0) (fun y2 => siteW G (opTake S x xa).2.2 y2 ++ wr)) (kXC G (xIS (opTake S x xa)) (siteW G S y ++ wr)) 3 18 (kA G) := by
  refine vx_ofW (cc := cX5_take) (maxL := 6) (ret := (some .int)) (by decide) rfl ?_
  intro pp ee s m args below meth cc0 s₁ Bd0 hml hx0 hv
  obtain ⟨rfl, hE, hV⟩ := hv
  have hK := hE.1
  have hx := Bd0.exec
  have hb := Bd0.bytes
  have hrt := Bd0.returns
  have hts := atoms_spec (ws := wsX5_take) Bd0.pre
  have hown : s.vm.findClass RX5 = some m.cls := findClass_of_methodNamed Bd0.named
  have hlocks := Bd0.notSynchronized
  have hF : CallFix pp m cc0 cX5_take 6 s _ wsX5_take RX5 := ⟨hx, hb, hml, hown, hts⟩
  have hinX1 : ∀ w ∈ wsX10, w ∈ wsX5_take := tb_of [45, 46, 47, 48] rfl
  have hinX4 : ∀ w ∈ wsX40, w ∈ wsX5_take := tb_of [49, 50, 51, 52] rfl
  have hS : va_S (kA G) s.heap s.heap [] := va_S.rf
  have hB0 := hE.2.1
  have hl := lv_entry ([.ref (yH y 0), .int (x), .int (xa)]) (n := 6) (Nat.le_of_ble_eq_true rfl)
  rw [lg_entry_eq]
  generalize (lg_sl ([.ref (yH y 0), .int (x), .int (xa)]) ++ List.replicate (6 - (lg_sl ([.ref (yH y 0), .int (x), .int (xa)])).length) Slot.unset).toArray = ls at hl ⊢
  have hl : lv_has ls 6 [(0, .ref (yH y 0)), (1, .int (x)), (2, .int (xa))] := hl
  obtain ⟨h1, h2, h3, h4, h5, h6, h7, h8⟩ := id hI
  refine lv_aload_n hx hb dX5_take_0 rfl (lv_at hl 0 rfl) ?_
  refine lv_iload_n hx hb dX5_take_1 rfl (lv_at hl 1 rfl) ?_
  refine kx_q (vx_runV (As := [.int (x)]) (rest := []) hF (c_X5_projectAt l hlt G S y wr x hI hY) (cwV 1 hts gX5_take_X5_projectAt rfl rfl rfl (by decide +kernel) ⟨Nat.le_of_ble_eq_true rfl, Nat.le_of_ble_eq_true rfl⟩) (kPreV hE hS hV 0 rfl rfl) rfl rfl hl.1 rfl (lv_room (Nat.le_of_ble_eq_true rfl)) dX5_take_2 ⟨Nat.le_of_ble_eq_true rfl, Nat.le_of_ble_eq_true rfl⟩) hS (fun E ce q9 H locs hxc hV hS hq1 hq2 hq3 => ?_) (fun r_3 u_2 H locs hp_1 hV hS => ?_)
  · have hV : kV G (siteW G S y ++ wr) _ := hV
    refine vx_widen (k := 3) (n := 18) (by decide) (by decide) ?_
    exact vx_out (fun x h => (hx0 x h).elim) hlocks hq1 hq2 hq3 (fun t ht hal => ⟨(), trivial, ⟨Or.inl ⟨hxc.1, by unfold opTake; rw [kif_t (fun z => hxc.2 z.1)]⟩, kV_eq ht hV⟩, hS.F ht⟩) hS.2.2 (Nat.le_refl _) (Nat.le_refl _)
  · obtain ⟨hp_1a, hp_1b⟩ := hp_1
    subst hp_1b
    have hV : kV G (siteW G S y ++ wr) _ := hV
    obtain ⟨j, hj, rfl⟩ := hp_1a
    have hj2 : j < 2 ^ 31 := by omega
    refine W.eq (g2 := F0 m 5 ls [.ref (yJ y j)]) (by rw [tn_nI hj2]; rfl) ?_
    refine lv_astore_n (lv' := [(3, .ref (yJ y j)), (0, .ref (yH y 0)), (1, .int (nI (j))), (2, .int (xa))]) hx hb dX5_take_5 rfl hl (by decide) rfl (fun ls hl => ?_)
    refine lv_aload_n hx hb dX5_take_6 rfl (lv_at hl 1 rfl) ?_
    refine lv_iload_n hx hb dX5_take_7 rfl (lv_at hl 3 rfl) ?_
    refine kx_q (vx_runV (As := [.int (xa)]) (rest := []) hF (c_X5_lotAt l hlt G S y wr xa hI hY) (cwV 1 hts gX5_take_X5_lotAt rfl rfl rfl (by decide +kernel) ⟨Nat.le_of_ble_eq_true rfl, Nat.le_of_ble_eq_true rfl⟩) (kPreV hE hS hV 0 rfl rfl) rfl rfl hl.1 rfl (lv_room (Nat.le_of_ble_eq_true rfl)) dX5_take_8 ⟨Nat.le_of_ble_eq_true rfl, Nat.le_of_ble_eq_true rfl⟩) hS (fun E ce q9 H locs hxc hV hS hq1 hq2 hq3 => ?_) (fun r_6 u_5 H locs hp_4 hV hS => ?_)
    · have hV : kV G (siteW G S y ++ wr) _ := hV
      refine vx_widen (k := 3) (n := 18) (by decide) (by decide) ?_
      exact vx_out (fun x h => (hx0 x h).elim) hlocks hq1 hq2 hq3 (fun t ht hal => ⟨(), trivial, ⟨Or.inl ⟨hxc.1, by unfold opTake; rw [kif_t (fun z => hxc.2 z.2)]⟩, kV_eq ht hV⟩, hS.F ht⟩) hS.2.2 (Nat.le_refl _) (Nat.le_refl _)
    · obtain ⟨hp_4a, hp_4b⟩ := hp_4
      subst hp_4b
      have hV : kV G (siteW G S y ++ wr) _ := hV
      obtain ⟨aa, haa, rfl⟩ := hp_4a
      have haa2 : aa < 2 ^ 31 := by omega
      refine W.eq (g2 := F0 m 11 ls [.ref (yL y aa)]) (by rw [tn_nI haa2]; rfl) ?_
      refine lv_astore (lv' := [(4, .ref (yL y aa)), (3, .ref (yJ y j)), (0, .ref (yH y 0)), (1, .int (nI (j))), (2, .int (nI (aa)))]) hx hb dX5_take_11 hl (by decide) rfl (fun ls hl => ?_)
      obtain ⟨q1, q2, q3, q4, q5⟩ := h5 j hj
      have hp9 := (h4 aa haa).1
      have hV : kV G (siteW G S y ++ wr) _ := hV
      have hV : kV G (sHd G S y ++ (lotC S y aa ++ (prjC S y j ++ (sT G S y (List.range 4) (List.range (S.1 1 0)) ((List.range (S.1 15 0)).erase aa) ((List.range (S.1 19 0)).erase j) ++ wr)))) _ := kV_wc hV (fun e => by
        have f0 := sT_l (G := G) (S := S) (y := y) (Lb := (List.range 4)) (Lp := (List.range (S.1 1 0))) (Ll := (List.range (S.1 15 0))) (Lj := (List.range (S.1 19 0))) (k := aa) (List.mem_range.mpr (by omega)) e
        have f1 := sT_j (G := G) (S := S) (y := y) (Lb := (List.range 4)) (Lp := (List.range (S.1 1 0))) (Ll := ((List.range (S.1 15 0)).erase aa)) (Lj := (List.range (S.1 19 0))) (k := j) (List.mem_range.mpr (by omega)) e
        unfold siteW; simp only [wc_app]; omega)
      have hV : kV G ([(yH y 0, .inr (6, [.ref (yH y 1), .ref (yH y 2), .ref (yH y 3), .ref (yH y 4), .ref (yH y 5)])), (yH y 5, aR (kcI G) 5 S.2.2), (yH y 1, .inr (0, [.int (yM y 0), .ref (yB y 0), .int (nI (S.1 1 0))])), (yH y 2, .inr (0, [.int (yM y 1), .ref (yB y 1), .int (nI (S.1 11 0))])), (yH y 3, .inr (0, [.int (yM y 2), .ref (yB y 2), .int (nI (S.1 15 0))])), (yH y 4, .inr (0, [.int (yM y 3), .ref (yB y 3), .int (nI (S.1 19 0))])), (yL y aa, .inr (2, [.int (nI (aa)), .int (nI (S.1 17 aa)), .int (nI (S.1 16 aa)), .int (nI (S.1 18 aa))])), (yJ y j, .inr (5, [.int (nI (S.1 20 j)), .ref (yP y (S.1 21 j) 0), .ref (yL y (S.1 22 j)), .int (nI (S.1 23 j))]))] ++ (sT G S y (List.range 4) (List.range (S.1 1 0)) ((List.range (S.1 15 0)).erase aa) ((List.range (S.1 19 0)).erase j) ++ wr)) _ := hV
      refine lv_aload hx hb dX5_take_13 (lv_at hl 0 rfl) ?_
      refine va_get (D := kD G) (ci := 2) (v := .int (nI (S.1 16 aa))) (C := RX1) (T := TX1) (N := 4) hx hb hts hinX1 hown hK hV.1 6 rfl rfl 2 (by decide) (hts (Cond.fieldLink RX5 186 "Yarncourt$Lot" "person" "I") (List.mem_of_getElem? (i := 3) rfl)) (fun _ h9 => h9) rfl dX5_take_15 ?_
      refine lv_aload_n hx hb dX5_take_18 rfl (lv_at hl 1 rfl) ?_
      refine va_get (D := kD G) (ci := 5) (v := .int (nI (S.1 20 j))) (C := RX4) (T := TX4) (N := 4) hx hb hts hinX4 hown hK hV.1 7 rfl rfl 0 (by decide) (hts (Cond.fieldLink RX5 205 "Yarncourt$Project" "person" "I") (List.mem_of_getElem? (i := 4) rfl)) (fun _ h9 => h9) rfl dX5_take_19 ?_
      refine kn_eq (tgt := 35) hx hb (by omega) (by omega) dX5_take_22 (by decide) (fun c22 => ?_) (fun c22 => ?_)
      · have hV : kV G (sHd G S y ++ (lotC S y aa ++ (prjC S y j ++ (sT G S y (List.range 4) (List.range (S.1 1 0)) ((List.range (S.1 15 0)).erase aa) ((List.range (S.1 19 0)).erase j) ++ wr)))) _ := hV
        have hV : kV G (siteW G S y ++ wr) _ := kV_wc hV (fun e => by
          have f0 := sT_l (G := G) (S := S) (y := y) (Lb := (List.range 4)) (Lp := (List.range (S.1 1 0))) (Ll := (List.range (S.1 15 0))) (Lj := (List.range (S.1 19 0))) (k := aa) (List.mem_range.mpr (by omega)) e
          have f1 := sT_j (G := G) (S := S) (y := y) (Lb := (List.range 4)) (Lp := (List.range (S.1 1 0))) (Ll := ((List.range (S.1 15 0)).erase aa)) (Lj := (List.range (S.1 19 0))) (k := j) (List.mem_range.mpr (by omega)) e
          unfold siteW; simp only [wc_app]; omega)
        have hV : kV G (siteW G S y ++ wr) _ := hV
        have hV : kV G (sHd G S y ++ (prjC S y j ++ (lotC S y (S.1 22 j) ++ (sT G S y (List.range 4) (List.range (S.1 1 0)) ((List.range (S.1 15 0)).erase (S.1 22 j)) ((List.range (S.1 19 0)).erase j) ++ wr)))) _ := kV_wc hV (fun e => by
          have f0 := sT_j (G := G) (S := S) (y := y) (Lb := (List.range 4)) (Lp := (List.range (S.1 1 0))) (Ll := (List.range (S.1 15 0))) (Lj := (List.range (S.1 19 0))) (k := j) (List.mem_range.mpr (by omega)) e
          have f1 := sT_l (G := G) (S := S) (y := y) (Lb := (List.range 4)) (Lp := (List.range (S.1 1 0))) (Ll := (List.range (S.1 15 0))) (Lj := ((List.range (S.1 19 0)).erase j)) (k := S.1 22 j) (List.mem_range.mpr (by omega)) e
          unfold siteW; simp only [wc_app]; omega)
        have hV : kV G ([(yH y 0, .inr (6, [.ref (yH y 1), .ref (yH y 2), .ref (yH y 3), .ref (yH y 4), .ref (yH y 5)])), (yH y 5, aR (kcI G) 5 S.2.2), (yH y 1, .inr (0, [.int (yM y 0), .ref (yB y 0), .int (nI (S.1 1 0))])), (yH y 2, .inr (0, [.int (yM y 1), .ref (yB y 1), .int (nI (S.1 11 0))])), (yH y 3, .inr (0, [.int (yM y 2), .ref (yB y 2), .int (nI (S.1 15 0))])), (yH y 4, .inr (0, [.int (yM y 3), .ref (yB y 3), .int (nI (S.1 19 0))])), (yJ y j, .inr (5, [.int (nI (S.1 20 j)), .ref (yP y (S.1 21 j) 0), .ref (yL y (S.1 22 j)), .int (nI (S.1 23 j))])), (yL y (S.1 22 j), .inr (2, [.int (nI (S.1 22 j)), .int (nI (S.1 17 (S.1 22 j))), .int (nI (S.1 16 (S.1 22 j))), .int (nI (S.1 18 (S.1 22 j)))]))] ++ (sT G S y (List.range 4) (List.range (S.1 1 0)) ((List.range (S.1 15 0)).erase (S.1 22 j)) ((List.range (S.1 19 0)).erase j) ++ wr)) _ := hV
        refine lv_aload_n hx hb dX5_take_35 rfl (lv_at hl 1 rfl) ?_
        refine va_get (D := kD G) (ci := 5) (v := .ref (yL y (S.1 22 j))) (C := RX4) (T := TX4) (N := 4) hx hb hts hinX4 hown hK hV.1 6 rfl rfl 2 (by decide) (hts (Cond.fieldLink RX5 208 "Yarncourt$Project" "lot" "LYarncourt$Lot;") (List.mem_of_getElem? (i := 5) rfl)) (fun _ h9 => h9) rfl dX5_take_36 ?_
        refine va_get (D := kD G) (ci := 2) (v := .int (nI (S.1 22 j))) (C := RX1) (T := TX1) (N := 4) hx hb hts hinX1 hown hK hV.1 7 rfl rfl 0 (by decide) (hts (Cond.fieldLink RX5 212 "Yarncourt$Lot" "number" "I") (List.mem_of_getElem? (i := 6) rfl)) (fun _ h9 => h9) rfl dX5_take_39 ?_
        refine lv_istore (lv' := [(5, .int (nI (S.1 22 j))), (4, .ref (yL y aa)), (3, .ref (yJ y j)), (0, .ref (yH y 0)), (1, .int (nI (j))), (2, .int (nI (aa)))]) hx hb dX5_take_42 hl (by decide) rfl (fun ls hl => ?_)
        refine lv_aload_n hx hb dX5_take_44 rfl (lv_at hl 2 rfl) ?_
        refine lv_aload hx hb dX5_take_45 (lv_at hl 1 rfl) ?_
        refine va_put (D := kD G) (ci := 5) (v := .ref (yL y aa)) (ty := (.object "Yarncourt$Lot")) (C := RX4) (T := TX4) (N := 4) hx hb hts hinX4 tyX4 tyX4_ok nmX4 hown hK hV.1 hV.2 hS 6 rfl rfl 2 (by decide) (hts (Cond.fieldLink RX5 208 "Yarncourt$Project" "lot" "LYarncourt$Lot;") (List.mem_of_getElem? (i := 5) rfl)) (fun _ h9 => h9) rfl (by decide +kernel) rfl rfl (Nat.le_of_ble_eq_true rfl) dX5_take_47 (fun H locs hP hD hS => ?_)
        have hV : kV G ([(yH y 0, .inr (6, [.ref (yH y 1), .ref (yH y 2), .ref (yH y 3), .ref (yH y 4), .ref (yH y 5)])), (yH y 5, aR (kcI G) 5 S.2.2), (yH y 1, .inr (0, [.int (yM y 0), .ref (yB y 0), .int (nI (S.1 1 0))])), (yH y 2, .inr (0, [.int (yM y 1), .ref (yB y 1), .int (nI (S.1 11 0))])), (yH y 3, .inr (0, [.int (yM y 2), .ref (yB y 2), .int (nI (S.1 15 0))])), (yH y 4, .inr (0, [.int (yM y 3), .ref (yB y 3), .int (nI (S.1 19 0))])), (yJ y j, .inr (5, [.int (nI (S.1 20 j)), .ref (yP y (S.1 21 j) 0), .ref (yL y aa), .int (nI (S.1 23 j))])), (yL y (S.1 22 j), .inr (2, [.int (nI (S.1 22 j)), .int (nI (S.1 17 (S.1 22 j))), .int (nI (S.1 16 (S.1 22 j))), .int (nI (S.1 18 (S.1 22 j)))]))] ++ (sT G S y (List.range 4) (List.range (S.1 1 0)) ((List.range (S.1 15 0)).erase (S.1 22 j)) ((List.range (S.1 19 0)).erase j) ++ wr)) _ := ⟨hP, hD⟩
        refine lv_iload hx hb dX5_take_50 (lv_at hl 0 rfl) ?_
        have hI2 : kInv (st S 22 j aa) := kInv_take hI haa
        have hsc9 : sameC S (st S 22 j aa) := ⟨rfl, rfl, rfl, rfl, rfl, rfl, rfl, rfl⟩
        have hx9 : kExt S (st S 22 j aa) := ext_same hsc9 rfl hI
        have hnq9 : ∀ k, nQ (st S 22 j aa) k = nQ S k := nQ_same rfl rfl rfl rfl
        have hT9 : sT G (st S 22 j aa) y (List.range 4) (List.range (S.1 1 0)) ((List.range (S.1 15 0)).erase (S.1 22 j)) ((List.range (S.1 19 0)).erase j) = sT G S y (List.range 4) (List.range (S.1 1 0)) ((List.range (S.1 15 0)).erase (S.1 22 j)) ((List.range (S.1 19 0)).erase j) := sT_ext hI hI2 hx9 (fun _ _ => rfl) (fun _ _ => rfl) (fun _ _ => rfl) (fun k hi => by
          have h9 := List.mem_range.mp hi
          exact ⟨h9, hnq9 _, rfl, rfl⟩) (fun i hi => by
          have h9 := List.mem_range.mp hi
          exact ⟨h9, rfl, rfl, rfl, rfl, rfl, rfl, pQ_same hsc9 _⟩) (fun i hi => by
          have h9 := of_er hi
          exact ⟨h9.1, rfl, rfl, rfl⟩) (fun i hi => by
          have h9 := of_er hi
          exact ⟨h9.1, rfl, rfl, by simp [st_1, h9.2], rfl⟩)
        have he_lS122j : [(yL y (S.1 22 j), .inr (2, [.int (nI (S.1 22 j)), .int (nI (S.1 17 (S.1 22 j))), .int (nI (S.1 16 (S.1 22 j))), .int (nI (S.1 18 (S.1 22 j)))]))] = lotC (st S 22 j aa) y (S.1 22 j) := rfl
        have he_jj : [(yJ y j, .inr (5, [.int (nI (S.1 20 j)), .ref (yP y (S.1 21 j) 0), .ref (yL y aa), .int (nI (S.1 23 j))]))] = prjC (st S 22 j aa) y j := by unfold prjC; simp [st_1]
        have hV : kV G (sHd G (st S 22 j aa) y ++ ([(yJ y j, .inr (5, [.int (nI (S.1 20 j)), .ref (yP y (S.1 21 j) 0), .ref (yL y aa), .int (nI (S.1 23 j))]))] ++ ([(yL y (S.1 22 j), .inr (2, [.int (nI (S.1 22 j)), .int (nI (S.1 17 (S.1 22 j))), .int (nI (S.1 16 (S.1 22 j))), .int (nI (S.1 18 (S.1 22 j)))]))] ++ (sT G S y (List.range 4) (List.range (S.1 1 0)) ((List.range (S.1 15 0)).erase (S.1 22 j)) ((List.range (S.1 19 0)).erase j) ++ wr)))) _ := hV
        rw [← hT9, he_jj, he_lS122j] at hV
        have hV : kV G (siteW G (st S 22 j aa) y ++ wr) _ := kV_wc hV (fun e => by
          have f0 := sT_j (G := G) (S := st S 22 j aa) (y := y) (Lb := (List.range 4)) (Lp := (List.range (S.1 1 0))) (Ll := (List.range (S.1 15 0))) (Lj := (List.range (S.1 19 0))) (k := j) (List.mem_range.mpr (by omega)) e
          have f1 := sT_l (G := G) (S := st S 22 j aa) (y := y) (Lb := (List.range 4)) (Lp := (List.range (S.1 1 0))) (Ll := (List.range (S.1 15 0))) (Lj := ((List.range (S.1 19 0)).erase j)) (k := S.1 22 j) (List.mem_range.mpr (by omega)) e
          rw [show siteW G (st S 22 j aa) y = sHd G (st S 22 j aa) y ++ sT G (st S 22 j aa) y (List.range 4) (List.range (S.1 1 0)) (List.range (S.1 15 0)) (List.range (S.1 19 0)) from rfl]
          simp only [wc_app]; omega)
        have hop : opTake S (nI j) (nI aa) = (0, nI (S.1 22 j), st S 22 j aa) := by
          unfold opTake
          rw [kif_f (fun z => z ⟨isIn_nI hj, isIn_nI haa⟩), tn_nI hj2, tn_nI haa2, kif_f (fun z => z c22)]
        refine vx_ret ?_
        refine W.widen (k := 3) (n := 18) (by decide) (by decide) ?_
        exact W.iret (v := nI (S.1 22 j)) hx hb hrt (fun t ht hW => ⟨⟨_, y, rfl, (by rw [hop]; exact ⟨rfl, rfl, yI_same hnq9 hY, rfl⟩), kV_eq ht (show kV G (siteW G (opTake S (nI j) (nI aa)).2.2 y ++ wr) _ by rw [hop]; exact hV)⟩, hS.F ht⟩) hS.2.2 dX5_take_52
      · have hV : kV G (sHd G S y ++ (lotC S y aa ++ (prjC S y j ++ (sT G S y (List.range 4) (List.range (S.1 1 0)) ((List.range (S.1 15 0)).erase aa) ((List.range (S.1 19 0)).erase j) ++ wr)))) _ := hV
        have hV : kV G (siteW G S y ++ wr) _ := kV_wc hV (fun e => by
          have f0 := sT_l (G := G) (S := S) (y := y) (Lb := (List.range 4)) (Lp := (List.range (S.1 1 0))) (Ll := (List.range (S.1 15 0))) (Lj := (List.range (S.1 19 0))) (k := aa) (List.mem_range.mpr (by omega)) e
          have f1 := sT_j (G := G) (S := S) (y := y) (Lb := (List.range 4)) (Lp := (List.range (S.1 1 0))) (Ll := ((List.range (S.1 15 0)).erase aa)) (Lj := (List.range (S.1 19 0))) (k := j) (List.mem_range.mpr (by omega)) e
          unfold siteW; simp only [wc_app]; omega)
        have hat9 : ∀ w ∈ vx_atS RX5 73 kISE kUp, w.before _ s = true := vx_hat (B := [.castable kISE kISE, .declares (Bundle.initS "java/lang/RuntimeException"), .declares (Bundle.initS "java/lang/Exception"), .declares (Bundle.initS "java/lang/Throwable")]) (fun w hw => hts w (List.mem_cons_of_mem _ (List.mem_append_left _ (List.mem_append_right _ hw)))) (by decide +kernel) (vx_c ((hE.2.2.1 _ (by decide +kernel)).use rfl) (vx_c ((hE.2.2.1 _ (by decide +kernel)).use rfl) (vx_c ((hE.2.2.1 _ (by decide +kernel)).use rfl) (vx_c ((hE.2.2.1 _ (by decide +kernel)).use rfl) vx_n))))
        exact vx_throwS (names := kUp) (A := kA G) hx hb hlt hown (by decide +kernel) (by decide +kernel) (hts (Cond.classLink RX5 69 "java/lang/IllegalStateException") (List.mem_of_getElem? (i := 1) rfl)) (hts (Cond.initialized "java/lang/IllegalStateException") (List.mem_of_getElem? (i := 2) rfl)) (hE.2.2.2.2.1 _ (List.mem_of_getElem? (i := 7) rfl)) hat9 (by decide +kernel) hE.2.2.2.2.2.1 hE.2.2.2.2.2.2.1 hS (hl.1.trans hml.symm) dX5_take_25 dX5_take_28 dX5_take_29 dX5_take_31 dX5_take_34 (fun x h => (hx0 x h).elim) (Nat.le_of_ble_eq_true rfl) (Nat.le_of_ble_eq_true rfl) (by first | exact Nat.le_of_ble_eq_true rfl | omega) (by first | exact Nat.le_of_ble_eq_true rfl | omega) hlocks (fun t hal9 hsz9 hsm9 => ⟨(), trivial, ⟨Or.inr ⟨rfl, by unfold opTake; rw [kif_f (fun z => z ⟨isIn_nI hj, isIn_nI haa⟩), tn_nI hj2, tn_nI haa2, kif_t c22]⟩, kV_more hV hsm9⟩, kF_more hS hsz9 hsm9⟩) hS.2.2 (by first | exact Nat.le_of_ble_eq_true rfl | omega) (by first | exact Nat.le_of_ble_eq_true rfl | omega)
set_option maxHeartbeats 4000000 in
set_option maxRecDepth 100000 in
theorem c_X5_swap (l : Launch) (hlt : l.stackTraces = false) (G : kG) (S : kS) (y : kY) (wr : va_W) (xa : Int32) (xb : Int32) (hI : kInv S) (hY : yI G S y) : vx_Met l yX5_swap wsX5_swap ({ frames := 7, cells := 3, slots := 18, locals := 111 } : Room) (kPc G [.ref (yH y 0), .int (xa), .int (xb)] (siteW G S y ++ wr)) (kQi G (S := kY) (fun z y2 => (opSwap S xa xb).1 = 0 ∧ z = (opSwap S xa xb).2.1 ∧ yI G (opSwap S xa xb).2.2 y2 ∧ yH y2 0 = yH y 0) (fun y2 => siteW G (opSwap S xa xb).2.2 y2 ++ wr)) (kXC G (xIS (opSwap S xa xb)) (siteW G S y ++ wr)) 3 18 (kA G) := by
  refine vx_ofW (cc := cX5_swap) (maxL := 6) (ret := (some .int)) (by decide) rfl ?_
  intro pp ee s m args below meth cc0 s₁ Bd0 hml hx0 hv
  obtain ⟨rfl, hE, hV⟩ := hv
  have hK := hE.1
  have hx := Bd0.exec
  have hb := Bd0.bytes
  have hrt := Bd0.returns
  have hts := atoms_spec (ws := wsX5_swap) Bd0.pre
  have hown : s.vm.findClass RX5 = some m.cls := findClass_of_methodNamed Bd0.named
  have hlocks := Bd0.notSynchronized
  have hF : CallFix pp m cc0 cX5_swap 6 s _ wsX5_swap RX5 := ⟨hx, hb, hml, hown, hts⟩
  have hinX1 : ∀ w ∈ wsX10, w ∈ wsX5_swap := tb_of [36, 37, 38, 39] rfl
  have hS : va_S (kA G) s.heap s.heap [] := va_S.rf
  have hB0 := hE.2.1
  have hl := lv_entry ([.ref (yH y 0), .int (xa), .int (xb)]) (n := 6) (Nat.le_of_ble_eq_true rfl)
  rw [lg_entry_eq]
  generalize (lg_sl ([.ref (yH y 0), .int (xa), .int (xb)]) ++ List.replicate (6 - (lg_sl ([.ref (yH y 0), .int (xa), .int (xb)])).length) Slot.unset).toArray = ls at hl ⊢
  have hl : lv_has ls 6 [(0, .ref (yH y 0)), (1, .int (xa)), (2, .int (xb))] := hl
  obtain ⟨h1, h2, h3, h4, h5, h6, h7, h8⟩ := id hI
  refine lv_aload_n hx hb dX5_swap_0 rfl (lv_at hl 0 rfl) ?_
  refine lv_iload_n hx hb dX5_swap_1 rfl (lv_at hl 1 rfl) ?_
  refine kx_q (vx_runV (As := [.int (xa)]) (rest := []) hF (c_X5_lotAt l hlt G S y wr xa hI hY) (cwV 1 hts gX5_swap_X5_lotAt rfl rfl rfl (by decide +kernel) ⟨Nat.le_of_ble_eq_true rfl, Nat.le_of_ble_eq_true rfl⟩) (kPreV hE hS hV 0 rfl rfl) rfl rfl hl.1 rfl (lv_room (Nat.le_of_ble_eq_true rfl)) dX5_swap_2 ⟨Nat.le_of_ble_eq_true rfl, Nat.le_of_ble_eq_true rfl⟩) hS (fun E ce q9 H locs hxc hV hS hq1 hq2 hq3 => ?_) (fun r_3 u_2 H locs hp_1 hV hS => ?_)
  · have hV : kV G (siteW G S y ++ wr) _ := hV
    refine vx_widen (k := 3) (n := 18) (by decide) (by decide) ?_
    exact vx_out (fun x h => (hx0 x h).elim) hlocks hq1 hq2 hq3 (fun t ht hal => ⟨(), trivial, ⟨Or.inl ⟨hxc.1, by unfold opSwap; rw [kif_t (fun z => hxc.2 z.1)]⟩, kV_eq ht hV⟩, hS.F ht⟩) hS.2.2 (Nat.le_refl _) (Nat.le_refl _)
  · obtain ⟨hp_1a, hp_1b⟩ := hp_1
    subst hp_1b
    have hV : kV G (siteW G S y ++ wr) _ := hV
    obtain ⟨aa, haa, rfl⟩ := hp_1a
    have haa2 : aa < 2 ^ 31 := by omega
    refine W.eq (g2 := F0 m 5 ls [.ref (yL y aa)]) (by rw [tn_nI haa2]; rfl) ?_
    refine lv_astore_n (lv' := [(3, .ref (yL y aa)), (0, .ref (yH y 0)), (1, .int (nI (aa))), (2, .int (xb))]) hx hb dX5_swap_5 rfl hl (by decide) rfl (fun ls hl => ?_)
    refine lv_aload_n hx hb dX5_swap_6 rfl (lv_at hl 1 rfl) ?_
    refine lv_iload_n hx hb dX5_swap_7 rfl (lv_at hl 3 rfl) ?_
    refine kx_q (vx_runV (As := [.int (xb)]) (rest := []) hF (c_X5_lotAt l hlt G S y wr xb hI hY) (cwV 1 hts gX5_swap_X5_lotAt rfl rfl rfl (by decide +kernel) ⟨Nat.le_of_ble_eq_true rfl, Nat.le_of_ble_eq_true rfl⟩) (kPreV hE hS hV 0 rfl rfl) rfl rfl hl.1 rfl (lv_room (Nat.le_of_ble_eq_true rfl)) dX5_swap_8 ⟨Nat.le_of_ble_eq_true rfl, Nat.le_of_ble_eq_true rfl⟩) hS (fun E ce q9 H locs hxc hV hS hq1 hq2 hq3 => ?_) (fun r_6 u_5 H locs hp_4 hV hS => ?_)
    · have hV : kV G (siteW G S y ++ wr) _ := hV
      refine vx_widen (k := 3) (n := 18) (by decide) (by decide) ?_
      exact vx_out (fun x h => (hx0 x h).elim) hlocks hq1 hq2 hq3 (fun t ht hal => ⟨(), trivial, ⟨Or.inl ⟨hxc.1, by unfold opSwap; rw [kif_t (fun z => hxc.2 z.2)]⟩, kV_eq ht hV⟩, hS.F ht⟩) hS.2.2 (Nat.le_refl _) (Nat.le_refl _)
    · obtain ⟨hp_4a, hp_4b⟩ := hp_4
      subst hp_4b
      have hV : kV G (siteW G S y ++ wr) _ := hV
      obtain ⟨bb, hbb, rfl⟩ := hp_4a
      have hbb2 : bb < 2 ^ 31 := by omega
      refine W.eq (g2 := F0 m 11 ls [.ref (yL y bb)]) (by rw [tn_nI hbb2]; rfl) ?_
      refine lv_astore (lv' := [(4, .ref (yL y bb)), (3, .ref (yL y aa)), (0, .ref (yH y 0)), (1, .int (nI (aa))), (2, .int (nI (bb)))]) hx hb dX5_swap_11 hl (by decide) rfl (fun ls hl => ?_)
      refine lv_aload_n hx hb dX5_swap_13 rfl (lv_at hl 1 rfl) ?_
      have hp8 := (h4 aa haa).1
      have hp9 := (h4 bb hbb).1
      have hV : kV G (siteW G S y ++ wr) _ := hV
      have hV : kV G (sHd G S y ++ (lotC S y aa ++ (sT G S y (List.range 4) (List.range (S.1 1 0)) ((List.range (S.1 15 0)).erase aa) (List.range (S.1 19 0)) ++ wr))) _ := kV_wc hV (fun e => by
        have f0 := sT_l (G := G) (S := S) (y := y) (Lb := (List.range 4)) (Lp := (List.range (S.1 1 0))) (Ll := (List.range (S.1 15 0))) (Lj := (List.range (S.1 19 0))) (k := aa) (List.mem_range.mpr (by omega)) e
        unfold siteW; simp only [wc_app]; omega)
      have hV : kV G ([(yH y 0, .inr (6, [.ref (yH y 1), .ref (yH y 2), .ref (yH y 3), .ref (yH y 4), .ref (yH y 5)])), (yH y 5, aR (kcI G) 5 S.2.2), (yH y 1, .inr (0, [.int (yM y 0), .ref (yB y 0), .int (nI (S.1 1 0))])), (yH y 2, .inr (0, [.int (yM y 1), .ref (yB y 1), .int (nI (S.1 11 0))])), (yH y 3, .inr (0, [.int (yM y 2), .ref (yB y 2), .int (nI (S.1 15 0))])), (yH y 4, .inr (0, [.int (yM y 3), .ref (yB y 3), .int (nI (S.1 19 0))])), (yL y aa, .inr (2, [.int (nI (aa)), .int (nI (S.1 17 aa)), .int (nI (S.1 16 aa)), .int (nI (S.1 18 aa))]))] ++ (sT G S y (List.range 4) (List.range (S.1 1 0)) ((List.range (S.1 15 0)).erase aa) (List.range (S.1 19 0)) ++ wr)) _ := hV
      refine va_get (D := kD G) (ci := 2) (v := .int (nI (S.1 16 aa))) (C := RX1) (T := TX1) (N := 4) hx hb hts hinX1 hown hK hV.1 6 rfl rfl 2 (by decide) (hts (Cond.fieldLink RX5 186 "Yarncourt$Lot" "person" "I") (List.mem_of_getElem? (i := 3) rfl)) (fun _ h9 => h9) rfl dX5_swap_14 ?_
      refine lv_aload hx hb dX5_swap_17 (lv_at hl 0 rfl) ?_
      have hV : kV G (sHd G S y ++ (lotC S y aa ++ (sT G S y (List.range 4) (List.range (S.1 1 0)) ((List.range (S.1 15 0)).erase aa) (List.range (S.1 19 0)) ++ wr))) _ := hV
      have hV : kV G (siteW G S y ++ wr) _ := kV_wc hV (fun e => by
        have f0 := sT_l (G := G) (S := S) (y := y) (Lb := (List.range 4)) (Lp := (List.range (S.1 1 0))) (Ll := (List.range (S.1 15 0))) (Lj := (List.range (S.1 19 0))) (k := aa) (List.mem_range.mpr (by omega)) e
        unfold siteW; simp only [wc_app]; omega)
      have hV : kV G (siteW G S y ++ wr) _ := hV
      have hV : kV G (sHd G S y ++ (lotC S y bb ++ (sT G S y (List.range 4) (List.range (S.1 1 0)) ((List.range (S.1 15 0)).erase bb) (List.range (S.1 19 0)) ++ wr))) _ := kV_wc hV (fun e => by
        have f0 := sT_l (G := G) (S := S) (y := y) (Lb := (List.range 4)) (Lp := (List.range (S.1 1 0))) (Ll := (List.range (S.1 15 0))) (Lj := (List.range (S.1 19 0))) (k := bb) (List.mem_range.mpr (by omega)) e
        unfold siteW; simp only [wc_app]; omega)
      have hV : kV G ([(yH y 0, .inr (6, [.ref (yH y 1), .ref (yH y 2), .ref (yH y 3), .ref (yH y 4), .ref (yH y 5)])), (yH y 5, aR (kcI G) 5 S.2.2), (yH y 1, .inr (0, [.int (yM y 0), .ref (yB y 0), .int (nI (S.1 1 0))])), (yH y 2, .inr (0, [.int (yM y 1), .ref (yB y 1), .int (nI (S.1 11 0))])), (yH y 3, .inr (0, [.int (yM y 2), .ref (yB y 2), .int (nI (S.1 15 0))])), (yH y 4, .inr (0, [.int (yM y 3), .ref (yB y 3), .int (nI (S.1 19 0))])), (yL y bb, .inr (2, [.int (nI (bb)), .int (nI (S.1 17 bb)), .int (nI (S.1 16 bb)), .int (nI (S.1 18 bb))]))] ++ (sT G S y (List.range 4) (List.range (S.1 1 0)) ((List.range (S.1 15 0)).erase bb) (List.range (S.1 19 0)) ++ wr)) _ := hV
      refine va_get (D := kD G) (ci := 2) (v := .int (nI (S.1 16 bb))) (C := RX1) (T := TX1) (N := 4) hx hb hts hinX1 hown hK hV.1 6 rfl rfl 2 (by decide) (hts (Cond.fieldLink RX5 186 "Yarncourt$Lot" "person" "I") (List.mem_of_getElem? (i := 3) rfl)) (fun _ h9 => h9) rfl dX5_swap_19 ?_
      refine kn_ne (tgt := 35) hx hb (by omega) (by omega) dX5_swap_22 (by decide) (fun c22 => ?_) (fun c22 => ?_)
      · have hab : aa ≠ bb := fun z => c22 (by rw [z])
        have hV : kV G (sHd G S y ++ (lotC S y bb ++ (sT G S y (List.range 4) (List.range (S.1 1 0)) ((List.range (S.1 15 0)).erase bb) (List.range (S.1 19 0)) ++ wr))) _ := hV
        have hV : kV G (siteW G S y ++ wr) _ := kV_wc hV (fun e => by
          have f0 := sT_l (G := G) (S := S) (y := y) (Lb := (List.range 4)) (Lp := (List.range (S.1 1 0))) (Ll := (List.range (S.1 15 0))) (Lj := (List.range (S.1 19 0))) (k := bb) (List.mem_range.mpr (by omega)) e
          unfold siteW; simp only [wc_app]; omega)
        have hV : kV G (siteW G S y ++ wr) _ := hV
        have hV : kV G (sHd G S y ++ (lotC S y aa ++ (lotC S y bb ++ (sT G S y (List.range 4) (List.range (S.1 1 0)) (((List.range (S.1 15 0)).erase aa).erase bb) (List.range (S.1 19 0)) ++ wr)))) _ := kV_wc hV (fun e => by
          have f0 := sT_l (G := G) (S := S) (y := y) (Lb := (List.range 4)) (Lp := (List.range (S.1 1 0))) (Ll := (List.range (S.1 15 0))) (Lj := (List.range (S.1 19 0))) (k := aa) (List.mem_range.mpr (by omega)) e
          have f1 := sT_l (G := G) (S := S) (y := y) (Lb := (List.range 4)) (Lp := (List.range (S.1 1 0))) (Ll := ((List.range (S.1 15 0)).erase aa)) (Lj := (List.range (S.1 19 0))) (k := bb) (mem_er (by omega) (by omega)) e
          unfold siteW; simp only [wc_app]; omega)
        have hV : kV G ([(yH y 0, .inr (6, [.ref (yH y 1), .ref (yH y 2), .ref (yH y 3), .ref (yH y 4), .ref (yH y 5)])), (yH y 5, aR (kcI G) 5 S.2.2), (yH y 1, .inr (0, [.int (yM y 0), .ref (yB y 0), .int (nI (S.1 1 0))])), (yH y 2, .inr (0, [.int (yM y 1), .ref (yB y 1), .int (nI (S.1 11 0))])), (yH y 3, .inr (0, [.int (yM y 2), .ref (yB y 2), .int (nI (S.1 15 0))])), (yH y 4, .inr (0, [.int (yM y 3), .ref (yB y 3), .int (nI (S.1 19 0))])), (yL y aa, .inr (2, [.int (nI (aa)), .int (nI (S.1 17 aa)), .int (nI (S.1 16 aa)), .int (nI (S.1 18 aa))])), (yL y bb, .inr (2, [.int (nI (bb)), .int (nI (S.1 17 bb)), .int (nI (S.1 16 bb)), .int (nI (S.1 18 bb))]))] ++ (sT G S y (List.range 4) (List.range (S.1 1 0)) (((List.range (S.1 15 0)).erase aa).erase bb) (List.range (S.1 19 0)) ++ wr)) _ := hV
        refine lv_aload_n hx hb dX5_swap_35 rfl (lv_at hl 1 rfl) ?_
        refine va_get (D := kD G) (ci := 2) (v := .int (nI (S.1 16 aa))) (C := RX1) (T := TX1) (N := 4) hx hb hts hinX1 hown hK hV.1 6 rfl rfl 2 (by decide) (hts (Cond.fieldLink RX5 186 "Yarncourt$Lot" "person" "I") (List.mem_of_getElem? (i := 3) rfl)) (fun _ h9 => h9) rfl dX5_swap_36 ?_
        refine lv_istore (lv' := [(5, .int (nI (S.1 16 aa))), (4, .ref (yL y bb)), (3, .ref (yL y aa)), (0, .ref (yH y 0)), (1, .int (nI (aa))), (2, .int (nI (bb)))]) hx hb dX5_swap_39 hl (by decide) rfl (fun ls hl => ?_)
        refine lv_aload_n hx hb dX5_swap_41 rfl (lv_at hl 2 rfl) ?_
        refine lv_aload hx hb dX5_swap_42 (lv_at hl 1 rfl) ?_
        refine va_get (D := kD G) (ci := 2) (v := .int (nI (S.1 16 bb))) (C := RX1) (T := TX1) (N := 4) hx hb hts hinX1 hown hK hV.1 7 rfl rfl 2 (by decide) (hts (Cond.fieldLink RX5 186 "Yarncourt$Lot" "person" "I") (List.mem_of_getElem? (i := 3) rfl)) (fun _ h9 => h9) rfl dX5_swap_44 ?_
        refine va_put (D := kD G) (ci := 2) (v := .int (nI (S.1 16 bb))) (ty := .int) (C := RX1) (T := TX1) (N := 4) hx hb hts hinX1 tyX1 tyX1_ok nmX1 hown hK hV.1 hV.2 hS 6 rfl rfl 2 (by decide) (hts (Cond.fieldLink RX5 186 "Yarncourt$Lot" "person" "I") (List.mem_of_getElem? (i := 3) rfl)) (fun _ h9 => h9) rfl (by decide +kernel) rfl rfl (Nat.le_of_ble_eq_true rfl) dX5_swap_47 (fun H locs hP hD hS => ?_)
        have hV : kV G ([(yH y 0, .inr (6, [.ref (yH y 1), .ref (yH y 2), .ref (yH y 3), .ref (yH y 4), .ref (yH y 5)])), (yH y 5, aR (kcI G) 5 S.2.2), (yH y 1, .inr (0, [.int (yM y 0), .ref (yB y 0), .int (nI (S.1 1 0))])), (yH y 2, .inr (0, [.int (yM y 1), .ref (yB y 1), .int (nI (S.1 11 0))])), (yH y 3, .inr (0, [.int (yM y 2), .ref (yB y 2), .int (nI (S.1 15 0))])), (yH y 4, .inr (0, [.int (yM y 3), .ref (yB y 3), .int (nI (S.1 19 0))])), (yL y aa, .inr (2, [.int (nI (aa)), .int (nI (S.1 17 aa)), .int (nI (S.1 16 bb)), .int (nI (S.1 18 aa))])), (yL y bb, .inr (2, [.int (nI (bb)), .int (nI (S.1 17 bb)), .int (nI (S.1 16 bb)), .int (nI (S.1 18 bb))]))] ++ (sT G S y (List.range 4) (List.range (S.1 1 0)) (((List.range (S.1 15 0)).erase aa).erase bb) (List.range (S.1 19 0)) ++ wr)) _ := ⟨hP, hD⟩
        refine lv_aload hx hb dX5_swap_50 (lv_at hl 1 rfl) ?_
        refine lv_iload hx hb dX5_swap_52 (lv_at hl 0 rfl) ?_
        refine va_put (D := kD G) (ci := 2) (v := .int (nI (S.1 16 aa))) (ty := .int) (C := RX1) (T := TX1) (N := 4) hx hb hts hinX1 tyX1 tyX1_ok nmX1 hown hK hV.1 hV.2 hS 7 rfl rfl 2 (by decide) (hts (Cond.fieldLink RX5 186 "Yarncourt$Lot" "person" "I") (List.mem_of_getElem? (i := 3) rfl)) (fun _ h9 => h9) rfl (by decide +kernel) rfl rfl (Nat.le_of_ble_eq_true rfl) dX5_swap_54 (fun H locs hP hD hS => ?_)
        have hV : kV G ([(yH y 0, .inr (6, [.ref (yH y 1), .ref (yH y 2), .ref (yH y 3), .ref (yH y 4), .ref (yH y 5)])), (yH y 5, aR (kcI G) 5 S.2.2), (yH y 1, .inr (0, [.int (yM y 0), .ref (yB y 0), .int (nI (S.1 1 0))])), (yH y 2, .inr (0, [.int (yM y 1), .ref (yB y 1), .int (nI (S.1 11 0))])), (yH y 3, .inr (0, [.int (yM y 2), .ref (yB y 2), .int (nI (S.1 15 0))])), (yH y 4, .inr (0, [.int (yM y 3), .ref (yB y 3), .int (nI (S.1 19 0))])), (yL y aa, .inr (2, [.int (nI (aa)), .int (nI (S.1 17 aa)), .int (nI (S.1 16 bb)), .int (nI (S.1 18 aa))])), (yL y bb, .inr (2, [.int (nI (bb)), .int (nI (S.1 17 bb)), .int (nI (S.1 16 aa)), .int (nI (S.1 18 bb))]))] ++ (sT G S y (List.range 4) (List.range (S.1 1 0)) (((List.range (S.1 15 0)).erase aa).erase bb) (List.range (S.1 19 0)) ++ wr)) _ := ⟨hP, hD⟩
        refine lv_aload_n hx hb dX5_swap_57 rfl (lv_at hl 2 rfl) ?_
        refine va_get (D := kD G) (ci := 2) (v := .int (nI (S.1 16 bb))) (C := RX1) (T := TX1) (N := 4) hx hb hts hinX1 hown hK hV.1 6 rfl rfl 2 (by decide) (hts (Cond.fieldLink RX5 186 "Yarncourt$Lot" "person" "I") (List.mem_of_getElem? (i := 3) rfl)) (fun _ h9 => h9) rfl dX5_swap_58 ?_
        have hI2 : kInv (swapS S aa bb) := kInv_swapS hI haa hbb
        have hsc9 : sameC S (swapS S aa bb) := ⟨rfl, rfl, rfl, rfl, rfl, rfl, rfl, rfl⟩
        have hx9 : kExt S (swapS S aa bb) := ext_same hsc9 rfl hI
        have hnq9 : ∀ k, nQ (swapS S aa bb) k = nQ S k := nQ_same rfl rfl rfl rfl
        have hT9 : sT G (swapS S aa bb) y (List.range 4) (List.range (S.1 1 0)) (((List.range (S.1 15 0)).erase aa).erase bb) (List.range (S.1 19 0)) = sT G S y (List.range 4) (List.range (S.1 1 0)) (((List.range (S.1 15 0)).erase aa).erase bb) (List.range (S.1 19 0)) := sT_ext hI hI2 hx9 (fun _ _ => rfl) (fun _ _ => rfl) (fun _ _ => rfl) (fun k hi => by
          have h9 := List.mem_range.mp hi
          exact ⟨h9, hnq9 _, rfl, rfl⟩) (fun i hi => by
          have h9 := List.mem_range.mp hi
          exact ⟨h9, rfl, rfl, rfl, rfl, rfl, rfl, pQ_same hsc9 _⟩) (fun i hi => by
          have h9 := of_er2 hi
          exact ⟨h9.1, by simp [swapS, st_1, h9.2.1, h9.2.2], rfl, rfl⟩) (fun i hi => by
          have h9 := List.mem_range.mp hi
          exact ⟨h9, rfl, rfl, rfl, rfl⟩)
        have he_lbb : [(yL y bb, .inr (2, [.int (nI (bb)), .int (nI (S.1 17 bb)), .int (nI (S.1 16 aa)), .int (nI (S.1 18 bb))]))] = lotC (swapS S aa bb) y bb := by unfold lotC; simp [swapS, st_1]
        have he_laa : [(yL y aa, .inr (2, [.int (nI (aa)), .int (nI (S.1 17 aa)), .int (nI (S.1 16 bb)), .int (nI (S.1 18 aa))]))] = lotC (swapS S aa bb) y aa := by unfold lotC; simp [swapS, st_1, hab]
        have hV : kV G (sHd G (swapS S aa bb) y ++ ([(yL y aa, .inr (2, [.int (nI (aa)), .int (nI (S.1 17 aa)), .int (nI (S.1 16 bb)), .int (nI (S.1 18 aa))]))] ++ ([(yL y bb, .inr (2, [.int (nI (bb)), .int (nI (S.1 17 bb)), .int (nI (S.1 16 aa)), .int (nI (S.1 18 bb))]))] ++ (sT G S y (List.range 4) (List.range (S.1 1 0)) (((List.range (S.1 15 0)).erase aa).erase bb) (List.range (S.1 19 0)) ++ wr)))) _ := hV
        rw [← hT9, he_laa, he_lbb] at hV
        have hV : kV G (siteW G (swapS S aa bb) y ++ wr) _ := kV_wc hV (fun e => by
          have f0 := sT_l (G := G) (S := swapS S aa bb) (y := y) (Lb := (List.range 4)) (Lp := (List.range (S.1 1 0))) (Ll := (List.range (S.1 15 0))) (Lj := (List.range (S.1 19 0))) (k := aa) (List.mem_range.mpr (by omega)) e
          have f1 := sT_l (G := G) (S := swapS S aa bb) (y := y) (Lb := (List.range 4)) (Lp := (List.range (S.1 1 0))) (Ll := ((List.range (S.1 15 0)).erase aa)) (Lj := (List.range (S.1 19 0))) (k := bb) (mem_er (by omega) (by omega)) e
          rw [show siteW G (swapS S aa bb) y = sHd G (swapS S aa bb) y ++ sT G (swapS S aa bb) y (List.range 4) (List.range (S.1 1 0)) (List.range (S.1 15 0)) (List.range (S.1 19 0)) from rfl]
          simp only [wc_app]; omega)
        have hop : opSwap S (nI aa) (nI bb) = (0, nI (S.1 16 bb), swapS S aa bb) := by
          unfold opSwap
          rw [kif_f (fun z => z ⟨isIn_nI haa, isIn_nI hbb⟩), tn_nI haa2, tn_nI hbb2, kif_f c22]
        refine vx_ret ?_
        refine W.widen (k := 3) (n := 18) (by decide) (by decide) ?_
        exact W.iret (v := nI (S.1 16 bb)) hx hb hrt (fun t ht hW => ⟨⟨_, y, rfl, (by rw [hop]; exact ⟨rfl, rfl, yI_same hnq9 hY, rfl⟩), kV_eq ht (show kV G (siteW G (opSwap S (nI aa) (nI bb)).2.2 y ++ wr) _ by rw [hop]; exact hV)⟩, hS.F ht⟩) hS.2.2 dX5_swap_61
      · have hV : kV G (sHd G S y ++ (lotC S y bb ++ (sT G S y (List.range 4) (List.range (S.1 1 0)) ((List.range (S.1 15 0)).erase bb) (List.range (S.1 19 0)) ++ wr))) _ := hV
        have hV : kV G (siteW G S y ++ wr) _ := kV_wc hV (fun e => by
          have f0 := sT_l (G := G) (S := S) (y := y) (Lb := (List.range 4)) (Lp := (List.range (S.1 1 0))) (Ll := (List.range (S.1 15 0))) (Lj := (List.range (S.1 19 0))) (k := bb) (List.mem_range.mpr (by omega)) e
          unfold siteW; simp only [wc_app]; omega)
        have hat9 : ∀ w ∈ vx_atS RX5 73 kISE kUp, w.before _ s = true := vx_hat (B := [.castable kISE kISE, .declares (Bundle.initS "java/lang/RuntimeException"), .declares (Bundle.initS "java/lang/Exception"), .declares (Bundle.initS "java/lang/Throwable")]) (fun w hw => hts w (List.mem_cons_of_mem _ (List.mem_append_left _ (List.mem_append_right _ hw)))) (by decide +kernel) (vx_c ((hE.2.2.1 _ (by decide +kernel)).use rfl) (vx_c ((hE.2.2.1 _ (by decide +kernel)).use rfl) (vx_c ((hE.2.2.1 _ (by decide +kernel)).use rfl) (vx_c ((hE.2.2.1 _ (by decide +kernel)).use rfl) vx_n))))
        exact vx_throwS (names := kUp) (A := kA G) hx hb hlt hown (by decide +kernel) (by decide +kernel) (hts (Cond.classLink RX5 69 "java/lang/IllegalStateException") (List.mem_of_getElem? (i := 1) rfl)) (hts (Cond.initialized "java/lang/IllegalStateException") (List.mem_of_getElem? (i := 2) rfl)) (hE.2.2.2.2.1 _ (List.mem_of_getElem? (i := 5) rfl)) hat9 (by decide +kernel) hE.2.2.2.2.2.1 hE.2.2.2.2.2.2.1 hS (hl.1.trans hml.symm) dX5_swap_25 dX5_swap_28 dX5_swap_29 dX5_swap_31 dX5_swap_34 (fun x h => (hx0 x h).elim) (Nat.le_of_ble_eq_true rfl) (Nat.le_of_ble_eq_true rfl) (by first | exact Nat.le_of_ble_eq_true rfl | omega) (by first | exact Nat.le_of_ble_eq_true rfl | omega) hlocks (fun t hal9 hsz9 hsm9 => ⟨(), trivial, ⟨Or.inr ⟨rfl, by unfold opSwap; rw [kif_f (fun z => z ⟨isIn_nI haa, isIn_nI hbb⟩), tn_nI haa2, tn_nI hbb2, kif_t c22]⟩, kV_more hV hsm9⟩, kF_more hS hsz9 hsm9⟩) hS.2.2 (by first | exact Nat.le_of_ble_eq_true rfl | omega) (by first | exact Nat.le_of_ble_eq_true rfl | omega)
