theorem wc_two (e x y : Nat × va_E) (l : va_W) : wc e (x :: y :: l) = wc e [x] + wc e (y :: l) := wc_cons e x (y :: l)
section SUCC
variable {G : kG} {S : kS} {y : kY} {Lb Lp Ll Lj : List Nat}
theorem sT_ps (n : Nat) (e : Nat × va_E) : wc e (sT G S y Lb (List.range (n + 1)) Ll Lj) = wc e (patC G S y n) + wc e (sT G S y Lb (List.range n) Ll Lj) := by
  unfold sT; rw [wsL_succ]; simp only [wc_app]; omega
theorem sT_ls (n : Nat) (e : Nat × va_E) : wc e (sT G S y Lb Lp (List.range (n + 1)) Lj) = wc e (lotC S y n) + wc e (sT G S y Lb Lp (List.range n) Lj) := by
  unfold sT; rw [wsL_succ]; simp only [wc_app]; omega
theorem sT_js (n : Nat) (e : Nat × va_E) : wc e (sT G S y Lb Lp Ll (List.range (n + 1))) = wc e (prjC S y n) + wc e (sT G S y Lb Lp Ll (List.range n)) := by
  unfold sT; rw [wsL_succ]; simp only [wc_app]; omega
theorem mem_wsL {f : Nat → va_W} {L : List Nat} {i : Nat} {q : Nat × va_E} (h : i ∈ L) (hq : q ∈ f i) : q ∈ wsL f L := List.mem_flatMap.mpr ⟨i, h, hq⟩
theorem in_sT_p {i : Nat} (h : i ∈ Lp) : ∃ vs, (yP y i 0, (.inr (3, vs) : va_E)) ∈ sT G S y Lb Lp Ll Lj :=
  ⟨_, List.mem_append_right _ (List.mem_append_left _ (mem_wsL h List.mem_cons_self))⟩
theorem in_sT_l {a : Nat} (h : a ∈ Ll) : ∃ vs, (yL y a, (.inr (2, vs) : va_E)) ∈ sT G S y Lb Lp Ll Lj :=
  ⟨_, List.mem_append_right _ (List.mem_append_right _ (List.mem_append_left _ (mem_wsL h List.mem_cons_self)))⟩
theorem in_sT_j {j : Nat} (h : j ∈ Lj) : ∃ vs, (yJ y j, (.inr (5, vs) : va_E)) ∈ sT G S y Lb Lp Ll Lj :=
  ⟨_, List.mem_append_right _ (List.mem_append_right _ (List.mem_append_right _ (mem_wsL h List.mem_cons_self)))⟩
theorem el_of {x ci : Nat} {W O r : va_W} (h : ∃ vs, (x, (.inr (ci, vs) : va_E)) ∈ W) : ∃ (k : Nat) (vs : List Value), (O ++ (W ++ r))[k]? = some (x, .inr (ci, vs)) := by
  obtain ⟨vs, hv⟩ := h
  obtain ⟨k, hk⟩ := List.mem_iff_getElem?.mp (List.mem_append_right O (List.mem_append_left r hv))
  exact ⟨k, vs, hk⟩
end SUCC
set_option maxHeartbeats 4000000 in
set_option maxRecDepth 100000 in
theorem c_X5_lot (l : Launch) (hlt : l.stackTraces = false) (G : kG) (S : kS) (y : kY) (wr : va_W) (x : Int32) (xg : Int32) (xy : Int32) (hI : kInv S) (hY : yI G S y) : vx_Met l yX5_lot wsX5_lot ({ frames := 8, cells := 6, slots := 80, locals := 191 } : Room) (kPc G [.ref (yH y 0), .int (x), .int (xg), .int (xy)] (siteW G S y ++ wr)) (kQi G (S := kY) (fun z y2 => (opLot S x xg xy).1 = 0 ∧ z = (opLot S x xg xy).2.1 ∧ yI G (opLot S x xg xy).2.2 y2 ∧ yH y2 0 = yH y 0) (fun y2 => siteW G (opLot S x xg xy).2.2 y2 ++ wr)) (kXC G (xIAS (opLot S x xg xy)) (siteW G S y ++ wr)) 6 80 (kA G) := by
  refine vx_ofW (cc := cX5_lot) (maxL := 5) (ret := (some .int)) (by decide) rfl ?_
  intro pp ee s m args below meth cc0 s₁ Bd0 hml hx0 hv
  obtain ⟨rfl, hE, hV⟩ := hv
  have hK := hE.1
  have hx := Bd0.exec
  have hb := Bd0.bytes
  have hrt := Bd0.returns
  have hts := atoms_spec (ws := wsX5_lot) Bd0.pre
  have hown : s.vm.findClass RX5 = some m.cls := findClass_of_methodNamed Bd0.named
  have hlocks := Bd0.notSynchronized
  have hF : CallFix pp m cc0 cX5_lot 5 s _ wsX5_lot RX5 := ⟨hx, hb, hml, hown, hts⟩
  have hinX1 : ∀ w ∈ wsX10, w ∈ wsX5_lot := tb_of [97, 98, 99, 100] rfl
  have hinX5 : ∀ w ∈ wsX50, w ∈ wsX5_lot := tb_of [92, 93, 94, 95, 96] rfl
  have hS : va_S (kA G) s.heap s.heap [] := va_S.rf
  have hB0 := hE.2.1
  have hl := lv_entry ([.ref (yH y 0), .int (x), .int (xg), .int (xy)]) (n := 5) (Nat.le_of_ble_eq_true rfl)
  rw [lg_entry_eq]
  generalize (lg_sl ([.ref (yH y 0), .int (x), .int (xg), .int (xy)]) ++ List.replicate (5 - (lg_sl ([.ref (yH y 0), .int (x), .int (xg), .int (xy)])).length) Slot.unset).toArray = ls at hl ⊢
  have hl : lv_has ls 5 [(0, .ref (yH y 0)), (1, .int (x)), (2, .int (xg)), (3, .int (xy))] := hl
  obtain ⟨h1, h2, h3, h4, h5, h6, h7, h8⟩ := id hI
  refine lv_iload_n hx hb dX5_lot_0 rfl (lv_at hl 1 rfl) ?_
  refine kx_v (vx_runS (As := [.int (x)]) (rest := []) hF (c_X5_checkPerson l hlt G x (siteW G S y ++ wr)) (va_cwS 1 hts gX5_lot_X5_checkPerson rfl rfl rfl (by decide +kernel) ⟨Nat.le_of_ble_eq_true rfl, Nat.le_of_ble_eq_true rfl⟩) (kPreS hE hS hV) rfl rfl hl.1 rfl (lv_room (Nat.le_of_ble_eq_true rfl)) dX5_lot_1 ⟨Nat.le_of_ble_eq_true rfl, Nat.le_of_ble_eq_true rfl⟩) hS (fun E ce q9 H locs hxc hV hS hq1 hq2 hq3 => ?_) (fun u_2 H locs hp_1 hV hS => ?_)
  · have hV : kV G (siteW G S y ++ wr) _ := hV
    refine vx_widen (k := 6) (n := 80) (by decide) (by decide) ?_
    exact vx_out (fun x h => (hx0 x h).elim) hlocks hq1 hq2 hq3 (fun t ht hal => ⟨(), trivial, ⟨Or.inl ⟨hxc.1, by unfold opLot; rw [kif_t hxc.2]⟩, kV_eq ht hV⟩, hS.F ht⟩) hS.2.2 (Nat.le_refl _) (Nat.le_refl _)
  · have hV : kV G (siteW G S y ++ wr) _ := hV
    obtain ⟨j, hj, rfl⟩ := hp_1
    have hj2 : j < 2 ^ 31 := by omega
    refine lv_iload_n hx hb dX5_lot_4 rfl (lv_at hl 2 rfl) ?_
    refine kx_v (vx_runS (As := [.int (xg)]) (rest := []) hF (c_X5_checkGauge l hlt G xg (siteW G S y ++ wr)) (va_cwS 1 hts gX5_lot_X5_checkGauge rfl rfl rfl (by decide +kernel) ⟨Nat.le_of_ble_eq_true rfl, Nat.le_of_ble_eq_true rfl⟩) (kPreS hE hS hV) rfl rfl hl.1 rfl (lv_room (Nat.le_of_ble_eq_true rfl)) dX5_lot_5 ⟨Nat.le_of_ble_eq_true rfl, Nat.le_of_ble_eq_true rfl⟩) hS (fun E ce q9 H locs hxc hV hS hq1 hq2 hq3 => ?_) (fun u_5 H locs hp_4 hV hS => ?_)
    · have hV : kV G (siteW G S y ++ wr) _ := hV
      refine vx_widen (k := 6) (n := 80) (by decide) (by decide) ?_
      exact vx_out (fun x h => (hx0 x h).elim) hlocks hq1 hq2 hq3 (fun t ht hal => ⟨(), trivial, ⟨Or.inr (Or.inl ⟨hxc.1, by unfold opLot; rw [kif_f (fun z => z (isIn_nI hj)), kif_t (fun z => hxc.2 z.1)]⟩), kV_eq ht hV⟩, hS.F ht⟩) hS.2.2 (Nat.le_refl _) (Nat.le_refl _)
    · have hV : kV G (siteW G S y ++ wr) _ := hV
      obtain ⟨gg, hggl, hggh, rfl⟩ := rng_nI hp_4 (by decide) (by decide)
      have hgg2 : gg < 2 ^ 31 := by omega
      refine lv_iload_n hx hb dX5_lot_8 rfl (lv_at hl 3 rfl) ?_
      refine lv_iconst (v := nI 1) hx hb dX5_lot_9 (by decide) ?_
      refine lv_ldc (v := nI 100000) hx hb hown (hts (Cond.constant RX5 172 (100000)) (List.mem_of_getElem? (i := 3) rfl)) dX5_lot_10 ?_
      refine kx_v (vx_runS (As := [.int (xy), .int (nI (1)), .int (nI (100000))]) (rest := []) hF (c_X5_checkRange l hlt G xy (nI 1) (nI 100000) (siteW G S y ++ wr)) (va_cwS 3 hts gX5_lot_X5_checkRange rfl rfl rfl (by decide +kernel) ⟨Nat.le_of_ble_eq_true rfl, Nat.le_of_ble_eq_true rfl⟩) (kPreS hE hS hV) rfl rfl hl.1 rfl (lv_room (Nat.le_of_ble_eq_true rfl)) dX5_lot_12 ⟨Nat.le_of_ble_eq_true rfl, Nat.le_of_ble_eq_true rfl⟩) hS (fun E ce q9 H locs hxc hV hS hq1 hq2 hq3 => ?_) (fun u_8 H locs hp_7 hV hS => ?_)
      · have hV : kV G (siteW G S y ++ wr) _ := hV
        refine vx_widen (k := 6) (n := 80) (by decide) (by decide) ?_
        exact vx_out (fun x h => (hx0 x h).elim) hlocks hq1 hq2 hq3 (fun t ht hal => ⟨(), trivial, ⟨Or.inr (Or.inl ⟨hxc.1, by unfold opLot; rw [kif_f (fun z => z (isIn_nI hj)), kif_t (fun z => hxc.2 z.2)]⟩), kV_eq ht hV⟩, hS.F ht⟩) hS.2.2 (Nat.le_refl _) (Nat.le_refl _)
      · have hV : kV G (siteW G S y ++ wr) _ := hV
        obtain ⟨yy, hyyl, hyyh, rfl⟩ := rng_nI hp_7 (by decide) (by decide)
        have hyy2 : yy < 2 ^ 31 := by omega
        have hV : kV G (siteW G S y ++ wr) _ := hV
        have hV : kV G ([(yH y 0, .inr (6, [.ref (yH y 1), .ref (yH y 2), .ref (yH y 3), .ref (yH y 4), .ref (yH y 5)])), (yH y 5, aR (kcI G) 5 S.2.2), (yH y 1, .inr (0, [.int (yM y 0), .ref (yB y 0), .int (nI (S.1 1 0))])), (yH y 2, .inr (0, [.int (yM y 1), .ref (yB y 1), .int (nI (S.1 11 0))])), (yH y 3, .inr (0, [.int (yM y 2), .ref (yB y 2), .int (nI (S.1 15 0))])), (yH y 4, .inr (0, [.int (yM y 3), .ref (yB y 3), .int (nI (S.1 19 0))]))] ++ (sT G S y (List.range 4) (List.range (S.1 1 0)) (List.range (S.1 15 0)) (List.range (S.1 19 0)) ++ wr)) _ := hV
        refine lv_aload_n hx hb dX5_lot_15 rfl (lv_at hl 0 rfl) ?_
        refine va_get (D := kD G) (ci := 6) (v := .ref (yH y 3)) (C := RX5) (T := TX5) (N := 5) hx hb hts hinX5 hown hK hV.1 0 rfl rfl 2 (by decide) (hts (Cond.fieldLink RX5 19 "Yarncourt" "lots" "Ljava/util/ArrayList;") (List.mem_of_getElem? (i := 4) rfl)) (fun _ h9 => h9) rfl dX5_lot_16 ?_
        have hV : kV G ([(yH y 3, .inr (0, [.int (yM y 2), .ref (yB y 2), .int (nI (S.1 15 0))])), (yH y 0, .inr (6, [.ref (yH y 1), .ref (yH y 2), .ref (yH y 3), .ref (yH y 4), .ref (yH y 5)])), (yH y 5, aR (kcI G) 5 S.2.2), (yH y 1, .inr (0, [.int (yM y 0), .ref (yB y 0), .int (nI (S.1 1 0))])), (yH y 2, .inr (0, [.int (yM y 1), .ref (yB y 1), .int (nI (S.1 11 0))])), (yH y 4, .inr (0, [.int (yM y 3), .ref (yB y 3), .int (nI (S.1 19 0))]))] ++ (sT G S y (List.range 4) (List.range (S.1 1 0)) (List.range (S.1 15 0)) (List.range (S.1 19 0)) ++ wr)) _ := kV_part hV [4, 0, 1, 2, 3, 5] rfl rfl
        refine kc_i (va_runV (As := []) (rest := []) hF (c_Jx4a65c_size_8abf5 l G (yH y 3) (yM y 2) (yB y 2) (S.1 15 0) ([(yH y 0, .inr (6, [.ref (yH y 1), .ref (yH y 2), .ref (yH y 3), .ref (yH y 4), .ref (yH y 5)])), (yH y 5, aR (kcI G) 5 S.2.2), (yH y 1, .inr (0, [.int (yM y 0), .ref (yB y 0), .int (nI (S.1 1 0))])), (yH y 2, .inr (0, [.int (yM y 1), .ref (yB y 1), .int (nI (S.1 11 0))])), (yH y 4, .inr (0, [.int (yM y 3), .ref (yB y 3), .int (nI (S.1 19 0))]))] ++ (sT G S y (List.range 4) (List.range (S.1 1 0)) (List.range (S.1 15 0)) (List.range (S.1 19 0)) ++ wr))) (cwV 0 hts gX5_lot_Jx4a65c_size_8abf5 rfl rfl rfl (by decide +kernel) ⟨Nat.le_of_ble_eq_true rfl, Nat.le_of_ble_eq_true rfl⟩) (kPreV hE hS hV 0 rfl rfl) rfl rfl hl.1 rfl (lv_room (Nat.le_of_ble_eq_true rfl)) dX5_lot_19 ⟨Nat.le_of_ble_eq_true rfl, Nat.le_of_ble_eq_true rfl⟩) hS (fun r_12 u_11 H locs hp_10 hV hS => ?_)
        subst hp_10
        have hV : kV G ([(yH y 3, .inr (0, [.int (yM y 2), .ref (yB y 2), .int (nI (S.1 15 0))])), (yH y 0, .inr (6, [.ref (yH y 1), .ref (yH y 2), .ref (yH y 3), .ref (yH y 4), .ref (yH y 5)])), (yH y 5, aR (kcI G) 5 S.2.2), (yH y 1, .inr (0, [.int (yM y 0), .ref (yB y 0), .int (nI (S.1 1 0))])), (yH y 2, .inr (0, [.int (yM y 1), .ref (yB y 1), .int (nI (S.1 11 0))])), (yH y 4, .inr (0, [.int (yM y 3), .ref (yB y 3), .int (nI (S.1 19 0))]))] ++ (sT G S y (List.range 4) (List.range (S.1 1 0)) (List.range (S.1 15 0)) (List.range (S.1 19 0)) ++ wr)) _ := hV
        refine lv_istore (lv' := [(4, .int (nI (S.1 15 0))), (0, .ref (yH y 0)), (1, .int (nI (j))), (2, .int (nI (gg))), (3, .int (nI (yy)))]) hx hb dX5_lot_22 hl (by decide) rfl (fun ls hl => ?_)
        refine lv_iload hx hb dX5_lot_24 (lv_at hl 0 rfl) ?_
        refine lv_bipush (v := nI 20) hx hb dX5_lot_26 (by decide) ?_
        refine kn_lt (tgt := 41) hx hb (by omega) (by decide) dX5_lot_28 (by decide) (fun c28 => ?_) (fun c28 => ?_)
        · refine lv_aload_n hx hb dX5_lot_41 rfl (lv_at hl 1 rfl) ?_
          refine va_get (D := kD G) (ci := 6) (v := .ref (yH y 3)) (C := RX5) (T := TX5) (N := 5) hx hb hts hinX5 hown hK hV.1 1 rfl rfl 2 (by decide) (hts (Cond.fieldLink RX5 19 "Yarncourt" "lots" "Ljava/util/ArrayList;") (List.mem_of_getElem? (i := 4) rfl)) (fun _ h9 => h9) rfl dX5_lot_42 ?_
          refine kn_new (G := G) (a := [(yH y 3, .inr (0, [.int (yM y 2), .ref (yB y 2), .int (nI (S.1 15 0))])), (yH y 0, .inr (6, [.ref (yH y 1), .ref (yH y 2), .ref (yH y 3), .ref (yH y 4), .ref (yH y 5)])), (yH y 5, aR (kcI G) 5 S.2.2), (yH y 1, .inr (0, [.int (yM y 0), .ref (yB y 0), .int (nI (S.1 1 0))])), (yH y 2, .inr (0, [.int (yM y 1), .ref (yB y 1), .int (nI (S.1 11 0))])), (yH y 4, .inr (0, [.int (yM y 3), .ref (yB y 3), .int (nI (S.1 19 0))]))]) (wr := sT G S y (List.range 4) (List.range (S.1 1 0)) (List.range (S.1 15 0)) (List.range (S.1 19 0)) ++ wr) (ci := 2) (C := RX1) (T := TX1) (N := 4) (fs := [.int (nI (0)), .int (nI (0)), .int (nI (0)), .int (nI (0))]) hx hb hts hinX1 tyX1 tyX1_ok hown (hts (Cond.classLink RX5 178 RX1) (List.mem_of_getElem? (i := 5) rfl)) (hts (Cond.instantiable RX1 4) (List.mem_of_getElem? (i := 6) rfl)) (hts (Cond.initialized RX1) (List.mem_of_getElem? (i := 7) rfl)) hK hV hS hB0 rfl (fun j hj => by rcases (show j = 0 ∨ j = 1 ∨ j = 2 ∨ j = 3 by omega) with rfl | rfl | rfl | rfl <;> rfl) (Nat.le_of_ble_eq_true rfl) (Nat.le_of_ble_eq_true rfl) dX5_lot_45 (fun q_13 H hV hS => ?_)
          have hV : kV G ([(yH y 3, .inr (0, [.int (yM y 2), .ref (yB y 2), .int (nI (S.1 15 0))])), (yH y 0, .inr (6, [.ref (yH y 1), .ref (yH y 2), .ref (yH y 3), .ref (yH y 4), .ref (yH y 5)])), (yH y 5, aR (kcI G) 5 S.2.2), (yH y 1, .inr (0, [.int (yM y 0), .ref (yB y 0), .int (nI (S.1 1 0))])), (yH y 2, .inr (0, [.int (yM y 1), .ref (yB y 1), .int (nI (S.1 11 0))])), (yH y 4, .inr (0, [.int (yM y 3), .ref (yB y 3), .int (nI (S.1 19 0))])), (q_13, .inr (2, [.int (nI (0)), .int (nI (0)), .int (nI (0)), .int (nI (0))]))] ++ (sT G S y (List.range 4) (List.range (S.1 1 0)) (List.range (S.1 15 0)) (List.range (S.1 19 0)) ++ wr)) _ := hV
          refine lv_dup hx hb dX5_lot_48 rfl ?_
          refine lv_iload hx hb dX5_lot_49 (lv_at hl 0 rfl) ?_
          refine lv_iload_n hx hb dX5_lot_51 rfl (lv_at hl 2 rfl) ?_
          refine lv_iload_n hx hb dX5_lot_52 rfl (lv_at hl 3 rfl) ?_
          refine lv_iload_n hx hb dX5_lot_53 rfl (lv_at hl 4 rfl) ?_
          have hV : kV G ([(q_13, .inr (2, [.int (nI (0)), .int (nI (0)), .int (nI (0)), .int (nI (0))])), (yH y 3, .inr (0, [.int (yM y 2), .ref (yB y 2), .int (nI (S.1 15 0))])), (yH y 0, .inr (6, [.ref (yH y 1), .ref (yH y 2), .ref (yH y 3), .ref (yH y 4), .ref (yH y 5)])), (yH y 5, aR (kcI G) 5 S.2.2), (yH y 1, .inr (0, [.int (yM y 0), .ref (yB y 0), .int (nI (S.1 1 0))])), (yH y 2, .inr (0, [.int (yM y 1), .ref (yB y 1), .int (nI (S.1 11 0))])), (yH y 4, .inr (0, [.int (yM y 3), .ref (yB y 3), .int (nI (S.1 19 0))]))] ++ (sT G S y (List.range 4) (List.range (S.1 1 0)) (List.range (S.1 15 0)) (List.range (S.1 19 0)) ++ wr)) _ := kV_part hV [6, 0, 1, 2, 3, 4, 5] rfl rfl
          refine kc_v (va_runI (As := [.int (nI (S.1 15 0)), .int (nI (j)), .int (nI (gg)), .int (nI (yy))]) (rest := [.ref (q_13), .ref (yH y 3)]) hF (c_X1_init l G q_13 (S.1 15 0) j gg yy ([(yH y 3, .inr (0, [.int (yM y 2), .ref (yB y 2), .int (nI (S.1 15 0))])), (yH y 0, .inr (6, [.ref (yH y 1), .ref (yH y 2), .ref (yH y 3), .ref (yH y 4), .ref (yH y 5)])), (yH y 5, aR (kcI G) 5 S.2.2), (yH y 1, .inr (0, [.int (yM y 0), .ref (yB y 0), .int (nI (S.1 1 0))])), (yH y 2, .inr (0, [.int (yM y 1), .ref (yB y 1), .int (nI (S.1 11 0))])), (yH y 4, .inr (0, [.int (yM y 3), .ref (yB y 3), .int (nI (S.1 19 0))]))] ++ (sT G S y (List.range 4) (List.range (S.1 1 0)) (List.range (S.1 15 0)) (List.range (S.1 19 0)) ++ wr))) (cwI 4 hts gX5_lot_X1_init rfl rfl rfl (hts (Cond.initialized RX1) (List.mem_of_getElem? (i := 7) rfl)) (hts (Cond.methodLink RX5 180 yX1_init) (List.mem_of_getElem? (i := 28) rfl)) (hts (Cond.instanceMethod yX1_init) (List.mem_of_getElem? (i := 29) rfl)) rfl (by decide +kernel) ⟨Nat.le_of_ble_eq_true rfl, Nat.le_of_ble_eq_true rfl⟩) (kPreI hE hS hV) rfl rfl hl.1 rfl (lv_room (Nat.le_of_ble_eq_true rfl)) dX5_lot_54 ⟨Nat.le_of_ble_eq_true rfl, Nat.le_of_ble_eq_true rfl⟩) hS (fun u_15 H locs hp_14 hV hS => ?_)
          have hV : kV G ([(q_13, .inr (2, [.int (nI (S.1 15 0)), .int (nI (gg)), .int (nI (j)), .int (nI (yy))])), (yH y 3, .inr (0, [.int (yM y 2), .ref (yB y 2), .int (nI (S.1 15 0))])), (yH y 0, .inr (6, [.ref (yH y 1), .ref (yH y 2), .ref (yH y 3), .ref (yH y 4), .ref (yH y 5)])), (yH y 5, aR (kcI G) 5 S.2.2), (yH y 1, .inr (0, [.int (yM y 0), .ref (yB y 0), .int (nI (S.1 1 0))])), (yH y 2, .inr (0, [.int (yM y 1), .ref (yB y 1), .int (nI (S.1 11 0))])), (yH y 4, .inr (0, [.int (yM y 3), .ref (yB y 3), .int (nI (S.1 19 0))]))] ++ (sT G S y (List.range 4) (List.range (S.1 1 0)) (List.range (S.1 15 0)) (List.range (S.1 19 0)) ++ wr)) _ := hV
          have hV : kV G ([(yH y 3, .inr (0, [.int (yM y 2), .ref (yB y 2), .int (nI (S.1 15 0))])), (q_13, .inr (2, [.int (nI (S.1 15 0)), .int (nI (gg)), .int (nI (j)), .int (nI (yy))]))] ++ (bkC G S y 2 ++ ([(yH y 0, .inr (6, [.ref (yH y 1), .ref (yH y 2), .ref (yH y 3), .ref (yH y 4), .ref (yH y 5)])), (yH y 5, aR (kcI G) 5 S.2.2), (yH y 1, .inr (0, [.int (yM y 0), .ref (yB y 0), .int (nI (S.1 1 0))])), (yH y 2, .inr (0, [.int (yM y 1), .ref (yB y 1), .int (nI (S.1 11 0))])), (yH y 4, .inr (0, [.int (yM y 3), .ref (yB y 3), .int (nI (S.1 19 0))]))] ++ (sT G S y ((List.range 4).erase 2) (List.range (S.1 1 0)) (List.range (S.1 15 0)) (List.range (S.1 19 0)) ++ wr)))) _ := kV_wc hV (fun e => by
            have f0 := sT_b (G := G) (S := S) (y := y) (Lb := (List.range 4)) (Lp := (List.range (S.1 1 0))) (Ll := (List.range (S.1 15 0))) (Lj := (List.range (S.1 19 0))) (k := 2) (by decide) e
            simp only [wc_app, wc_two, wc_nil]; omega)
          have hV : kV G ([(yH y 3, .inr (0, [.int (yM y 2), .ref (yB y 2), .int (nI (S.1 15 0))])), (q_13, .inr (2, [.int (nI (S.1 15 0)), .int (nI (gg)), .int (nI (j)), .int (nI (yy))]))] ++ (bkL G (S.1 15 0) (yB y 2) (yC y 2) (eQ S y 2) ++ ([(yH y 0, .inr (6, [.ref (yH y 1), .ref (yH y 2), .ref (yH y 3), .ref (yH y 4), .ref (yH y 5)])), (yH y 5, aR (kcI G) 5 S.2.2), (yH y 1, .inr (0, [.int (yM y 0), .ref (yB y 0), .int (nI (S.1 1 0))])), (yH y 2, .inr (0, [.int (yM y 1), .ref (yB y 1), .int (nI (S.1 11 0))])), (yH y 4, .inr (0, [.int (yM y 3), .ref (yB y 3), .int (nI (S.1 19 0))]))] ++ (sT G S y ((List.range 4).erase 2) (List.range (S.1 1 0)) (List.range (S.1 15 0)) (List.range (S.1 19 0)) ++ wr)))) _ := hV
          refine kc_i (va_runV (As := [.ref (q_13)]) (rest := []) hF (c_Jx4a65c_add_9ea2d_U l G (yH y 3) (yM y 2) (yB y 2) (S.1 15 0) (yC y 2) q_13 ([.int (nI (S.1 15 0)), .int (nI (gg)), .int (nI (j)), .int (nI (yy))]) (eQ S y 2) 2 ((RX1, TX1, 4)) ([(yH y 0, .inr (6, [.ref (yH y 1), .ref (yH y 2), .ref (yH y 3), .ref (yH y 4), .ref (yH y 5)])), (yH y 5, aR (kcI G) 5 S.2.2), (yH y 1, .inr (0, [.int (yM y 0), .ref (yB y 0), .int (nI (S.1 1 0))])), (yH y 2, .inr (0, [.int (yM y 1), .ref (yB y 1), .int (nI (S.1 11 0))])), (yH y 4, .inr (0, [.int (yM y 3), .ref (yB y 3), .int (nI (S.1 19 0))]))] ++ (sT G S y ((List.range 4).erase 2) (List.range (S.1 1 0)) (List.range (S.1 15 0)) (List.range (S.1 19 0)) ++ wr)) (hY 2 (by decide)).1 (hY 2 (by decide)).2 (by omega) rfl (by decide +kernel) (fun i hi => el_of (in_sT_l (List.mem_range.mpr hi)))) (cwV 1 hts gX5_lot_Jx4a65c_add_9ea2d rfl rfl rfl (by decide +kernel) ⟨Nat.le_of_ble_eq_true rfl, Nat.le_of_ble_eq_true rfl⟩) (kPreV hE hS hV 0 rfl rfl) rfl rfl hl.1 rfl (lv_room (Nat.le_of_ble_eq_true rfl)) dX5_lot_57 ⟨Nat.le_of_ble_eq_true rfl, Nat.le_of_ble_eq_true rfl⟩) hS (fun r_19 u_18 H locs hp_17 hV hS => ?_)
          obtain ⟨hp_170, hp_17a, hp_17b⟩ := hp_17
          subst hp_170
          have hV : kV G ([(yH y 3, .inr (0, [.int ((yM y 2) + nI 1), .ref (u_18.1), .int (nI ((S.1 15 0) + 1))])), (q_13, .inr (2, [.int (nI (S.1 15 0)), .int (nI (gg)), .int (nI (j)), .int (nI (yy))]))] ++ (bkL G ((S.1 15 0) + 1) u_18.1 u_18.2 (va_up (eQ S y 2) (S.1 15 0) q_13) ++ ([(yH y 0, .inr (6, [.ref (yH y 1), .ref (yH y 2), .ref (yH y 3), .ref (yH y 4), .ref (yH y 5)])), (yH y 5, aR (kcI G) 5 S.2.2), (yH y 1, .inr (0, [.int (yM y 0), .ref (yB y 0), .int (nI (S.1 1 0))])), (yH y 2, .inr (0, [.int (yM y 1), .ref (yB y 1), .int (nI (S.1 11 0))])), (yH y 4, .inr (0, [.int (yM y 3), .ref (yB y 3), .int (nI (S.1 19 0))]))] ++ (sT G S y ((List.range 4).erase 2) (List.range (S.1 1 0)) (List.range (S.1 15 0)) (List.range (S.1 19 0)) ++ wr)))) _ := hV
          refine lv_pop hx hb dX5_lot_60 rfl ?_
          refine lv_iload hx hb dX5_lot_61 (lv_at hl 0 rfl) ?_
          have hI2 : kInv (lotS S j gg yy) := kInv_lotS hI (by omega) hj ⟨hggl, hggh⟩ hyyh
          have hsc9 : sameC S (lotS S j gg yy) := ⟨rfl, rfl, rfl, rfl, rfl, rfl, rfl, rfl⟩
          have hx9 : kExt S (lotS S j gg yy) := ext_same hsc9 rfl hI
          have hT9 : sT G (lotS S j gg yy) ((y.1, va_up y.2.1 2 (yM y 2 + nI 1), va_up y.2.2.1 2 u_18.1, va_up y.2.2.2.1 2 u_18.2, y.2.2.2.2.1, va_up y.2.2.2.2.2.1 (S.1 15 0) q_13, y.2.2.2.2.2.2) : kY) ((List.range 4).erase 2) (List.range (S.1 1 0)) (List.range (S.1 15 0)) (List.range (S.1 19 0)) = sT G S y ((List.range 4).erase 2) (List.range (S.1 1 0)) (List.range (S.1 15 0)) (List.range (S.1 19 0)) := sT_ext hI hI2 hx9 (fun _ _ => rfl) (fun a ha => va_up_ne _ _ (by omega)) (fun _ _ => rfl) (fun k hi => by
            obtain ⟨b1, b2⟩ := of_er (n := 4) hi
            rcases (show k = 0 ∨ k = 1 ∨ k = 2 ∨ k = 3 by omega) with rfl | rfl | rfl | rfl <;> first | exact absurd rfl b2 | exact ⟨by decide, rfl, rfl, rfl⟩) (fun i hi => by
            have h9 := List.mem_range.mp hi
            exact ⟨h9, rfl, rfl, rfl, rfl, rfl, rfl, pQ_same hsc9 _⟩) (fun i hi => by
            have h9 := List.mem_range.mp hi
            exact ⟨h9, by simp [lotS, st_1, Nat.ne_of_lt h9], by simp [lotS, st_1, Nat.ne_of_lt h9], by simp [lotS, st_1, Nat.ne_of_lt h9]⟩) (fun i hi => by
            have h9 := List.mem_range.mp hi
            exact ⟨h9, rfl, rfl, rfl, rfl⟩)
          have fh : sHd G (lotS S j gg yy) ((y.1, va_up y.2.1 2 (yM y 2 + nI 1), va_up y.2.2.1 2 u_18.1, va_up y.2.2.2.1 2 u_18.2, y.2.2.2.2.1, va_up y.2.2.2.2.2.1 (S.1 15 0) q_13, y.2.2.2.2.2.2) : kY) = [(yH y 0, .inr (6, [.ref (yH y 1), .ref (yH y 2), .ref (yH y 3), .ref (yH y 4), .ref (yH y 5)])), (yH y 5, aR (kcI G) 5 S.2.2), (yH y 1, .inr (0, [.int (yM y 0), .ref (yB y 0), .int (nI (S.1 1 0))])), (yH y 2, .inr (0, [.int (yM y 1), .ref (yB y 1), .int (nI (S.1 11 0))])), (yH y 3, .inr (0, [.int ((yM y 2) + nI 1), .ref (u_18.1), .int (nI ((S.1 15 0) + 1))])), (yH y 4, .inr (0, [.int (yM y 3), .ref (yB y 3), .int (nI (S.1 19 0))]))] := rfl
          have fb : bkC G (lotS S j gg yy) ((y.1, va_up y.2.1 2 (yM y 2 + nI 1), va_up y.2.2.1 2 u_18.1, va_up y.2.2.2.1 2 u_18.2, y.2.2.2.2.1, va_up y.2.2.2.2.2.1 (S.1 15 0) q_13, y.2.2.2.2.2.2) : kY) 2 = bkL G ((S.1 15 0) + 1) u_18.1 u_18.2 (va_up (eQ S y 2) (S.1 15 0) q_13) := rfl
          have hc9 : lotC (lotS S j gg yy) ((y.1, va_up y.2.1 2 (yM y 2 + nI 1), va_up y.2.2.1 2 u_18.1, va_up y.2.2.2.1 2 u_18.2, y.2.2.2.2.1, va_up y.2.2.2.2.2.1 (S.1 15 0) q_13, y.2.2.2.2.2.2) : kY) (S.1 15 0) = [(q_13, .inr (2, [.int (nI (S.1 15 0)), .int (nI (gg)), .int (nI (j)), .int (nI (yy))]))] := by
            unfold lotC
            rw [show yL ((y.1, va_up y.2.1 2 (yM y 2 + nI 1), va_up y.2.2.1 2 u_18.1, va_up y.2.2.2.1 2 u_18.2, y.2.2.2.2.1, va_up y.2.2.2.2.2.1 (S.1 15 0) q_13, y.2.2.2.2.2.2) : kY) (S.1 15 0) = q_13 from va_up_self _ _ _]
            simp [lotS, st_1]
          have hV : kV G (sHd G (lotS S j gg yy) ((y.1, va_up y.2.1 2 (yM y 2 + nI 1), va_up y.2.2.1 2 u_18.1, va_up y.2.2.2.1 2 u_18.2, y.2.2.2.2.1, va_up y.2.2.2.2.2.1 (S.1 15 0) q_13, y.2.2.2.2.2.2) : kY) ++ (lotC (lotS S j gg yy) ((y.1, va_up y.2.1 2 (yM y 2 + nI 1), va_up y.2.2.1 2 u_18.1, va_up y.2.2.2.1 2 u_18.2, y.2.2.2.2.1, va_up y.2.2.2.2.2.1 (S.1 15 0) q_13, y.2.2.2.2.2.2) : kY) (S.1 15 0) ++ (bkC G (lotS S j gg yy) ((y.1, va_up y.2.1 2 (yM y 2 + nI 1), va_up y.2.2.1 2 u_18.1, va_up y.2.2.2.1 2 u_18.2, y.2.2.2.2.1, va_up y.2.2.2.2.2.1 (S.1 15 0) q_13, y.2.2.2.2.2.2) : kY) 2 ++ (sT G (lotS S j gg yy) ((y.1, va_up y.2.1 2 (yM y 2 + nI 1), va_up y.2.2.1 2 u_18.1, va_up y.2.2.2.1 2 u_18.2, y.2.2.2.2.1, va_up y.2.2.2.2.2.1 (S.1 15 0) q_13, y.2.2.2.2.2.2) : kY) ((List.range 4).erase 2) (List.range (S.1 1 0)) (List.range (S.1 15 0)) (List.range (S.1 19 0)) ++ wr)))) _ := kV_wc hV (fun e => by
            rw [fh, hc9, fb, hT9]
            simp only [wc_app, wc_two, wc_nil]; omega)
          have hV : kV G (siteW G ((lotS S j gg yy)) (((y.1, va_up y.2.1 2 (yM y 2 + nI 1), va_up y.2.2.1 2 u_18.1, va_up y.2.2.2.1 2 u_18.2, y.2.2.2.2.1, va_up y.2.2.2.2.2.1 (S.1 15 0) q_13, y.2.2.2.2.2.2) : kY)) ++ wr) _ := kV_wc hV (fun e => by
            have f0 := sT_b (G := G) (S := lotS S j gg yy) (y := ((y.1, va_up y.2.1 2 (yM y 2 + nI 1), va_up y.2.2.1 2 u_18.1, va_up y.2.2.2.1 2 u_18.2, y.2.2.2.2.1, va_up y.2.2.2.2.2.1 (S.1 15 0) q_13, y.2.2.2.2.2.2) : kY)) (Lb := (List.range 4)) (Lp := (List.range (S.1 1 0))) (Ll := (List.range (S.1 15 0 + 1))) (Lj := (List.range (S.1 19 0))) (k := 2) (by decide) e
            have f1 := sT_ls (G := G) (S := lotS S j gg yy) (y := ((y.1, va_up y.2.1 2 (yM y 2 + nI 1), va_up y.2.2.1 2 u_18.1, va_up y.2.2.2.1 2 u_18.2, y.2.2.2.2.1, va_up y.2.2.2.2.2.1 (S.1 15 0) q_13, y.2.2.2.2.2.2) : kY)) (Lb := ((List.range 4).erase 2)) (Lp := (List.range (S.1 1 0))) (Lj := (List.range (S.1 19 0))) (S.1 15 0) e
            rw [show siteW G (lotS S j gg yy) ((y.1, va_up y.2.1 2 (yM y 2 + nI 1), va_up y.2.2.1 2 u_18.1, va_up y.2.2.2.1 2 u_18.2, y.2.2.2.2.1, va_up y.2.2.2.2.2.1 (S.1 15 0) q_13, y.2.2.2.2.2.2) : kY) = sHd G (lotS S j gg yy) ((y.1, va_up y.2.1 2 (yM y 2 + nI 1), va_up y.2.2.1 2 u_18.1, va_up y.2.2.2.1 2 u_18.2, y.2.2.2.2.1, va_up y.2.2.2.2.2.1 (S.1 15 0) q_13, y.2.2.2.2.2.2) : kY) ++ sT G (lotS S j gg yy) ((y.1, va_up y.2.1 2 (yM y 2 + nI 1), va_up y.2.2.1 2 u_18.1, va_up y.2.2.2.1 2 u_18.2, y.2.2.2.2.1, va_up y.2.2.2.2.2.1 (S.1 15 0) q_13, y.2.2.2.2.2.2) : kY) (List.range 4) (List.range (S.1 1 0)) (List.range (S.1 15 0 + 1)) (List.range (S.1 19 0)) from rfl]
            simp only [wc_app]; omega)
          have hop : opLot S (nI j) (nI gg) (nI yy) = (0, nI (S.1 15 0), lotS S j gg yy) := by
            unfold opLot
            rw [kif_f (fun z => z (isIn_nI hj)), kif_f (fun z => z ⟨nI_rng hggl hggh (by decide), nI_rng hyyl hyyh (by decide)⟩), kif_f (show ¬ S.1 15 0 = 20 by omega), tn_nI hj2, tn_nI hgg2, tn_nI hyy2]
          refine vx_ret ?_
          refine W.widen (k := 6) (n := 80) (by decide) (by decide) ?_
          exact W.iret (v := nI (S.1 15 0)) hx hb hrt (fun t ht hW => ⟨⟨_, ((y.1, va_up y.2.1 2 (yM y 2 + nI 1), va_up y.2.2.1 2 u_18.1, va_up y.2.2.2.1 2 u_18.2, y.2.2.2.2.1, va_up y.2.2.2.2.2.1 (S.1 15 0) q_13, y.2.2.2.2.2.2) : kY), rfl, (by rw [hop]; exact ⟨rfl, rfl, (fun k hk => by
            rcases (show k = 0 ∨ k = 1 ∨ k = 2 ∨ k = 3 by omega) with rfl | rfl | rfl | rfl
            · exact hY 0 hk
            · exact hY 1 hk
            · exact ⟨fun z => absurd (show S.1 15 0 + 1 = 0 from z) (by omega), fun _ => ⟨hp_17a, hp_17b⟩⟩
            · exact hY 3 hk), rfl⟩), kV_eq ht (show kV G (siteW G (opLot S (nI j) (nI gg) (nI yy)).2.2 (((y.1, va_up y.2.1 2 (yM y 2 + nI 1), va_up y.2.2.1 2 u_18.1, va_up y.2.2.2.1 2 u_18.2, y.2.2.2.2.1, va_up y.2.2.2.2.2.1 (S.1 15 0) q_13, y.2.2.2.2.2.2) : kY)) ++ wr) _ by rw [hop]; exact hV)⟩, hS.F ht⟩) hS.2.2 dX5_lot_63
        · have hV : kV G ([(yH y 0, .inr (6, [.ref (yH y 1), .ref (yH y 2), .ref (yH y 3), .ref (yH y 4), .ref (yH y 5)])), (yH y 5, aR (kcI G) 5 S.2.2), (yH y 1, .inr (0, [.int (yM y 0), .ref (yB y 0), .int (nI (S.1 1 0))])), (yH y 2, .inr (0, [.int (yM y 1), .ref (yB y 1), .int (nI (S.1 11 0))])), (yH y 3, .inr (0, [.int (yM y 2), .ref (yB y 2), .int (nI (S.1 15 0))])), (yH y 4, .inr (0, [.int (yM y 3), .ref (yB y 3), .int (nI (S.1 19 0))]))] ++ (sT G S y (List.range 4) (List.range (S.1 1 0)) (List.range (S.1 15 0)) (List.range (S.1 19 0)) ++ wr)) _ := kV_part hV [1, 2, 3, 4, 0, 5] rfl rfl
          have hV : kV G (sHd G S y ++ (sT G S y (List.range 4) (List.range (S.1 1 0)) (List.range (S.1 15 0)) (List.range (S.1 19 0)) ++ wr)) _ := hV
          have hV : kV G (siteW G S y ++ wr) _ := hV
          have hat9 : ∀ w ∈ vx_atS RX5 73 kISE kUp, w.before _ s = true := vx_hat (B := [.castable kISE kISE, .declares (Bundle.initS "java/lang/RuntimeException"), .declares (Bundle.initS "java/lang/Exception"), .declares (Bundle.initS "java/lang/Throwable")]) (fun w hw => hts w (List.mem_cons_of_mem _ (List.mem_append_left _ (List.mem_append_left _ (List.mem_append_right _ hw))))) (by decide +kernel) (vx_c ((hE.2.2.1 _ (by decide +kernel)).use rfl) (vx_c ((hE.2.2.1 _ (by decide +kernel)).use rfl) (vx_c ((hE.2.2.1 _ (by decide +kernel)).use rfl) (vx_c ((hE.2.2.1 _ (by decide +kernel)).use rfl) vx_n))))
          exact vx_throwS (names := kUp) (A := kA G) hx hb hlt hown (by decide +kernel) (by decide +kernel) (hts (Cond.classLink RX5 69 "java/lang/IllegalStateException") (List.mem_of_getElem? (i := 1) rfl)) (hts (Cond.initialized "java/lang/IllegalStateException") (List.mem_of_getElem? (i := 2) rfl)) (hE.2.2.2.2.1 _ (List.mem_of_getElem? (i := 4) rfl)) hat9 (by decide +kernel) hE.2.2.2.2.2.1 hE.2.2.2.2.2.2.1 hS (hl.1.trans hml.symm) dX5_lot_31 dX5_lot_34 dX5_lot_35 dX5_lot_37 dX5_lot_40 (fun x h => (hx0 x h).elim) (Nat.le_of_ble_eq_true rfl) (Nat.le_of_ble_eq_true rfl) (by first | exact Nat.le_of_ble_eq_true rfl | omega) (by first | exact Nat.le_of_ble_eq_true rfl | omega) hlocks (fun t hal9 hsz9 hsm9 => ⟨(), trivial, ⟨Or.inr (Or.inr ⟨rfl, by unfold opLot; rw [kif_f (fun z => z (isIn_nI hj)), kif_f (fun z => z ⟨nI_rng hggl hggh (by decide), nI_rng hyyl hyyh (by decide)⟩), kif_t (by omega)]⟩), kV_more hV hsm9⟩, kF_more hS hsz9 hsm9⟩) hS.2.2 (by first | exact Nat.le_of_ble_eq_true rfl | omega) (by first | exact Nat.le_of_ble_eq_true rfl | omega)
