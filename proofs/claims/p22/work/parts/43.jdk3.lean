set_option maxHeartbeats 4000000 in
set_option maxRecDepth 100000 in
theorem c_Jxa1e45_init_da8c8 (l : Launch) (G : kG) (lq : Nat) (ws : va_W) : Met l yJxa1e45_init_da8c8 wsJxa1e45_init_da8c8 ({ frames := 1, cells := 0, slots := 0, locals := 20 } : Room) (kPc G [.ref (lq)] (ws)) (kQv G (S := Unit) (fun _ => True) (fun _ => ws)) 0 0 (kA G) := by
  refine Met.ofW (cc := cJxa1e45_init_da8c8) (maxL := 1) (ret := none) (by decide) rfl ?_
  intro pp ee s m args below meth cc0 s₁ Bd0 hml hv
  obtain ⟨rfl, hE, hV⟩ := hv
  have hK := hE.1
  have hx := Bd0.exec
  have hb := Bd0.bytes
  have hrt := Bd0.returns
  have hts := atoms_spec (ws := wsJxa1e45_init_da8c8) Bd0.pre
  have hown : s.vm.findClass RJxa1e45 = some m.cls := findClass_of_methodNamed Bd0.named
  have hlocks := Bd0.notSynchronized
  have hin0 : meth.name = "<init>" := (name_of_methodNamed Bd0.named Bd0.method).1
  have hF : CallFix pp m cc0 cJxa1e45_init_da8c8 1 s _ wsJxa1e45_init_da8c8 RJxa1e45 := ⟨hx, hb, hml, hown, hts⟩
  have hS : va_S (kA G) s.heap s.heap [] := va_S.rf
  have hB0 := hE.2.1
  have hl := lv_entry ([.ref (lq)]) (n := 1) (Nat.le_of_ble_eq_true rfl)
  rw [lg_entry_eq]
  generalize (lg_sl ([.ref (lq)]) ++ List.replicate (1 - (lg_sl ([.ref (lq)])).length) Slot.unset).toArray = ls at hl ⊢
  have hl : lv_has ls 1 [(0, .ref (lq))] := hl
  refine lv_aload_n hx hb dJxa1e45_init_da8c8_0 rfl (lv_at hl 0 rfl) ?_
  refine W.objInit hx hb hown (hts (Cond.methodLink RJxa1e45 1 objectInit) (List.mem_of_getElem? (i := 1) rfl)) (hts (Cond.instanceMethod objectInit) (List.mem_of_getElem? (i := 2) rfl)) (hts (Cond.code objectInit ⟨#[0xb1]⟩ 1 none) (List.mem_of_getElem? (i := 3) rfl)) rfl (by rw [hml]; exact hl.1) rfl dJxa1e45_init_da8c8_1 (Nat.le_of_ble_eq_true rfl) (Nat.le_of_ble_eq_true rfl) ?_
  refine W.eq (g2 := F0 m 4 ls []) rfl ?_
  exact W.vret hx hb hrt (fun t ht hW => ⟨⟨(), rfl, trivial, kV_eq ht hV⟩, hS.F ht⟩) hS.2.2 dJxa1e45_init_da8c8_4
set_option maxHeartbeats 4000000 in
set_option maxRecDepth 100000 in
theorem c_Jxc12de_init_da8c8 (l : Launch) (G : kG) (lq : Nat) (wr : va_W) : Met l yJxc12de_init_da8c8 wsJxc12de_init_da8c8 ({ frames := 2, cells := 0, slots := 0, locals := 40 } : Room) (kPc G [.ref (lq)] ([(lq, .inr (0, [.int (nI (0)), .null, .int (nI (0))]))] ++ wr)) (kQv G (S := Unit) (fun _ => True) (fun _ => [(lq, .inr (0, [.int (nI (0)), .null, .int (nI (0))]))] ++ wr)) 0 0 (kA G) := by
  refine Met.ofW (cc := cJxc12de_init_da8c8) (maxL := 1) (ret := none) (by decide) rfl ?_
  intro pp ee s m args below meth cc0 s₁ Bd0 hml hv
  obtain ⟨rfl, hE, hV⟩ := hv
  have hK := hE.1
  have hx := Bd0.exec
  have hb := Bd0.bytes
  have hrt := Bd0.returns
  have hts := atoms_spec (ws := wsJxc12de_init_da8c8) Bd0.pre
  have hown : s.vm.findClass RJxc12de = some m.cls := findClass_of_methodNamed Bd0.named
  have hlocks := Bd0.notSynchronized
  have hin0 : meth.name = "<init>" := (name_of_methodNamed Bd0.named Bd0.method).1
  have hF : CallFix pp m cc0 cJxc12de_init_da8c8 1 s _ wsJxc12de_init_da8c8 RJxc12de := ⟨hx, hb, hml, hown, hts⟩
  have hinJx4a65c : ∀ w ∈ wsJx4a65c0, w ∈ wsJxc12de_init_da8c8 := tb_of [9, 10, 11] rfl
  have hS : va_S (kA G) s.heap s.heap [] := va_S.rf
  have hB0 := hE.2.1
  have hl := lv_entry ([.ref (lq)]) (n := 1) (Nat.le_of_ble_eq_true rfl)
  rw [lg_entry_eq]
  generalize (lg_sl ([.ref (lq)]) ++ List.replicate (1 - (lg_sl ([.ref (lq)])).length) Slot.unset).toArray = ls at hl ⊢
  have hl : lv_has ls 1 [(0, .ref (lq))] := hl
  refine lv_aload_n hx hb dJxc12de_init_da8c8_0 rfl (lv_at hl 0 rfl) ?_
  refine kc_v (va_runI (As := []) (rest := []) hF (c_Jxa1e45_init_da8c8 l G lq ([(lq, .inr (0, [.int (nI (0)), .null, .int (nI (0))]))] ++ wr)) (cwI 0 hts gJxc12de_init_da8c8_Jxa1e45_init_da8c8 rfl rfl rfl (hts (Cond.initialized RJxa1e45) (List.mem_of_getElem? (i := 4) rfl)) (hts (Cond.methodLink RJxc12de 1 yJxa1e45_init_da8c8) (List.mem_of_getElem? (i := 2) rfl)) (hts (Cond.instanceMethod yJxa1e45_init_da8c8) (List.mem_of_getElem? (i := 3) rfl)) rfl (by decide +kernel) ⟨Nat.le_of_ble_eq_true rfl, Nat.le_of_ble_eq_true rfl⟩) (kPreI hE hS hV) rfl rfl hl.1 rfl (lv_room (Nat.le_of_ble_eq_true rfl)) dJxc12de_init_da8c8_1 ⟨Nat.le_of_ble_eq_true rfl, Nat.le_of_ble_eq_true rfl⟩) hS (fun u_2 H locs hp_1 hV hS => ?_)
  have hV : kV G ([(lq, .inr (0, [.int (nI (0)), .null, .int (nI (0))]))] ++ wr) _ := hV
  refine lv_aload_n hx hb dJxc12de_init_da8c8_4 rfl (lv_at hl 0 rfl) ?_
  refine lv_iconst (v := nI 0) hx hb dJxc12de_init_da8c8_5 (by decide) ?_
  refine va_put (D := kD G) (ci := 0) (v := .int (nI (0))) (ty := .int) (C := RJx4a65c) (T := TJx4a65c) (N := 3) hx hb hts hinJx4a65c tyJx4a65c tyJx4a65c_ok nmJx4a65c hown hK hV.1 hV.2 hS 0 rfl rfl 0 (by decide) (hts (Cond.fieldLink RJxc12de 7 "java/util/AbstractList" "modCount" "I") (List.mem_of_getElem? (i := 1) rfl)) (fun _ h9 => h9) rfl (by decide +kernel) rfl rfl (Nat.le_of_ble_eq_true rfl) dJxc12de_init_da8c8_6 (fun H locs hP hD hS => ?_)
  have hV : kV G ([(lq, .inr (0, [.int (nI (0)), .null, .int (nI (0))]))] ++ wr) _ := ⟨hP, hD⟩
  exact W.vret hx hb hrt (fun t ht hW => ⟨⟨(), rfl, trivial, kV_eq ht hV⟩, hS.F ht⟩) hS.2.2 dJxc12de_init_da8c8_9
set_option maxHeartbeats 4000000 in
set_option maxRecDepth 100000 in
theorem c_Jx4a65c_init_da8c8 (l : Launch) (G : kG) (lq : Nat) (wr : va_W) : Met l yJx4a65c_init_da8c8 wsJx4a65c_init_da8c8 ({ frames := 3, cells := 0, slots := 0, locals := 60 } : Room) (kPc G [.ref (lq)] ([(lq, .inr (0, [.int (nI (0)), .null, .int (nI (0))]))] ++ wr)) (kQv G (S := Unit) (fun _ => True) (fun _ => [(lq, .inr (0, [.int (nI 0), .ref (kE0 G), .int (nI (0))]))] ++ wr)) 0 0 (kA G) := by
  refine Met.ofW (cc := cJx4a65c_init_da8c8) (maxL := 1) (ret := none) (by decide) rfl ?_
  intro pp ee s m args below meth cc0 s₁ Bd0 hml hv
  obtain ⟨rfl, hE, hV⟩ := hv
  have hK := hE.1
  have hx := Bd0.exec
  have hb := Bd0.bytes
  have hrt := Bd0.returns
  have hts := atoms_spec (ws := wsJx4a65c_init_da8c8) Bd0.pre
  have hown : s.vm.findClass RJx4a65c = some m.cls := findClass_of_methodNamed Bd0.named
  have hlocks := Bd0.notSynchronized
  have hin0 : meth.name = "<init>" := (name_of_methodNamed Bd0.named Bd0.method).1
  have hF : CallFix pp m cc0 cJx4a65c_init_da8c8 1 s _ wsJx4a65c_init_da8c8 RJx4a65c := ⟨hx, hb, hml, hown, hts⟩
  have hinJx4a65c : ∀ w ∈ wsJx4a65c0, w ∈ wsJx4a65c_init_da8c8 := tb_of [15, 16, 17] rfl
  have hS : va_S (kA G) s.heap s.heap [] := va_S.rf
  have hB0 := hE.2.1
  have hl := lv_entry ([.ref (lq)]) (n := 1) (Nat.le_of_ble_eq_true rfl)
  rw [lg_entry_eq]
  generalize (lg_sl ([.ref (lq)]) ++ List.replicate (1 - (lg_sl ([.ref (lq)])).length) Slot.unset).toArray = ls at hl ⊢
  have hl : lv_has ls 1 [(0, .ref (lq))] := hl
  refine lv_aload_n hx hb dJx4a65c_init_da8c8_0 rfl (lv_at hl 0 rfl) ?_
  refine kc_v (va_runI (As := []) (rest := []) hF (c_Jxc12de_init_da8c8 l G lq wr) (cwI 0 hts gJx4a65c_init_da8c8_Jxc12de_init_da8c8 rfl rfl rfl (hts (Cond.initialized RJxc12de) (List.mem_of_getElem? (i := 5) rfl)) (hts (Cond.methodLink RJx4a65c 1 yJxc12de_init_da8c8) (List.mem_of_getElem? (i := 3) rfl)) (hts (Cond.instanceMethod yJxc12de_init_da8c8) (List.mem_of_getElem? (i := 4) rfl)) rfl (by decide +kernel) ⟨Nat.le_of_ble_eq_true rfl, Nat.le_of_ble_eq_true rfl⟩) (kPreI hE hS hV) rfl rfl hl.1 rfl (lv_room (Nat.le_of_ble_eq_true rfl)) dJx4a65c_init_da8c8_1 ⟨Nat.le_of_ble_eq_true rfl, Nat.le_of_ble_eq_true rfl⟩) hS (fun u_2 H locs hp_1 hV hS => ?_)
  have hV : kV G ([(lq, .inr (0, [.int (nI (0)), .null, .int (nI (0))]))] ++ wr) _ := hV
  refine lv_aload_n hx hb dJx4a65c_init_da8c8_4 rfl (lv_at hl 0 rfl) ?_
  refine va_gets hx hb hE.2.2.2.2.2.2.2.1 hS hown (hts (Cond.fieldLink RJx4a65c 39 "java/util/ArrayList" "DEFAULTCAPACITY_EMPTY_ELEMENTDATA" "[Ljava/lang/Object;") (List.mem_of_getElem? (i := 1) rfl)) (fun _ h => h) dJx4a65c_init_da8c8_5 ?_
  refine va_put (D := kD G) (ci := 0) (v := .ref (kE0 G)) (ty := (.array (.object "java/lang/Object"))) (C := RJx4a65c) (T := TJx4a65c) (N := 3) hx hb hts hinJx4a65c tyJx4a65c tyJx4a65c_ok nmJx4a65c hown hK hV.1 hV.2 hS 0 rfl rfl 1 (by decide) (hts (Cond.fieldLink RJx4a65c 9 "java/util/ArrayList" "elementData" "[Ljava/lang/Object;") (List.mem_of_getElem? (i := 2) rfl)) (fun _ h9 => h9) rfl (by decide +kernel) rfl rfl (Nat.le_of_ble_eq_true rfl) dJx4a65c_init_da8c8_8 (fun H locs hP hD hS => ?_)
  have hV : kV G ([(lq, .inr (0, [.int (nI (0)), .ref (kE0 G), .int (nI (0))]))] ++ wr) _ := ⟨hP, hD⟩
  exact W.vret hx hb hrt (fun t ht hW => ⟨⟨(), rfl, trivial, kV_eq ht hV⟩, hS.F ht⟩) hS.2.2 dJx4a65c_init_da8c8_11
/-- a list's backing row, if it has one of its own -/
def bkL (G : kG) : Nat → Nat → Nat → (Nat → Nat) → va_W
  | 0, _, _, _ => []
  | n + 1, b, cap, e => [(b, .inl (kcO G, cap, .inr (.inr (.inr (.inr (lf (n + 1) e))))))]
theorem c_Jx4a65c_add_9ea2d_U (l : Launch) (G : kG) (lq : Nat) (md : Int32) (b n cap : Nat) (x : Nat) (vs : List Value) (e : Nat → Nat) (ci : Nat) (rr : vw_C) (wr : va_W) (hb0 : n = 0 → b = kE0 G) (hc1 : 0 < n → n ≤ cap ∧ cap ≤ 40) (hn2 : n ≤ 22) (hcr : vwCl[ci]? = some rr) (hca : Cond.castable rr.1 "java/lang/Object" ∈ kNw) (hel : ∀ i, i < n → ∃ (k : Nat) (vs : List Value), wr[k]? = some (e i, .inr (ci, vs))) : Met l yJx4a65c_add_9ea2d wsJx4a65c_add_9ea2d ({ frames := 6, cells := 1, slots := 40, locals := 170 } : Room) (kPc G [.ref lq, .ref x] ([(lq, .inr (0, [.int (md), .ref b, .int (nI n)])), (x, .inr (ci, vs))] ++ (bkL G n b cap e ++ wr))) (kQi G (S := Nat × Nat) (fun z uu => z = nI 1 ∧ n + 1 ≤ uu.2 ∧ uu.2 ≤ 40) (fun uu => [(lq, .inr (0, [.int (md + nI 1), .ref uu.1, .int (nI (n + 1))])), (x, .inr (ci, vs))] ++ (bkL G (n + 1) uu.1 uu.2 (va_up e n x) ++ wr))) 1 40 (kA G) := by
  rcases Nat.eq_zero_or_pos n with h0 | h0
  · subst h0
    rw [hb0 rfl]
    exact c_Jx4a65c_add_9ea2d_A l G lq md x vs e ci rr wr hcr hca
  · obtain ⟨m, rfl⟩ : ∃ m, n = m + 1 := ⟨n - 1, by omega⟩
    rcases Nat.lt_or_ge (m + 1) cap with h1 | h1
    · exact c_Jx4a65c_add_9ea2d_B l G lq md b (m + 1) cap x vs e ci rr wr h1 (hc1 h0).2 hcr hca
    · have h2 : cap = m + 1 := by have := hc1 h0; omega
      subst h2
      exact c_Jx4a65c_add_9ea2d_C l G lq md b (m + 1) x vs e ci rr wr h0 hn2 hcr hca hel
