set_option maxHeartbeats 4000000 in
set_option maxRecDepth 100000 in
theorem c_X3_append (l : Launch) (G : kG) (hp : Nat) (ak : Nat) (au : Nat) (az : Nat) (at1 : Nat) (w : Nat) (n : Nat) (K : Nat → Nat) (U : Nat → Nat) (Z : Nat → Int) (T : Nat → Nat) (wr : va_W) (k : Nat) (u : Nat) (z : Int) (t : Nat) (hn : n < 6) : Met l yX3_append wsX3_append ({ frames := 0, cells := 0, slots := 0, locals := 0 } : Room) (kPc G [.ref (hp), .int (nI (k)), .int (nI (u)), .int (zI (z)), .int (nI (t))] ([(hp, .inr (4, [.int (nI (w)), .ref (ak), .ref (au), .ref (az), .ref (at1), .int (nI (n))])), (ak, aN (kcI G) 6 K), (au, aN (kcI G) 6 U), (az, aZ (kcI G) 6 Z), (at1, aN (kcI G) 6 T)] ++ wr)) (kQv G (S := Unit) (fun _ => True) (fun _ => [(hp, .inr (4, [.int (nI (w)), .ref (ak), .ref (au), .ref (az), .ref (at1), .int (nI (n + 1))])), (ak, aN (kcI G) 6 (va_up K n k)), (au, aN (kcI G) 6 (va_up U n u)), (az, aZ (kcI G) 6 (va_up Z n z)), (at1, aN (kcI G) 6 (va_up T n t))] ++ wr)) 0 0 (kA G) := by
  refine Met.ofW (cc := cX3_append) (maxL := 5) (ret := none) (by decide) rfl ?_
  intro pp ee s m args below meth cc0 s₁ B hml hv
  obtain ⟨rfl, hE, hV⟩ := hv
  have hK := hE.1
  have hx := B.exec
  have hb := B.bytes
  have hrt := B.returns
  have hts := atoms_spec (ws := wsX3_append) B.pre
  have hown : s.vm.findClass RX3 = some m.cls := findClass_of_methodNamed B.named
  have hlocks := B.notSynchronized
  have hF : CallFix pp m cc0 cX3_append 5 s _ wsX3_append RX3 := ⟨hx, hb, hml, hown, hts⟩
  have hinX3 : ∀ w ∈ wsX30, w ∈ wsX3_append := tb_of [6, 7, 8, 9, 10, 11] rfl
  have hS : va_S (kA G) s.heap s.heap [] := va_S.rf
  have hB0 := hE.2.1
  have hl := lv_entry ([.ref (hp), .int (nI (k)), .int (nI (u)), .int (zI (z)), .int (nI (t))]) (n := 5) (Nat.le_of_ble_eq_true rfl)
  rw [lg_entry_eq]
  generalize (lg_sl ([.ref (hp), .int (nI (k)), .int (nI (u)), .int (zI (z)), .int (nI (t))]) ++ List.replicate (5 - (lg_sl ([.ref (hp), .int (nI (k)), .int (nI (u)), .int (zI (z)), .int (nI (t))])).length) Slot.unset).toArray = ls at hl ⊢
  have hl : lv_has ls 5 [(0, .ref (hp)), (1, .int (nI (k))), (2, .int (nI (u))), (3, .int (zI (z))), (4, .int (nI (t)))] := hl
  refine lv_aload_n hx hb dX3_append_0 rfl (lv_at hl 0 rfl) ?_
  refine va_get (D := kD G) (ci := 4) (v := .int (nI (n))) (C := RX3) (T := TX3) (N := 6) hx hb hts hinX3 hown hK hV.1 0 rfl rfl 5 (by decide) (hts (Cond.fieldLink RX3 24 "Yarncourt$Program" "lineCount" "I") (List.mem_of_getElem? (i := 1) rfl)) (fun _ h9 => h9) rfl dX3_append_1 ?_
  refine lv_bipush (v := nI 6) hx hb dX3_append_4 (by decide) ?_
  refine kn_ge (tgt := 60) hx hb (by omega) (by decide) dX3_append_6 (by decide) (fun z => absurd z (by omega)) (fun c6 => ?_)
  refine lv_aload_n hx hb dX3_append_9 rfl (lv_at hl 0 rfl) ?_
  refine va_get (D := kD G) (ci := 4) (v := .ref (ak)) (C := RX3) (T := TX3) (N := 6) hx hb hts hinX3 hown hK hV.1 0 rfl rfl 1 (by decide) (hts (Cond.fieldLink RX3 9 "Yarncourt$Program" "knits" "[I") (List.mem_of_getElem? (i := 2) rfl)) (fun _ h9 => h9) rfl dX3_append_10 ?_
  refine lv_aload_n hx hb dX3_append_13 rfl (lv_at hl 0 rfl) ?_
  refine va_get (D := kD G) (ci := 4) (v := .int (nI (n))) (C := RX3) (T := TX3) (N := 6) hx hb hts hinX3 hown hK hV.1 0 rfl rfl 5 (by decide) (hts (Cond.fieldLink RX3 24 "Yarncourt$Program" "lineCount" "I") (List.mem_of_getElem? (i := 1) rfl)) (fun _ h9 => h9) rfl dX3_append_14 ?_
  refine lv_iload_n hx hb dX3_append_17 rfl (lv_at hl 1 rfl) ?_
  refine kn_iast (G := G) (n := 6) (g := K) (j := n) (v := k) hx hb hK hV hS 1 rfl (by omega) (by decide) dX3_append_18 (fun H locs hV hS => ?_)
  have hV : kV G ([(hp, .inr (4, [.int (nI (w)), .ref (ak), .ref (au), .ref (az), .ref (at1), .int (nI (n))])), (ak, aN (kcI G) 6 (va_up K n k)), (au, aN (kcI G) 6 U), (az, aZ (kcI G) 6 Z), (at1, aN (kcI G) 6 T)] ++ wr) H := hV
  refine lv_aload_n hx hb dX3_append_19 rfl (lv_at hl 0 rfl) ?_
  refine va_get (D := kD G) (ci := 4) (v := .ref (au)) (C := RX3) (T := TX3) (N := 6) hx hb hts hinX3 hown hK hV.1 0 rfl rfl 2 (by decide) (hts (Cond.fieldLink RX3 15 "Yarncourt$Program" "purls" "[I") (List.mem_of_getElem? (i := 3) rfl)) (fun _ h9 => h9) rfl dX3_append_20 ?_
  refine lv_aload_n hx hb dX3_append_23 rfl (lv_at hl 0 rfl) ?_
  refine va_get (D := kD G) (ci := 4) (v := .int (nI (n))) (C := RX3) (T := TX3) (N := 6) hx hb hts hinX3 hown hK hV.1 0 rfl rfl 5 (by decide) (hts (Cond.fieldLink RX3 24 "Yarncourt$Program" "lineCount" "I") (List.mem_of_getElem? (i := 1) rfl)) (fun _ h9 => h9) rfl dX3_append_24 ?_
  refine lv_iload_n hx hb dX3_append_27 rfl (lv_at hl 2 rfl) ?_
  refine kn_iast (G := G) (n := 6) (g := U) (j := n) (v := u) hx hb hK hV hS 2 rfl (by omega) (by decide) dX3_append_28 (fun H locs hV hS => ?_)
  have hV : kV G ([(hp, .inr (4, [.int (nI (w)), .ref (ak), .ref (au), .ref (az), .ref (at1), .int (nI (n))])), (ak, aN (kcI G) 6 (va_up K n k)), (au, aN (kcI G) 6 (va_up U n u)), (az, aZ (kcI G) 6 Z), (at1, aN (kcI G) 6 T)] ++ wr) H := hV
  refine lv_aload_n hx hb dX3_append_29 rfl (lv_at hl 0 rfl) ?_
  refine va_get (D := kD G) (ci := 4) (v := .ref (az)) (C := RX3) (T := TX3) (N := 6) hx hb hts hinX3 hown hK hV.1 0 rfl rfl 3 (by decide) (hts (Cond.fieldLink RX3 18 "Yarncourt$Program" "shaping" "[I") (List.mem_of_getElem? (i := 4) rfl)) (fun _ h9 => h9) rfl dX3_append_30 ?_
  refine lv_aload_n hx hb dX3_append_33 rfl (lv_at hl 0 rfl) ?_
  refine va_get (D := kD G) (ci := 4) (v := .int (nI (n))) (C := RX3) (T := TX3) (N := 6) hx hb hts hinX3 hown hK hV.1 0 rfl rfl 5 (by decide) (hts (Cond.fieldLink RX3 24 "Yarncourt$Program" "lineCount" "I") (List.mem_of_getElem? (i := 1) rfl)) (fun _ h9 => h9) rfl dX3_append_34 ?_
  refine lv_iload_n hx hb dX3_append_37 rfl (lv_at hl 3 rfl) ?_
  refine kz_iast (G := G) (n := 6) (g := Z) (j := n) (v := z) hx hb hK hV hS 3 rfl (by omega) (by decide) dX3_append_38 (fun H locs hV hS => ?_)
  have hV : kV G ([(hp, .inr (4, [.int (nI (w)), .ref (ak), .ref (au), .ref (az), .ref (at1), .int (nI (n))])), (ak, aN (kcI G) 6 (va_up K n k)), (au, aN (kcI G) 6 (va_up U n u)), (az, aZ (kcI G) 6 (va_up Z n z)), (at1, aN (kcI G) 6 T)] ++ wr) H := hV
  refine lv_aload_n hx hb dX3_append_39 rfl (lv_at hl 0 rfl) ?_
  refine va_get (D := kD G) (ci := 4) (v := .ref (at1)) (C := RX3) (T := TX3) (N := 6) hx hb hts hinX3 hown hK hV.1 0 rfl rfl 4 (by decide) (hts (Cond.fieldLink RX3 21 "Yarncourt$Program" "times" "[I") (List.mem_of_getElem? (i := 5) rfl)) (fun _ h9 => h9) rfl dX3_append_40 ?_
  refine lv_aload_n hx hb dX3_append_43 rfl (lv_at hl 0 rfl) ?_
  refine va_get (D := kD G) (ci := 4) (v := .int (nI (n))) (C := RX3) (T := TX3) (N := 6) hx hb hts hinX3 hown hK hV.1 0 rfl rfl 5 (by decide) (hts (Cond.fieldLink RX3 24 "Yarncourt$Program" "lineCount" "I") (List.mem_of_getElem? (i := 1) rfl)) (fun _ h9 => h9) rfl dX3_append_44 ?_
  refine lv_iload hx hb dX3_append_47 (lv_at hl 4 rfl) ?_
  refine kn_iast (G := G) (n := 6) (g := T) (j := n) (v := t) hx hb hK hV hS 4 rfl (by omega) (by decide) dX3_append_49 (fun H locs hV hS => ?_)
  have hV : kV G ([(hp, .inr (4, [.int (nI (w)), .ref (ak), .ref (au), .ref (az), .ref (at1), .int (nI (n))])), (ak, aN (kcI G) 6 (va_up K n k)), (au, aN (kcI G) 6 (va_up U n u)), (az, aZ (kcI G) 6 (va_up Z n z)), (at1, aN (kcI G) 6 (va_up T n t))] ++ wr) H := hV
  refine lv_aload_n hx hb dX3_append_50 rfl (lv_at hl 0 rfl) ?_
  refine lv_dup hx hb dX3_append_51 rfl ?_
  refine va_get (D := kD G) (ci := 4) (v := .int (nI (n))) (C := RX3) (T := TX3) (N := 6) hx hb hts hinX3 hown hK hV.1 0 rfl rfl 5 (by decide) (hts (Cond.fieldLink RX3 24 "Yarncourt$Program" "lineCount" "I") (List.mem_of_getElem? (i := 1) rfl)) (fun _ h9 => h9) rfl dX3_append_52 ?_
  refine lv_iconst (v := nI 1) hx hb dX3_append_55 (by decide) ?_
  refine kn_add hx hb dX3_append_56 ?_
  refine va_put (D := kD G) (ci := 4) (v := .int (nI (n + 1))) (ty := .int) (C := RX3) (T := TX3) (N := 6) hx hb hts hinX3 tyX3 tyX3_ok nmX3 hown hK hV.1 hV.2 hS 0 rfl rfl 5 (by decide) (hts (Cond.fieldLink RX3 24 "Yarncourt$Program" "lineCount" "I") (List.mem_of_getElem? (i := 1) rfl)) (fun _ h9 => h9) rfl (by decide +kernel) rfl rfl (Nat.le_of_ble_eq_true rfl) dX3_append_57 (fun H locs hP hD hS => ?_)
  have hV : kV G ([(hp, .inr (4, [.int (nI (w)), .ref (ak), .ref (au), .ref (az), .ref (at1), .int (nI (n + 1))])), (ak, aN (kcI G) 6 (va_up K n k)), (au, aN (kcI G) 6 (va_up U n u)), (az, aZ (kcI G) 6 (va_up Z n z)), (at1, aN (kcI G) 6 (va_up T n t))] ++ wr) H := ⟨hP, hD⟩
  exact W.vret hx hb hrt (fun t ht hW => ⟨⟨(), rfl, trivial, kV_eq ht hV⟩, hS.F ht⟩) hS.2.2 dX3_append_60
set_option maxHeartbeats 4000000 in
set_option maxRecDepth 100000 in
theorem c_X3_timesFor (l : Launch) (G : kG) (hp : Nat) (ak : Nat) (au : Nat) (az : Nat) (at1 : Nat) (w : Nat) (n : Nat) (K : Nat → Nat) (U : Nat → Nat) (Z : Nat → Int) (T : Nat → Nat) (wr : va_W) (g : Nat) (i : Nat) (hi : i < 6) (hT : T i ≤ 40) (hg : g ≤ 20) : Met l yX3_timesFor wsX3_timesFor ({ frames := 1, cells := 0, slots := 0, locals := 21 } : Room) (kPc G [.ref (hp), .int (nI (g)), .int (nI (i))] ([(hp, .inr (4, [.int (nI (w)), .ref (ak), .ref (au), .ref (az), .ref (at1), .int (nI (n))])), (ak, aN (kcI G) 6 K), (au, aN (kcI G) 6 U), (az, aZ (kcI G) 6 Z), (at1, aN (kcI G) 6 T)] ++ wr)) (kQi G (S := Unit) (fun q _ => q = nI (oftN (T i) g)) (fun _ => [(hp, .inr (4, [.int (nI (w)), .ref (ak), .ref (au), .ref (az), .ref (at1), .int (nI (n))])), (ak, aN (kcI G) 6 K), (au, aN (kcI G) 6 U), (az, aZ (kcI G) 6 Z), (at1, aN (kcI G) 6 T)] ++ wr)) 0 0 (kA G) := by
  refine Met.ofW (cc := cX3_timesFor) (maxL := 3) (ret := (some .int)) (by decide) rfl ?_
  intro pp ee s m args below meth cc0 s₁ B hml hv
  obtain ⟨rfl, hE, hV⟩ := hv
  have hK := hE.1
  have hx := B.exec
  have hb := B.bytes
  have hrt := B.returns
  have hts := atoms_spec (ws := wsX3_timesFor) B.pre
  have hown : s.vm.findClass RX3 = some m.cls := findClass_of_methodNamed B.named
  have hlocks := B.notSynchronized
  have hF : CallFix pp m cc0 cX3_timesFor 3 s _ wsX3_timesFor RX3 := ⟨hx, hb, hml, hown, hts⟩
  have hinX3 : ∀ w ∈ wsX30, w ∈ wsX3_timesFor := tb_of [9, 10, 11, 12, 13, 14] rfl
  have hS : va_S (kA G) s.heap s.heap [] := va_S.rf
  have hB0 := hE.2.1
  have hl := lv_entry ([.ref (hp), .int (nI (g)), .int (nI (i))]) (n := 3) (Nat.le_of_ble_eq_true rfl)
  rw [lg_entry_eq]
  generalize (lg_sl ([.ref (hp), .int (nI (g)), .int (nI (i))]) ++ List.replicate (3 - (lg_sl ([.ref (hp), .int (nI (g)), .int (nI (i))])).length) Slot.unset).toArray = ls at hl ⊢
  have hl : lv_has ls 3 [(0, .ref (hp)), (1, .int (nI (g))), (2, .int (nI (i)))] := hl
  have hm : T i * g ≤ 40 * 20 := Nat.mul_le_mul hT hg
  refine lv_iconst (v := nI 1) hx hb dX3_timesFor_0 (by decide) ?_
  refine lv_aload_n hx hb dX3_timesFor_1 rfl (lv_at hl 0 rfl) ?_
  refine va_get (D := kD G) (ci := 4) (v := .ref (at1)) (C := RX3) (T := TX3) (N := 6) hx hb hts hinX3 hown hK hV.1 0 rfl rfl 4 (by decide) (hts (Cond.fieldLink RX3 21 "Yarncourt$Program" "times" "[I") (List.mem_of_getElem? (i := 1) rfl)) (fun _ h9 => h9) rfl dX3_timesFor_2 ?_
  refine lv_iload_n hx hb dX3_timesFor_5 rfl (lv_at hl 2 rfl) ?_
  refine kn_iald (G := G) (n := 6) (g := T) (j := i) hx hb hK hV 4 rfl (by omega) (by decide) dX3_timesFor_6 ?_
  refine lv_iload_n hx hb dX3_timesFor_7 rfl (lv_at hl 1 rfl) ?_
  refine kc_i (va_runSN (As := [.int (nI (T i)), .int (nI (g))]) (rest := [.int (nI (1))]) hF (c_X5_forGauge l G (T i) g ([(hp, .inr (4, [.int (nI (w)), .ref (ak), .ref (au), .ref (az), .ref (at1), .int (nI (n))])), (ak, aN (kcI G) 6 K), (au, aN (kcI G) 6 U), (az, aZ (kcI G) 6 Z), (at1, aN (kcI G) 6 T)] ++ wr) (by omega)) ⟨va_cnB 2 hts gX3_timesFor_X5_forGauge_n31 rfl rfl rfl (hE.2.2.1 (Cond.methodLinkNest "Yarncourt$Program" 31 yX5_forGauge "Yarncourt") (by decide +kernel)) (hts (Cond.initialized RX5) (List.mem_of_getElem? (i := 7) rfl)) (by decide +kernel) ⟨Nat.le_of_ble_eq_true rfl, Nat.le_of_ble_eq_true rfl⟩, (hts (Cond.static yX5_forGauge) (List.mem_of_getElem? (i := 6) rfl)), trivial⟩ (kPreS hE hS hV) rfl rfl hl.1 rfl (lv_room (Nat.le_of_ble_eq_true rfl)) dX3_timesFor_8 ⟨Nat.le_of_ble_eq_true rfl, Nat.le_of_ble_eq_true rfl⟩) hS (fun r_3 u_2 H locs hp_1 hV hS => ?_)
  subst hp_1
  have hV : kV G ([(hp, .inr (4, [.int (nI (w)), .ref (ak), .ref (au), .ref (az), .ref (at1), .int (nI (n))])), (ak, aN (kcI G) 6 K), (au, aN (kcI G) 6 U), (az, aZ (kcI G) 6 Z), (at1, aN (kcI G) 6 T)] ++ wr) H := hV
  refine va_mmax hx hb (hml.trans hl.1.symm) hown (hts (Cond.methodLink RX3 35 Lib.Math.max.name) (List.mem_of_getElem? (i := 2) rfl)) (hts (Cond.static Lib.Math.max.name) (List.mem_of_getElem? (i := 3) rfl)) (hts (Cond.initialized "java/lang/Math") (List.mem_of_getElem? (i := 4) rfl)) (hts (Cond.code Lib.Math.max.name Lib.Math.max.code 2 (some .int)) (List.mem_of_getElem? (i := 5) rfl)) (Nat.le_of_ble_eq_true rfl) (Nat.le_of_ble_eq_true rfl) (Nat.le_of_ble_eq_true rfl) (Nat.le_of_ble_eq_true rfl) dX3_timesFor_11 ?_
  exact W.iret (v := (if nI 1 < nI ((T i) * g / 10) then nI ((T i) * g / 10) else nI 1)) hx hb hrt (fun t ht hW => ⟨⟨_, (), rfl, mx_oft (by omega), kV_eq ht hV⟩, hS.F ht⟩) hS.2.2 dX3_timesFor_14
set_option maxHeartbeats 4000000 in
set_option maxRecDepth 100000 in
theorem c_X3_rowsFor (l : Launch) (G : kG) (hp : Nat) (ak : Nat) (au : Nat) (az : Nat) (at1 : Nat) (w : Nat) (n : Nat) (K : Nat → Nat) (U : Nat → Nat) (Z : Nat → Int) (T : Nat → Nat) (wr : va_W) (g : Nat) (hn : n ≤ 6) (hT : ∀ i, i < n → T i ≤ 40) (hg : g ≤ 20) : Met l yX3_rowsFor wsX3_rowsFor ({ frames := 2, cells := 0, slots := 0, locals := 43 } : Room) (kPc G [.ref (hp), .int (nI (g))] ([(hp, .inr (4, [.int (nI (w)), .ref (ak), .ref (au), .ref (az), .ref (at1), .int (nI (n))])), (ak, aN (kcI G) 6 K), (au, aN (kcI G) 6 U), (az, aZ (kcI G) 6 Z), (at1, aN (kcI G) 6 T)] ++ wr)) (kQi G (S := Unit) (fun q _ => q = nI (sumN (fun i => oftN (T i) g) n)) (fun _ => [(hp, .inr (4, [.int (nI (w)), .ref (ak), .ref (au), .ref (az), .ref (at1), .int (nI (n))])), (ak, aN (kcI G) 6 K), (au, aN (kcI G) 6 U), (az, aZ (kcI G) 6 Z), (at1, aN (kcI G) 6 T)] ++ wr)) 0 0 (kA G) := by
  refine Met.ofW (cc := cX3_rowsFor) (maxL := 4) (ret := (some .int)) (by decide) rfl ?_
  intro pp ee s m args below meth cc0 s₁ B hml hv
  obtain ⟨rfl, hE, hV⟩ := hv
  have hK := hE.1
  have hx := B.exec
  have hb := B.bytes
  have hrt := B.returns
  have hts := atoms_spec (ws := wsX3_rowsFor) B.pre
  have hown : s.vm.findClass RX3 = some m.cls := findClass_of_methodNamed B.named
  have hlocks := B.notSynchronized
  have hF : CallFix pp m cc0 cX3_rowsFor 4 s _ wsX3_rowsFor RX3 := ⟨hx, hb, hml, hown, hts⟩
  have hinX3 : ∀ w ∈ wsX30, w ∈ wsX3_rowsFor := tb_of [15, 16, 17, 18, 19, 20] rfl
  have hS : va_S (kA G) s.heap s.heap [] := va_S.rf
  have hB0 := hE.2.1
  have hl := lv_entry ([.ref (hp), .int (nI (g))]) (n := 4) (Nat.le_of_ble_eq_true rfl)
  rw [lg_entry_eq]
  generalize (lg_sl ([.ref (hp), .int (nI (g))]) ++ List.replicate (4 - (lg_sl ([.ref (hp), .int (nI (g))])).length) Slot.unset).toArray = ls at hl ⊢
  have hl : lv_has ls 4 [(0, .ref (hp)), (1, .int (nI (g)))] := hl
  refine lv_iconst (v := nI 0) hx hb dX3_rowsFor_0 (by decide) ?_
  refine lv_istore_n (lv' := [(2, .int (nI (0))), (0, .ref (hp)), (1, .int (nI (g)))]) hx hb dX3_rowsFor_1 rfl hl (by decide) rfl (fun ls hl => ?_)
  refine lv_iconst (v := nI 0) hx hb dX3_rowsFor_2 (by decide) ?_
  refine lv_istore_n (lv' := [(3, .int (nI (0))), (2, .int (nI (0))), (0, .ref (hp)), (1, .int (nI (g)))]) hx hb dX3_rowsFor_3 rfl hl (by decide) rfl (fun ls hl => ?_)
  have L4 : ∀ (nL4 : Nat) (i : Nat) (hi : i ≤ n) (hmL4 : n - i < nL4) (H : Heap) (locs : List Loc), kV G ([(hp, .inr (4, [.int (nI (w)), .ref (ak), .ref (au), .ref (az), .ref (at1), .int (nI (n))])), (ak, aN (kcI G) 6 K), (au, aN (kcI G) 6 U), (az, aZ (kcI G) 6 Z), (at1, aN (kcI G) 6 T)] ++ wr) H → va_S (kA G) s.heap H locs → ∀ (ls : Array Slot), lv_has ls 4 [(0, .ref (hp)), (1, .int (nI (g))), (2, .int (nI (sumN (fun i => oftN (T i) g) i))), (3, .int (nI (i)))] → W pp l ee (headSpec wsX3_rowsFor ({ frames := 2, cells := 0, slots := 0, locals := 43 } : Room)).room s m [.ref (hp), .int (nI (g))].toArray below meth cc0 H locs 0 0 (MQ below (kQi G (S := Unit) (fun q _ => q = nI (sumN (fun i => oftN (T i) g) n)) (fun _ => [(hp, .inr (4, [.int (nI (w)), .ref (ak), .ref (au), .ref (az), .ref (at1), .int (nI (n))])), (ak, aN (kcI G) 6 K), (au, aN (kcI G) 6 U), (az, aZ (kcI G) 6 Z), (at1, aN (kcI G) 6 T)] ++ wr)) [.ref (hp), .int (nI (g))].toArray s 0 0 (kA G)) (F0 m 4 ls []) := by
    intro nL4
    induction nL4 with
    | zero => intro i hi hmL4; exact absurd hmL4 (Nat.not_lt_zero _)
    | succ nL4 ihL4 =>
      intro i hi hmL4 H locs hV hS ls hl
      refine lv_iload_n hx hb dX3_rowsFor_4 rfl (lv_at hl 3 rfl) ?_
      refine lv_aload_n hx hb dX3_rowsFor_5 rfl (lv_at hl 0 rfl) ?_
      refine va_get (D := kD G) (ci := 4) (v := .int (nI (n))) (C := RX3) (T := TX3) (N := 6) hx hb hts hinX3 hown hK hV.1 0 rfl rfl 5 (by decide) (hts (Cond.fieldLink RX3 24 "Yarncourt$Program" "lineCount" "I") (List.mem_of_getElem? (i := 1) rfl)) (fun _ h9 => h9) rfl dX3_rowsFor_6 ?_
      refine kn_ge (tgt := 27) hx hb (by omega) (by omega) dX3_rowsFor_9 (by decide) (fun c9 => ?_) (fun c9 => ?_)
      · refine lv_iload_n hx hb dX3_rowsFor_27 rfl (lv_at hl 2 rfl) ?_
        exact W.iret (v := nI (sumN (fun i => oftN (T i) g) i)) hx hb hrt (fun t ht hW => ⟨⟨_, (), rfl, by rw [show i = n from by omega], kV_eq ht hV⟩, hS.F ht⟩) hS.2.2 dX3_rowsFor_28
      · refine lv_iload_n hx hb dX3_rowsFor_12 rfl (lv_at hl 2 rfl) ?_
        refine lv_aload_n hx hb dX3_rowsFor_13 rfl (lv_at hl 0 rfl) ?_
        refine lv_iload_n hx hb dX3_rowsFor_14 rfl (lv_at hl 1 rfl) ?_
        refine lv_iload_n hx hb dX3_rowsFor_15 rfl (lv_at hl 3 rfl) ?_
        refine kc_i (va_runV (As := [.int (nI (g)), .int (nI (i))]) (rest := [.int (nI (sumN (fun i => oftN (T i) g) i))]) hF (c_X3_timesFor l G hp ak au az at1 w n K U Z T wr g i (by omega) (hT i (by omega)) (by omega)) (cwV 2 hts gX3_rowsFor_X3_timesFor rfl rfl rfl (by decide +kernel) ⟨Nat.le_of_ble_eq_true rfl, Nat.le_of_ble_eq_true rfl⟩) (kPreV hE hS hV 0 rfl rfl) rfl rfl hl.1 rfl (lv_room (Nat.le_of_ble_eq_true rfl)) dX3_rowsFor_16 ⟨Nat.le_of_ble_eq_true rfl, Nat.le_of_ble_eq_true rfl⟩) hS (fun r_3 u_2 H locs hp_1 hV hS => ?_)
        subst hp_1
        have hV : kV G ([(hp, .inr (4, [.int (nI (w)), .ref (ak), .ref (au), .ref (az), .ref (at1), .int (nI (n))])), (ak, aN (kcI G) 6 K), (au, aN (kcI G) 6 U), (az, aZ (kcI G) 6 Z), (at1, aN (kcI G) 6 T)] ++ wr) H := hV
        refine kn_add hx hb dX3_rowsFor_19 ?_
        refine lv_istore_n (lv' := [(2, .int (nI ((sumN (fun i => oftN (T i) g) i) + (oftN (T i) g)))), (0, .ref (hp)), (1, .int (nI (g))), (3, .int (nI (i)))]) hx hb dX3_rowsFor_20 rfl hl (by decide) rfl (fun ls hl => ?_)
        refine lv_iinc (lv' := [(3, .int (nI (i + 1))), (2, .int (nI ((sumN (fun i => oftN (T i) g) i) + (oftN (T i) g)))), (0, .ref (hp)), (1, .int (nI (g)))]) hx hb dX3_rowsFor_21 hl (k := 3) rfl (kn_iinc i 1) (by decide) rfl (fun ls hl => ?_)
        refine lv_goto (tgt := 4) hx hb dX3_rowsFor_24 (by decide) ?_
        exact ihL4 (i + 1) (by omega) (by omega) _ _ hV hS ls (lv_sub hl [2, 3, 1, 0] rfl)
  exact L4 ((n - 0) + 1) 0 (by omega) (Nat.lt_succ_self _) _ _ hV hS ls (lv_sub hl [2, 3, 1, 0] rfl)
set_option maxHeartbeats 4000000 in
set_option maxRecDepth 100000 in
theorem c_X3_workAlong (l : Launch) (G : kG) (hp : Nat) (ak : Nat) (au : Nat) (az : Nat) (at1 : Nat) (w : Nat) (n : Nat) (K : Nat → Nat) (U : Nat → Nat) (Z : Nat → Int) (T : Nat → Nat) (wr : va_W) (i : Nat) (c : Nat) (hi : i < 6) (hku : 1 ≤ K i + U i) (hk9 : K i ≤ 9) (hu9 : U i ≤ 9) (hcc : c ≤ 40) : Met l yX3_workAlong wsX3_workAlong ({ frames := 0, cells := 0, slots := 0, locals := 0 } : Room) (kPc G [.ref (hp), .int (nI (i)), .int (nI (c))] ([(hp, .inr (4, [.int (nI (w)), .ref (ak), .ref (au), .ref (az), .ref (at1), .int (nI (n))])), (ak, aN (kcI G) 6 K), (au, aN (kcI G) 6 U), (az, aZ (kcI G) 6 Z), (at1, aN (kcI G) 6 T)] ++ wr)) (kQi G (S := Unit) (fun q _ => q = nI (if c % (K i + U i) < K i then 1 else 2)) (fun _ => [(hp, .inr (4, [.int (nI (w)), .ref (ak), .ref (au), .ref (az), .ref (at1), .int (nI (n))])), (ak, aN (kcI G) 6 K), (au, aN (kcI G) 6 U), (az, aZ (kcI G) 6 Z), (at1, aN (kcI G) 6 T)] ++ wr)) 0 0 (kA G) := by
  refine Met.ofW (cc := cX3_workAlong) (maxL := 6) (ret := (some .int)) (by decide) rfl ?_
  intro pp ee s m args below meth cc0 s₁ B hml hv
  obtain ⟨rfl, hE, hV⟩ := hv
  have hK := hE.1
  have hx := B.exec
  have hb := B.bytes
  have hrt := B.returns
  have hts := atoms_spec (ws := wsX3_workAlong) B.pre
  have hown : s.vm.findClass RX3 = some m.cls := findClass_of_methodNamed B.named
  have hlocks := B.notSynchronized
  have hF : CallFix pp m cc0 cX3_workAlong 6 s _ wsX3_workAlong RX3 := ⟨hx, hb, hml, hown, hts⟩
  have hinX3 : ∀ w ∈ wsX30, w ∈ wsX3_workAlong := tb_of [3, 4, 5, 6, 7, 8] rfl
  have hS : va_S (kA G) s.heap s.heap [] := va_S.rf
  have hB0 := hE.2.1
  have hl := lv_entry ([.ref (hp), .int (nI (i)), .int (nI (c))]) (n := 6) (Nat.le_of_ble_eq_true rfl)
  rw [lg_entry_eq]
  generalize (lg_sl ([.ref (hp), .int (nI (i)), .int (nI (c))]) ++ List.replicate (6 - (lg_sl ([.ref (hp), .int (nI (i)), .int (nI (c))])).length) Slot.unset).toArray = ls at hl ⊢
  have hl : lv_has ls 6 [(0, .ref (hp)), (1, .int (nI (i))), (2, .int (nI (c)))] := hl
  refine lv_aload_n hx hb dX3_workAlong_0 rfl (lv_at hl 0 rfl) ?_
  refine va_get (D := kD G) (ci := 4) (v := .ref (ak)) (C := RX3) (T := TX3) (N := 6) hx hb hts hinX3 hown hK hV.1 0 rfl rfl 1 (by decide) (hts (Cond.fieldLink RX3 9 "Yarncourt$Program" "knits" "[I") (List.mem_of_getElem? (i := 1) rfl)) (fun _ h9 => h9) rfl dX3_workAlong_1 ?_
  refine lv_iload_n hx hb dX3_workAlong_4 rfl (lv_at hl 1 rfl) ?_
  refine kn_iald (G := G) (n := 6) (g := K) (j := i) hx hb hK hV 1 rfl (by omega) (by decide) dX3_workAlong_5 ?_
  refine lv_aload_n hx hb dX3_workAlong_6 rfl (lv_at hl 0 rfl) ?_
  refine va_get (D := kD G) (ci := 4) (v := .ref (au)) (C := RX3) (T := TX3) (N := 6) hx hb hts hinX3 hown hK hV.1 0 rfl rfl 2 (by decide) (hts (Cond.fieldLink RX3 15 "Yarncourt$Program" "purls" "[I") (List.mem_of_getElem? (i := 2) rfl)) (fun _ h9 => h9) rfl dX3_workAlong_7 ?_
  refine lv_iload_n hx hb dX3_workAlong_10 rfl (lv_at hl 1 rfl) ?_
  refine kn_iald (G := G) (n := 6) (g := U) (j := i) hx hb hK hV 2 rfl (by omega) (by decide) dX3_workAlong_11 ?_
  refine kn_add hx hb dX3_workAlong_12 ?_
  refine lv_iconst (v := nI 1) hx hb dX3_workAlong_13 (by decide) ?_
  refine kn_sub hx hb (by omega) dX3_workAlong_14 ?_
  refine lv_istore_n (lv' := [(3, .int (nI (((K i) + (U i)) - 1))), (0, .ref (hp)), (1, .int (nI (i))), (2, .int (nI (c)))]) hx hb dX3_workAlong_15 rfl hl (by decide) rfl (fun ls hl => ?_)
  refine lv_iconst (v := nI 0) hx hb dX3_workAlong_16 (by decide) ?_
  refine lv_istore (lv' := [(4, .int (nI (0))), (3, .int (nI (((K i) + (U i)) - 1))), (0, .ref (hp)), (1, .int (nI (i))), (2, .int (nI (c)))]) hx hb dX3_workAlong_17 hl (by decide) rfl (fun ls hl => ?_)
  refine lv_iconst (v := nI 0) hx hb dX3_workAlong_19 (by decide) ?_
  refine lv_istore (lv' := [(5, .int (nI (0))), (4, .int (nI (0))), (3, .int (nI (((K i) + (U i)) - 1))), (0, .ref (hp)), (1, .int (nI (i))), (2, .int (nI (c)))]) hx hb dX3_workAlong_20 hl (by decide) rfl (fun ls hl => ?_)
  have L22 : ∀ (nL22 : Nat) (x : Nat) (hx9 : x ≤ c) (hmL22 : c - x < nL22) (H : Heap) (locs : List Loc), kV G ([(hp, .inr (4, [.int (nI (w)), .ref (ak), .ref (au), .ref (az), .ref (at1), .int (nI (n))])), (ak, aN (kcI G) 6 K), (au, aN (kcI G) 6 U), (az, aZ (kcI G) 6 Z), (at1, aN (kcI G) 6 T)] ++ wr) H → va_S (kA G) s.heap H locs → ∀ (ls : Array Slot), lv_has ls 6 [(0, .ref (hp)), (1, .int (nI (i))), (2, .int (nI (c))), (3, .int (nI (K i + U i - 1))), (4, .int (nI (x % (K i + U i)))), (5, .int (nI (x)))] → W pp l ee (headSpec wsX3_workAlong ({ frames := 0, cells := 0, slots := 0, locals := 0 } : Room)).room s m [.ref (hp), .int (nI (i)), .int (nI (c))].toArray below meth cc0 H locs 0 0 (MQ below (kQi G (S := Unit) (fun q _ => q = nI (if c % (K i + U i) < K i then 1 else 2)) (fun _ => [(hp, .inr (4, [.int (nI (w)), .ref (ak), .ref (au), .ref (az), .ref (at1), .int (nI (n))])), (ak, aN (kcI G) 6 K), (au, aN (kcI G) 6 U), (az, aZ (kcI G) 6 Z), (at1, aN (kcI G) 6 T)] ++ wr)) [.ref (hp), .int (nI (i)), .int (nI (c))].toArray s 0 0 (kA G)) (F0 m 22 ls []) := by
    intro nL22
    induction nL22 with
    | zero => intro x hx9 hmL22; exact absurd hmL22 (Nat.not_lt_zero _)
    | succ nL22 ihL22 =>
      intro x hx9 hmL22 H locs hV hS ls hl
      refine lv_iload hx hb dX3_workAlong_22 (lv_at hl 5 rfl) ?_
      refine lv_iload_n hx hb dX3_workAlong_24 rfl (lv_at hl 2 rfl) ?_
      refine kn_ge (tgt := 50) hx hb (by omega) (by omega) dX3_workAlong_25 (by decide) (fun c25 => ?_) (fun c25 => ?_)
      · have e9 : x = c := by omega
        have hmo := Nat.mod_lt x (show 0 < K i + U i by omega)
        refine lv_iload hx hb dX3_workAlong_50 (lv_at hl 4 rfl) ?_
        refine lv_aload_n hx hb dX3_workAlong_52 rfl (lv_at hl 0 rfl) ?_
        refine va_get (D := kD G) (ci := 4) (v := .ref (ak)) (C := RX3) (T := TX3) (N := 6) hx hb hts hinX3 hown hK hV.1 0 rfl rfl 1 (by decide) (hts (Cond.fieldLink RX3 9 "Yarncourt$Program" "knits" "[I") (List.mem_of_getElem? (i := 1) rfl)) (fun _ h9 => h9) rfl dX3_workAlong_53 ?_
        refine lv_iload_n hx hb dX3_workAlong_56 rfl (lv_at hl 1 rfl) ?_
        refine kn_iald (G := G) (n := 6) (g := K) (j := i) hx hb hK hV 1 rfl (by omega) (by decide) dX3_workAlong_57 ?_
        refine kn_ge (tgt := 65) hx hb (by omega) (by omega) dX3_workAlong_58 (by decide) (fun c58 => ?_) (fun c58 => ?_)
        · refine lv_iconst (v := nI 2) hx hb dX3_workAlong_65 (by decide) ?_
          exact W.iret (v := nI 2) hx hb hrt (fun t ht hW => ⟨⟨_, (), rfl, by rw [← e9, if_neg (by omega)], kV_eq ht hV⟩, hS.F ht⟩) hS.2.2 dX3_workAlong_66
        · refine lv_iconst (v := nI 1) hx hb dX3_workAlong_61 (by decide) ?_
          refine lv_goto (tgt := 66) hx hb dX3_workAlong_62 (by decide) ?_
          exact W.iret (v := nI 1) hx hb hrt (fun t ht hW => ⟨⟨_, (), rfl, by rw [← e9, if_pos c58], kV_eq ht hV⟩, hS.F ht⟩) hS.2.2 dX3_workAlong_66
      · have hmo := Nat.mod_lt x (show 0 < K i + U i by omega)
        refine lv_iload hx hb dX3_workAlong_28 (lv_at hl 4 rfl) ?_
        refine lv_iload_n hx hb dX3_workAlong_30 rfl (lv_at hl 3 rfl) ?_
        refine kn_ge (tgt := 41) hx hb (by omega) (by omega) dX3_workAlong_31 (by decide) (fun c31 => ?_) (fun c31 => ?_)
        · refine lv_iconst (v := nI 0) hx hb dX3_workAlong_41 (by decide) ?_
          refine lv_istore (lv' := [(4, .int (nI (0))), (0, .ref (hp)), (1, .int (nI (i))), (2, .int (nI (c))), (3, .int (nI (K i + U i - 1))), (5, .int (nI (x)))]) hx hb dX3_workAlong_42 hl (by decide) rfl (fun ls hl => ?_)
          refine lv_iinc (lv' := [(5, .int (nI (x + 1))), (4, .int (nI (0))), (0, .ref (hp)), (1, .int (nI (i))), (2, .int (nI (c))), (3, .int (nI (K i + U i - 1)))]) hx hb dX3_workAlong_44 hl (k := 5) rfl (kn_iinc x 1) (by decide) rfl (fun ls hl => ?_)
          refine lv_goto (tgt := 22) hx hb dX3_workAlong_47 (by decide) ?_
          exact ihL22 (x + 1) (by omega) (by omega) _ _ hV hS ls (by rw [(modS (show 0 < K i + U i by omega)).1 (by omega)]; exact lv_sub hl [2, 3, 4, 5, 1, 0] rfl)
        · refine lv_iload hx hb dX3_workAlong_34 (lv_at hl 4 rfl) ?_
          refine lv_iconst (v := nI 1) hx hb dX3_workAlong_36 (by decide) ?_
          refine kn_add hx hb dX3_workAlong_37 ?_
          refine lv_goto (tgt := 42) hx hb dX3_workAlong_38 (by decide) ?_
          refine lv_istore (lv' := [(4, .int (nI ((x % (K i + U i)) + 1))), (0, .ref (hp)), (1, .int (nI (i))), (2, .int (nI (c))), (3, .int (nI (K i + U i - 1))), (5, .int (nI (x)))]) hx hb dX3_workAlong_42 hl (by decide) rfl (fun ls hl => ?_)
          refine lv_iinc (lv' := [(5, .int (nI (x + 1))), (4, .int (nI ((x % (K i + U i)) + 1))), (0, .ref (hp)), (1, .int (nI (i))), (2, .int (nI (c))), (3, .int (nI (K i + U i - 1)))]) hx hb dX3_workAlong_44 hl (k := 5) rfl (kn_iinc x 1) (by decide) rfl (fun ls hl => ?_)
          refine lv_goto (tgt := 22) hx hb dX3_workAlong_47 (by decide) ?_
          exact ihL22 (x + 1) (by omega) (by omega) _ _ hV hS ls (by rw [(modS (show 0 < K i + U i by omega)).2 (by omega)]; exact lv_sub hl [2, 3, 4, 5, 1, 0] rfl)
  exact L22 ((c - 0) + 1) 0 (by omega) (Nat.lt_succ_self _) _ _ hV hS ls (by rw [Nat.zero_mod]; exact lv_sub hl [3, 4, 5, 2, 1, 0] rfl)
set_option maxHeartbeats 4000000 in
set_option maxRecDepth 100000 in
theorem c_X3_workTo (l : Launch) (G : kG) (hp : Nat) (ak : Nat) (au : Nat) (az : Nat) (at1 : Nat) (w : Nat) (n : Nat) (K : Nat → Nat) (U : Nat → Nat) (Z : Nat → Int) (T : Nat → Nat) (wr : va_W) (r : Nat) (c : Nat) (hn : n ≤ 6) (hw : 1 ≤ w ∧ w ≤ 40) (hP : ∀ i, i < n → K i ≤ 9 ∧ U i ≤ 9 ∧ 1 ≤ K i + U i ∧ 1 ≤ T i ∧ T i ≤ 40 ∧ -3 ≤ Z i ∧ Z i ≤ 3) (h40 : sumN T n ≤ 40) (hr9 : r < sumN T n) (hcc : c < 2 ^ 31) : Met l yX3_workTo wsX3_workTo ({ frames := 3, cells := 0, slots := 0, locals := 64 } : Room) (kPc G [.ref (hp), .int (nI (r)), .int (nI (c))] ([(hp, .inr (4, [.int (nI (w)), .ref (ak), .ref (au), .ref (az), .ref (at1), .int (nI (n))])), (ak, aN (kcI G) 6 K), (au, aN (kcI G) 6 U), (az, aZ (kcI G) 6 Z), (at1, aN (kcI G) 6 T)] ++ wr)) (kQi G (S := Unit) (fun q _ => q = nI (stV (K (goS T Z 0 w r).1) (U (goS T Z 0 w r).1) (goS T Z 0 w r).2.2 c)) (fun _ => [(hp, .inr (4, [.int (nI (w)), .ref (ak), .ref (au), .ref (az), .ref (at1), .int (nI (n))])), (ak, aN (kcI G) 6 K), (au, aN (kcI G) 6 U), (az, aZ (kcI G) 6 Z), (at1, aN (kcI G) 6 T)] ++ wr)) 0 0 (kA G) := by
  refine Met.ofW (cc := cX3_workTo) (maxL := 7) (ret := (some .int)) (by decide) rfl ?_
  intro pp ee s m args below meth cc0 s₁ B hml hv
  obtain ⟨rfl, hE, hV⟩ := hv
  have hK := hE.1
  have hx := B.exec
  have hb := B.bytes
  have hrt := B.returns
  have hts := atoms_spec (ws := wsX3_workTo) B.pre
  have hown : s.vm.findClass RX3 = some m.cls := findClass_of_methodNamed B.named
  have hlocks := B.notSynchronized
  have hF : CallFix pp m cc0 cX3_workTo 7 s _ wsX3_workTo RX3 := ⟨hx, hb, hml, hown, hts⟩
  have hinX3 : ∀ w ∈ wsX30, w ∈ wsX3_workTo := tb_of [25, 26, 27, 28, 29, 30] rfl
  have hS : va_S (kA G) s.heap s.heap [] := va_S.rf
  have hB0 := hE.2.1
  have hl := lv_entry ([.ref (hp), .int (nI (r)), .int (nI (c))]) (n := 7) (Nat.le_of_ble_eq_true rfl)
  rw [lg_entry_eq]
  generalize (lg_sl ([.ref (hp), .int (nI (r)), .int (nI (c))]) ++ List.replicate (7 - (lg_sl ([.ref (hp), .int (nI (r)), .int (nI (c))])).length) Slot.unset).toArray = ls at hl ⊢
  have hl : lv_has ls 7 [(0, .ref (hp)), (1, .int (nI (r))), (2, .int (nI (c)))] := hl
  have hti : ∀ k, k < n → 1 ≤ T (0 + k) := fun k hk => by rw [Nat.zero_add]; exact (hP k hk).2.2.2.1
  have hsT : (fun k => T (0 + k)) = T := by funext k; rw [Nat.zero_add]
  refine lv_aload_n hx hb dX3_workTo_0 rfl (lv_at hl 0 rfl) ?_
  refine va_get (D := kD G) (ci := 4) (v := .int (nI (w))) (C := RX3) (T := TX3) (N := 6) hx hb hts hinX3 hown hK hV.1 0 rfl rfl 0 (by decide) (hts (Cond.fieldLink RX3 28 "Yarncourt$Program" "firstWidth" "I") (List.mem_of_getElem? (i := 1) rfl)) (fun _ h9 => h9) rfl dX3_workTo_1 ?_
  refine lv_istore_n (lv' := [(3, .int (nI (w))), (0, .ref (hp)), (1, .int (nI (r))), (2, .int (nI (c)))]) hx hb dX3_workTo_4 rfl hl (by decide) rfl (fun ls hl => ?_)
  refine lv_iconst (v := nI 0) hx hb dX3_workTo_5 (by decide) ?_
  refine lv_istore (lv' := [(4, .int (nI (0))), (3, .int (nI (w))), (0, .ref (hp)), (1, .int (nI (r))), (2, .int (nI (c)))]) hx hb dX3_workTo_6 hl (by decide) rfl (fun ls hl => ?_)
  refine lv_iconst (v := nI 0) hx hb dX3_workTo_8 (by decide) ?_
  refine lv_istore (lv' := [(5, .int (nI (0))), (4, .int (nI (0))), (3, .int (nI (w))), (0, .ref (hp)), (1, .int (nI (r))), (2, .int (nI (c)))]) hx hb dX3_workTo_9 hl (by decide) rfl (fun ls hl => ?_)
  have L11 : ∀ (nL11 : Nat) (i : Nat) (hi : i ≤ n) (hwk : sumN T i ≤ r) (hmL11 : n - i < nL11) (H : Heap) (locs : List Loc), kV G ([(hp, .inr (4, [.int (nI (w)), .ref (ak), .ref (au), .ref (az), .ref (at1), .int (nI (n))])), (ak, aN (kcI G) 6 K), (au, aN (kcI G) 6 U), (az, aZ (kcI G) 6 Z), (at1, aN (kcI G) 6 T)] ++ wr) H → va_S (kA G) s.heap H locs → ∀ (ls : Array Slot), lv_has ls 7 [(0, .ref (hp)), (1, .int (nI (r))), (2, .int (nI (c))), (3, .int (nI ((goS T Z 0 w (sumN T i)).2.2))), (4, .int (nI (sumN T i))), (5, .int (nI (i)))] → W pp l ee (headSpec wsX3_workTo ({ frames := 3, cells := 0, slots := 0, locals := 64 } : Room)).room s m [.ref (hp), .int (nI (r)), .int (nI (c))].toArray below meth cc0 H locs 0 0 (MQ below (kQi G (S := Unit) (fun q _ => q = nI (stV (K (goS T Z 0 w r).1) (U (goS T Z 0 w r).1) (goS T Z 0 w r).2.2 c)) (fun _ => [(hp, .inr (4, [.int (nI (w)), .ref (ak), .ref (au), .ref (az), .ref (at1), .int (nI (n))])), (ak, aN (kcI G) 6 K), (au, aN (kcI G) 6 U), (az, aZ (kcI G) 6 Z), (at1, aN (kcI G) 6 T)] ++ wr)) [.ref (hp), .int (nI (r)), .int (nI (c))].toArray s 0 0 (kA G)) (F0 m 11 ls []) := by
    intro nL11
    induction nL11 with
    | zero => intro i hi hwk hmL11; exact absurd hmL11 (Nat.not_lt_zero _)
    | succ nL11 ihL11 =>
      intro i hi hwk hmL11 H locs hV hS ls hl
      refine lv_iload hx hb dX3_workTo_11 (lv_at hl 5 rfl) ?_
      refine lv_aload_n hx hb dX3_workTo_13 rfl (lv_at hl 0 rfl) ?_
      refine va_get (D := kD G) (ci := 4) (v := .int (nI (n))) (C := RX3) (T := TX3) (N := 6) hx hb hts hinX3 hown hK hV.1 0 rfl rfl 5 (by decide) (hts (Cond.fieldLink RX3 24 "Yarncourt$Program" "lineCount" "I") (List.mem_of_getElem? (i := 2) rfl)) (fun _ h9 => h9) rfl dX3_workTo_14 ?_
      refine kn_ge (tgt := 85) hx hb (by omega) (by omega) dX3_workTo_17 (by decide) (fun z => absurd hr9 (by rw [show n = i from by omega]; omega)) (fun c17 => ?_)
      have hPi := hP i (by omega)
      refine lv_iconst (v := nI 0) hx hb dX3_workTo_20 (by decide) ?_
      refine lv_istore (lv' := [(6, .int (nI (0))), (0, .ref (hp)), (1, .int (nI (r))), (2, .int (nI (c))), (3, .int (nI ((goS T Z 0 w (sumN T i)).2.2))), (4, .int (nI (sumN T i))), (5, .int (nI (i)))]) hx hb dX3_workTo_21 hl (by decide) rfl (fun ls hl => ?_)
      have L23 : ∀ (nL23 : Nat) (j : Nat) (hj : j ≤ T i) (hwk2 : sumN T i + j ≤ r) (hmL23 : T i - j < nL23) (H : Heap) (locs : List Loc), kV G ([(hp, .inr (4, [.int (nI (w)), .ref (ak), .ref (au), .ref (az), .ref (at1), .int (nI (n))])), (ak, aN (kcI G) 6 K), (au, aN (kcI G) 6 U), (az, aZ (kcI G) 6 Z), (at1, aN (kcI G) 6 T)] ++ wr) H → va_S (kA G) s.heap H locs → ∀ (ls : Array Slot), lv_has ls 7 [(0, .ref (hp)), (1, .int (nI (r))), (2, .int (nI (c))), (3, .int (nI ((goS T Z 0 w (sumN T i + j)).2.2))), (4, .int (nI (sumN T i + j))), (5, .int (nI (i))), (6, .int (nI (j)))] → W pp l ee (headSpec wsX3_workTo ({ frames := 3, cells := 0, slots := 0, locals := 64 } : Room)).room s m [.ref (hp), .int (nI (r)), .int (nI (c))].toArray below meth cc0 H locs 0 0 (MQ below (kQi G (S := Unit) (fun q _ => q = nI (stV (K (goS T Z 0 w r).1) (U (goS T Z 0 w r).1) (goS T Z 0 w r).2.2 c)) (fun _ => [(hp, .inr (4, [.int (nI (w)), .ref (ak), .ref (au), .ref (az), .ref (at1), .int (nI (n))])), (ak, aN (kcI G) 6 K), (au, aN (kcI G) 6 U), (az, aZ (kcI G) 6 Z), (at1, aN (kcI G) 6 T)] ++ wr)) [.ref (hp), .int (nI (r)), .int (nI (c))].toArray s 0 0 (kA G)) (F0 m 23 ls []) := by
        intro nL23
        induction nL23 with
        | zero => intro j hj hwk2 hmL23; exact absurd hmL23 (Nat.not_lt_zero _)
        | succ nL23 ihL23 =>
          intro j hj hwk2 hmL23 H locs hV hS ls hl
          refine lv_iload hx hb dX3_workTo_23 (lv_at hl 6 rfl) ?_
          refine lv_aload_n hx hb dX3_workTo_25 rfl (lv_at hl 0 rfl) ?_
          refine va_get (D := kD G) (ci := 4) (v := .ref (at1)) (C := RX3) (T := TX3) (N := 6) hx hb hts hinX3 hown hK hV.1 0 rfl rfl 4 (by decide) (hts (Cond.fieldLink RX3 21 "Yarncourt$Program" "times" "[I") (List.mem_of_getElem? (i := 3) rfl)) (fun _ h9 => h9) rfl dX3_workTo_26 ?_
          refine lv_iload hx hb dX3_workTo_29 (lv_at hl 5 rfl) ?_
          refine kn_iald (G := G) (n := 6) (g := T) (j := i) hx hb hK hV 4 rfl (by omega) (by decide) dX3_workTo_31 ?_
          refine kn_ge (tgt := 79) hx hb (by omega) (by omega) dX3_workTo_32 (by decide) (fun c32 => ?_) (fun c32 => ?_)
          · refine lv_iinc (lv' := [(5, .int (nI (i + 1))), (0, .ref (hp)), (1, .int (nI (r))), (2, .int (nI (c))), (3, .int (nI ((goS T Z 0 w (sumN T i + j)).2.2))), (4, .int (nI (sumN T i + j))), (6, .int (nI (j)))]) hx hb dX3_workTo_79 hl (k := 5) rfl (kn_iinc i 1) (by decide) rfl (fun ls hl => ?_)
            refine lv_goto (tgt := 11) hx hb dX3_workTo_82 (by decide) ?_
            exact ihL11 (i + 1) (by omega) (by rw [sumN_s]; omega) (by omega) _ _ hV hS ls (by rw [show sumN T (i + 1) = sumN T i + j from by rw [sumN_s]; omega]; exact lv_sub hl [1, 2, 3, 4, 5, 0] rfl)
          · have hgi := goS_in (sh := Z) (w := w) hti (show i < n by omega) (show j < T (0 + i) by rw [Nat.zero_add]; omega)
            rw [hsT, Nat.zero_add] at hgi
            have hgw := goS_w (t := T) (sh := Z) (b := 0) hw (sumN T i + j)
            refine lv_iload hx hb dX3_workTo_35 (lv_at hl 4 rfl) ?_
            refine lv_iload_n hx hb dX3_workTo_37 rfl (lv_at hl 1 rfl) ?_
            refine kn_ne (tgt := 58) hx hb (by omega) (by omega) dX3_workTo_38 (by decide) (fun c38 => ?_) (fun c38 => ?_)
            · refine lv_iload_n hx hb dX3_workTo_58 rfl (lv_at hl 3 rfl) ?_
              refine lv_aload_n hx hb dX3_workTo_59 rfl (lv_at hl 0 rfl) ?_
              refine va_get (D := kD G) (ci := 4) (v := .ref (az)) (C := RX3) (T := TX3) (N := 6) hx hb hts hinX3 hown hK hV.1 0 rfl rfl 3 (by decide) (hts (Cond.fieldLink RX3 18 "Yarncourt$Program" "shaping" "[I") (List.mem_of_getElem? (i := 4) rfl)) (fun _ h9 => h9) rfl dX3_workTo_60 ?_
              refine lv_iload hx hb dX3_workTo_63 (lv_at hl 5 rfl) ?_
              refine kz_iald (G := G) (n := 6) (g := Z) (j := i) hx hb hK hV 3 rfl (by omega) (by decide) dX3_workTo_65 ?_
              refine kc_i (va_runSN (As := [.int (nI ((goS T Z 0 w (sumN T i + j)).2.2)), .int (zI (Z i))]) (rest := []) hF (c_X5_widthAfter l G ((goS T Z 0 w (sumN T i + j)).2.2) (Z i) ([(hp, .inr (4, [.int (nI (w)), .ref (ak), .ref (au), .ref (az), .ref (at1), .int (nI (n))])), (ak, aN (kcI G) 6 K), (au, aN (kcI G) 6 U), (az, aZ (kcI G) 6 Z), (at1, aN (kcI G) 6 T)] ++ wr) (by omega) (by omega)) ⟨va_cnB 2 hts gX3_workTo_X5_widthAfter_n46 rfl rfl rfl (hE.2.2.1 (Cond.methodLinkNest "Yarncourt$Program" 46 yX5_widthAfter "Yarncourt") (by decide +kernel)) (hts (Cond.initialized RX5) (List.mem_of_getElem? (i := 13) rfl)) (by decide +kernel) ⟨Nat.le_of_ble_eq_true rfl, Nat.le_of_ble_eq_true rfl⟩, (hts (Cond.static yX5_widthAfter) (List.mem_of_getElem? (i := 12) rfl)), trivial⟩ (kPreS hE hS hV) rfl rfl hl.1 rfl (lv_room (Nat.le_of_ble_eq_true rfl)) dX3_workTo_66 ⟨Nat.le_of_ble_eq_true rfl, Nat.le_of_ble_eq_true rfl⟩) hS (fun r_3 u_2 H locs hp_1 hV hS => ?_)
              subst hp_1
              have hV : kV G ([(hp, .inr (4, [.int (nI (w)), .ref (ak), .ref (au), .ref (az), .ref (at1), .int (nI (n))])), (ak, aN (kcI G) 6 K), (au, aN (kcI G) 6 U), (az, aZ (kcI G) 6 Z), (at1, aN (kcI G) 6 T)] ++ wr) H := hV
              refine lv_istore_n (lv' := [(3, .int (nI (clampW ((((goS T Z 0 w (sumN T i + j)).2.2) : Int) + (Z i))))), (0, .ref (hp)), (1, .int (nI (r))), (2, .int (nI (c))), (4, .int (nI (sumN T i + j))), (5, .int (nI (i))), (6, .int (nI (j)))]) hx hb dX3_workTo_69 rfl hl (by decide) rfl (fun ls hl => ?_)
              refine lv_iinc (lv' := [(4, .int (nI (sumN T i + j + 1))), (3, .int (nI (clampW ((((goS T Z 0 w (sumN T i + j)).2.2) : Int) + (Z i))))), (0, .ref (hp)), (1, .int (nI (r))), (2, .int (nI (c))), (5, .int (nI (i))), (6, .int (nI (j)))]) hx hb dX3_workTo_70 hl (k := 4) rfl (kn_iinc (sumN T i + j) 1) (by decide) rfl (fun ls hl => ?_)
              refine lv_iinc (lv' := [(6, .int (nI (j + 1))), (4, .int (nI (sumN T i + j + 1))), (3, .int (nI (clampW ((((goS T Z 0 w (sumN T i + j)).2.2) : Int) + (Z i))))), (0, .ref (hp)), (1, .int (nI (r))), (2, .int (nI (c))), (5, .int (nI (i)))]) hx hb dX3_workTo_73 hl (k := 6) rfl (kn_iinc j 1) (by decide) rfl (fun ls hl => ?_)
              refine lv_goto (tgt := 23) hx hb dX3_workTo_76 (by decide) ?_
              exact ihL23 (j + 1) (by omega) (by omega) (by omega) _ _ hV hS ls (by rw [show sumN T i + (j + 1) = sumN T i + j + 1 from rfl, goS_w1, hgi]; exact lv_sub hl [3, 4, 5, 2, 1, 6, 0] rfl)
            · refine lv_iload_n hx hb dX3_workTo_41 rfl (lv_at hl 2 rfl) ?_
              refine lv_iload_n hx hb dX3_workTo_42 rfl (lv_at hl 3 rfl) ?_
              refine kn_ge (tgt := 56) hx hb (by omega) (by omega) dX3_workTo_43 (by decide) (fun c43 => ?_) (fun c43 => ?_)
              · refine lv_iconst (v := nI 0) hx hb dX3_workTo_56 (by decide) ?_
                have e9 : sumN T i + j = r := c38
                exact W.iret (v := nI 0) hx hb hrt (fun t ht hW => ⟨⟨_, (), rfl, by rw [← e9, hgi]; unfold stV; rw [if_pos c43], kV_eq ht hV⟩, hS.F ht⟩) hS.2.2 dX3_workTo_57
              · refine lv_aload_n hx hb dX3_workTo_46 rfl (lv_at hl 0 rfl) ?_
                refine lv_iload hx hb dX3_workTo_47 (lv_at hl 5 rfl) ?_
                refine lv_iload_n hx hb dX3_workTo_49 rfl (lv_at hl 2 rfl) ?_
                refine kc_i (va_runV (As := [.int (nI (i)), .int (nI (c))]) (rest := []) hF (c_X3_workAlong l G hp ak au az at1 w n K U Z T wr i c (by omega) hPi.2.2.1 hPi.1 hPi.2.1 (by omega)) (cwV 2 hts gX3_workTo_X3_workAlong rfl rfl rfl (by decide +kernel) ⟨Nat.le_of_ble_eq_true rfl, Nat.le_of_ble_eq_true rfl⟩) (kPreV hE hS hV 0 rfl rfl) rfl rfl hl.1 rfl (lv_room (Nat.le_of_ble_eq_true rfl)) dX3_workTo_50 ⟨Nat.le_of_ble_eq_true rfl, Nat.le_of_ble_eq_true rfl⟩) hS (fun r_6 u_5 H locs hp_4 hV hS => ?_)
                subst hp_4
                have hV : kV G ([(hp, .inr (4, [.int (nI (w)), .ref (ak), .ref (au), .ref (az), .ref (at1), .int (nI (n))])), (ak, aN (kcI G) 6 K), (au, aN (kcI G) 6 U), (az, aZ (kcI G) 6 Z), (at1, aN (kcI G) 6 T)] ++ wr) H := hV
                refine lv_goto (tgt := 57) hx hb dX3_workTo_53 (by decide) ?_
                have e9 : sumN T i + j = r := c38
                exact W.iret (v := nI (if c % (K i + U i) < K i then 1 else 2)) hx hb hrt (fun t ht hW => ⟨⟨_, (), rfl, by rw [← e9, hgi]; unfold stV; rw [if_neg (by omega)], kV_eq ht hV⟩, hS.F ht⟩) hS.2.2 dX3_workTo_57
      exact L23 ((T i - 0) + 1) 0 (by omega) hwk (Nat.lt_succ_self _) _ _ hV hS ls (lv_sub hl [1, 2, 3, 4, 5, 6, 0] rfl)
  exact L11 ((n - 0) + 1) 0 (by omega) (Nat.zero_le _) (Nat.lt_succ_self _) _ _ hV hS ls (lv_sub hl [3, 4, 5, 2, 1, 0] rfl)
