set_option maxHeartbeats 4000000 in
set_option maxRecDepth 100000 in
theorem c_L_drawn (l : Launch) (G : kG) (b : Nat) (L : Nat) (xs : Nat → Int32) (k : Nat) (wr : va_W) (hL : L ≤ 260) (hk : k < 100) : Met l yL_drawn wsL_drawn ({ frames := 0, cells := 0, slots := 0, locals := 0 } : Room) (kPX G [.ref (b), .int (nI (k))] wr b L xs) (kQi G (S := Nat) (fun z u => z = nI u ∧ u < 2 ^ 31) (fun _ => wr)) 0 0 (kA G) := by
  refine Met.ofW (cc := cL_drawn) (maxL := 2) (ret := (some .int)) (by decide) rfl ?_
  intro pp ee s m args below meth cc0 s₁ Bd0 hml hv
  obtain ⟨rfl, hE, hV⟩ := hv
  have hK := hE.1
  have hx := Bd0.exec
  have hb := Bd0.bytes
  have hrt := Bd0.returns
  have hts := atoms_spec (ws := wsL_drawn) Bd0.pre
  have hown : s.vm.findClass RL = some m.cls := findClass_of_methodNamed Bd0.named
  have hlocks := Bd0.notSynchronized
  have hF : CallFix pp m cc0 cL_drawn 2 s _ wsL_drawn RL := ⟨hx, hb, hml, hown, hts⟩
  have hS : va_S (kA G) s.heap s.heap [] := va_S.rf
  have hB0 := hE.2.1
  have hl := lv_entry ([.ref (b), .int (nI (k))]) (n := 2) (Nat.le_of_ble_eq_true rfl)
  rw [lg_entry_eq]
  generalize (lg_sl ([.ref (b), .int (nI (k))]) ++ List.replicate (2 - (lg_sl ([.ref (b), .int (nI (k))])).length) Slot.unset).toArray = ls at hl ⊢
  have hl : lv_has ls 2 [(0, .ref (b)), (1, .int (nI (k)))] := hl
  obtain ⟨hV, hX, hbl, hbA⟩ := hV
  have k22 : ∀ (v9 : Int32) (H : Heap) (locs : List Loc), kV G (wr) H → va_S (kA G) s.heap H locs → ∀ (ls : Array Slot), lv_has ls 2 [(0, .ref (b)), (1, .int (nI (k)))] → W pp l ee (headSpec wsL_drawn ({ frames := 0, cells := 0, slots := 0, locals := 0 } : Room)).room s m [.ref (b), .int (nI (k))].toArray below meth cc0 H locs 0 0 (MQ below (kQi G (S := Nat) (fun z u => z = nI u ∧ u < 2 ^ 31) (fun _ => wr)) [.ref (b), .int (nI (k))].toArray s 0 0 (kA G)) (F0 m 22 ls [.int (v9)]) := by
    intro v9 H locs hV hS ls hl
    refine lv_ldc (v := nI 2147483647) hx hb hown (hts (Cond.constant RL 80 (2147483647)) (List.mem_of_getElem? (i := 2) rfl)) dL_drawn_22 ?_
    refine lv_iand hx hb dL_drawn_24 ?_
    obtain ⟨X9, hX1, hX2⟩ := and31 v9
    exact W.iret (v := (v9 &&& nI 2147483647)) hx hb hrt (fun t ht hW => ⟨⟨_, X9, rfl, ⟨hX2, hX1⟩, kV_eq ht hV⟩, hS.F ht⟩) hS.2.2 dL_drawn_25
  refine lv_iload_n hx hb dL_drawn_0 rfl (lv_at hl 1 rfl) ?_
  refine lv_aload_n hx hb dL_drawn_1 rfl (lv_at hl 0 rfl) ?_
  refine va_slen hx hb hX hbl hbA hS dL_drawn_2 ?_
  refine kn_ge (tgt := 12) hx hb (by omega) (by omega) dL_drawn_3 (by decide) (fun c3 => ?_) (fun c3 => ?_)
  · refine lv_ldc (v := nI 15525697) hx hb hown (hts (Cond.constant RL 79 (15525697)) (List.mem_of_getElem? (i := 1) rfl)) dL_drawn_12 ?_
    refine lv_iload_n hx hb dL_drawn_14 rfl (lv_at hl 1 rfl) ?_
    refine lv_iconst (v := nI 3) hx hb dL_drawn_15 (by decide) ?_
    refine kn_add hx hb dL_drawn_16 ?_
    refine kn_mul hx hb dL_drawn_17 ?_
    refine lv_sipush (v := nI 14033) hx hb dL_drawn_18 (by decide) ?_
    refine kn_add hx hb dL_drawn_21 ?_
    exact k22 (nI ((15525697 * (k + 3)) + 14033)) _ _ hV hS ls (lv_sub hl [0, 1] rfl)
  · refine lv_aload_n hx hb dL_drawn_6 rfl (lv_at hl 0 rfl) ?_
    refine lv_iload_n hx hb dL_drawn_7 rfl (lv_at hl 1 rfl) ?_
    refine kn_sld hx hb hX hbl hbA hS (j := k) (by omega) (by omega) dL_drawn_8 ?_
    refine lv_goto (tgt := 22) hx hb dL_drawn_9 (by decide) ?_
    exact k22 ((xs k)) _ _ hV hS ls (lv_sub hl [0, 1] rfl)
