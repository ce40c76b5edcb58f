/-! THE CLAIM OUT OF ONE WALK OF THE LAW'S BODY. Your part is whole_start (and what it stands on); all else here is the same for every law, but numbers. -/
def R_law : String := "YarncourtLaw"
def lw_P (b : Addr) (xs : List Int32) (args : Array Value) (s : State) : Prop := args = #[.ref b] ∧ s.IntsAt b xs ∧ xs.length ≤ 3072 ∧ (Jvm.Cond.and given_1 narrow_1).before args s = true
def lw_Q (_ : Array Value) (s : State) (o : Outcome) (t : State) : Prop := o = .returned (some (.int 1)) ∧ Framed s o t [] 601024 7293034
def lw_Z (below : List Frame) (a : Array Value) (s : State) : State → Prop := fun t => ∃ o, t.status = .running ∧ Ended t below o ∧ lw_Q a s o t
/-- the law's own end, with 1 on the stack, nothing written that was there before, its room as the claim has it -/
theorem lw_ret {p : Program} {l : Launch} {e : Env} {s : State} {m : MethodId} {below : List Frame} {meth : Method} {c : Code} {b : Nat} (hx : p.tables.exec = Jvm.exec) (hb : c.code = code) (hr : meth.sig.returnType = ret) (hlocks : meth.locks = false) {pc : Nat} {H : Heap} {ls : Array Slot} (hdg : decode code pc = .ok (.ireturn, 1)) : W p l e room_1 s m #[Value.ref b] below meth c H [] 601024 7293034 (lw_Z below #[Value.ref b] s) (F0 m pc ls [.int 1]) := by
  intro T hT X
  obtain ⟨fs, hret, hrun, hended, hW, hframe⟩ := X.leave (v := some (.int 1)) (hlocks := hlocks) (fun h => by rw [hr] at h; cases h)
  have hmeth' : T.vm.method? m = some meth := X.method'
  refine ⟨T.setFrames fs, ?_, .returned (some (.int 1)), hrun, hended, rfl, ⟨_, rfl⟩, hW, hframe⟩
  jvm_step X.here [X.here.top, hx, hb, hdg, hmeth', hr, ret, narrow_b1]
  (try refine ⟨rfl, ?_⟩); (try refine ⟨rfl, ?_⟩)
  first | (intro acts; rw [hret _ acts rfl rfl rfl]) | rw [hret _ _ rfl rfl rfl]
  exact Steps.refl _
/-- what holds at the law's entry: the machine, the code, the tables' words (any of lw_tbl by 'hts w (by decide +kernel)'), the script of L ints xs at the cell b, what the Statement gives of the start (any of its parts by flat_of_before) -/
def lw_At (p : Program) (s : State) (m : MethodId) (meth : Method) (c : Code) (b L : Nat) (xs : Nat → Int32) : Prop :=
  p.tables.exec = Jvm.exec ∧ c.code = code ∧ meth.sig.returnType = ret ∧ c.maxLocals = 7 ∧ s.vm.findClass R_law = some m.cls ∧ (∀ w ∈ lw_tbl, w.before #[Value.ref b] s = true) ∧ va_X b L xs s s.heap ∧ b < s.heap.size ∧ meth.locks = false ∧ (Jvm.Cond.and given_1 narrow_1).before #[Value.ref b] s = true
theorem lw_guard {i L : Nat} (hL : L ≤ 3072) (hi : i ≤ 3072) : (nI L - nI 6 < nI i) ↔ L < i + 6 := by
  have e1 : nI L - nI 6 = zI ((L : Int) - 6) := by
    rw [zI_nI, zI_nI]; exact (Int32.ofInt_sub _ _).symm
  have e2 : (zI ((L : Int) - 6)).toInt = (L : Int) - 6 := Int32.toInt_ofInt_of_le (by omega) (by omega)
  rw [e1, i_lt, i_nI (by omega), e2]
  omega
set_option maxHeartbeats 4000000 in
set_option maxRecDepth 100000 in
/-- the law's loop: the class's site and the reference hold one state -/
theorem lw_loop {pp : Program} {l : Launch} {ee : Env} {s : State} {m : MethodId} {below : List Frame} {meth : Method} {cc0 : Code} {b L : Nat} {xs : Nat → Int32} {G : kG} (hlt : l.stackTraces = false) (hL : L ≤ 3072) (hx : pp.tables.exec = Jvm.exec) (hb : cc0.code = cL_law) (hrt : meth.sig.returnType = ret) (hlocks : meth.locks = false) (hml : cc0.maxLocals = 7) (hown : s.vm.findClass RL = some m.cls) (hts : ∀ w ∈ wsL_law, w.before #[Value.ref b] s = true) (hX : va_X b L xs s s.heap) (hbl : b < s.heap.size) (hbA : ¬ kA G b) (hE : kE G s s.heap) (hB : kB G = s.heap.size)
    (yx ol h : Nat) (ad : Nat → Nat) : ∀ (n k : Nat), L < 6 * k + n → 6 * k ≤ L → ∀ (S : kS) (y : kY) (g : Nat → Int64) (rf rl rw : Nat) (H : Heap) (locs : List Loc), kInv S → yI G S y → yH y 0 = yx → kV G (lwV G S y ol g h ad rf rl rw) H → va_S (kA G) s.heap H locs → ∀ (ls : Array Slot), lv_has ls 7 [(0, .ref b), (1, .ref (yx)), (2, .ref h), (3, .ref ol), (4, .int (nI (6 * k)))] → W pp l ee room_1 s m #[Value.ref b] below meth cc0 H locs (40 + 20 * k) (700 + 2000 * k) (lw_Z below #[Value.ref b] s) (F0 m 23 ls []) := by
  have hK := hE.1
  intro n
  induction n with
  | zero =>
    intro k h1 h2
    exact absurd h1 (by omega)
  | succ n ih =>
    intro k hn hk S y g rf rl rw H locs hI hY hy hV hS ls hl
    subst hy
    refine lv_iload hx hb dL_law_23 (lv_at hl 4 rfl) ?_
    refine lv_aload_n hx hb dL_law_25 rfl (lv_at hl 0 rfl) ?_
    refine va_slen hx hb hX hbl hbA hS dL_law_26 ?_
    refine lv_bipush (v := nI 6) hx hb dL_law_27 (by decide) ?_
    refine lv_isub hx hb dL_law_29 ?_
    refine lv_icmp_gt (tgt := 1442) hx hb dL_law_30 (by decide) (fun _ => ?_) (fun c30 => ?_)
    · refine lv_iconst (v := 1) hx hb dL_law_1442 (by decide) ?_
      refine va_forget (fun q hq => ?_) ?_
      · have h9 : kB G ≤ q.base := hS.2.2 q hq
        rw [hB] at h9
        exact h9
      · refine W.widen (k := 601024) (n := 7293034) (by omega) (by omega) ?_
        exact lw_ret hx hb hrt hlocks dL_law_1443
    · have hi : 6 * k + 6 ≤ L := Nat.not_lt.mp (fun z => c30 ((lw_guard hL (by omega)).mpr z))
      have hj : ∀ (S2 : kS) (y2 : kY) (g2 : Nat → Int64) (rf2 rl2 rw2 : Nat) (H : Heap) (locs : List Loc), kInv S2 → yI G S2 y2 → yH y2 0 = yH y 0 → kV G (lwV G S2 y2 ol g2 h ad rf2 rl2 rw2) H → va_S (kA G) s.heap H locs → ∀ (ls : Array Slot), lv_has ls 7 [(0, .ref b), (1, .ref (yH y 0)), (2, .ref h), (3, .ref ol), (4, .int (nI (6 * k)))] → W pp l ee room_1 s m #[Value.ref b] below meth cc0 H locs (40 + 20 * k + 20) (700 + 2000 * k + 2000) (lw_Z below #[Value.ref b] s) (F0 m 1436 ls []) := by
        intro S2 y2 g2 rf2 rl2 rw2 H locs hI2 hY2 hy2 hV2 hS2 ls hl
        refine lv_iinc (lv' := [(4, .int (nI (6 * k + 6))), (0, .ref b), (1, .ref (yH y 0)), (2, .ref h), (3, .ref ol)]) hx hb dL_law_1436 hl (k := 4) rfl (kn_iinc (6 * k) 6) (by decide) rfl (fun ls hl => ?_)
        refine lv_goto (tgt := 23) hx hb dL_law_1439 (by decide) ?_
        refine W.widen (k := 40 + 20 * (k + 1)) (n := 700 + 2000 * (k + 1)) (by omega) (by omega) ?_
        exact ih (k + 1) (by omega) (by omega) S2 y2 g2 rf2 rl2 rw2 H locs hI2 hY2 hy2 hV2 hS2 ls (by rw [show 6 * (k + 1) = 6 * k + 6 by omega]; exact lv_sub hl [1, 2, 3, 4, 0] rfl)
      refine lv_aload_n hx hb dL_law_33 rfl (lv_at hl 0 rfl) ?_
      refine lv_iload hx hb dL_law_34 (lv_at hl 4 rfl) ?_
      refine kn_sld hx hb hX hbl hbA hS (j := 6 * k) (by omega) (by omega) dL_law_36 ?_
      refine lv_bipush (v := nI 31) hx hb dL_law_37 (by decide) ?_
      refine lv_iand hx hb dL_law_39 ?_
      generalize xs (6 * k) &&& nI 31 = v
      have hd : W pp l ee room_1 s m #[Value.ref b] below meth cc0 H locs (40 + 20 * k) (700 + 2000 * k) (lw_Z below #[Value.ref b] s) (F0 m 1436 ls []) := by
        refine W.widen (k := 40 + 20 * k + 20) (n := 700 + 2000 * k + 2000) (by omega) (by omega) ?_
        exact hj S y g rf rl rw H locs hI hY rfl hV hS ls hl
      by_cases hlo : v.toInt < 0
      · exact lv_tableOut (tgt := 1436) hx hb dL_law_40 (Or.inl hlo) (by decide) hd
      by_cases hhi : 18 < v.toInt
      · exact lv_tableOut (tgt := 1436) hx hb dL_law_40 (Or.inr hhi) (by decide) hd
      have hc : v.toInt = 0 ∨ v.toInt = 1 ∨ v.toInt = 2 ∨ v.toInt = 3 ∨ v.toInt = 4 ∨ v.toInt = 5 ∨ v.toInt = 6 ∨ v.toInt = 7 ∨ v.toInt = 8 ∨ v.toInt = 9 ∨ v.toInt = 10 ∨ v.toInt = 11 ∨ v.toInt = 12 ∨ v.toInt = 13 ∨ v.toInt = 14 ∨ v.toInt = 15 ∨ v.toInt = 16 ∨ v.toInt = 17 ∨ v.toInt = 18 := by omega
      rcases hc with hc | hc | hc | hc | hc | hc | hc | hc | hc | hc | hc | hc | hc | hc | hc | hc | hc | hc | hc
      · refine lv_tableIn (off := 92) (tgt := 132) hx hb dL_law_40 hlo hhi (by rw [hc]; rfl) (by decide) ?_
        exact lw_c_begin hlt hL hx hb hml hown hts hX hbl hbA hE (6 * k) hi S y ol g h ad rf rl rw hI hY (40 + 20 * k) (700 + 2000 * k) (by omega) (by omega) H locs hV hS ls hl hj
      · refine lv_tableIn (off := 172) (tgt := 212) hx hb dL_law_40 hlo hhi (by rw [hc]; rfl) (by decide) ?_
        exact lw_c_line hlt hL hx hb hml hown hts hX hbl hbA hE (6 * k) hi S y ol g h ad rf rl rw hI hY (40 + 20 * k) (700 + 2000 * k) (by omega) (by omega) H locs hV hS ls hl hj
      · refine lv_tableIn (off := 276) (tgt := 316) hx hb dL_law_40 hlo hhi (by rw [hc]; rfl) (by decide) ?_
        exact lw_c_anew hlt hL hx hb hml hown hts hX hbl hbA hE (6 * k) hi S y ol g h ad rf rl rw hI hY (40 + 20 * k) (700 + 2000 * k) (by omega) (by omega) H locs hV hS ls hl hj
      · refine lv_tableIn (off := 344) (tgt := 384) hx hb dL_law_40 hlo hhi (by rw [hc]; rfl) (by decide) ?_
        exact lw_c_publish hlt hL hx hb hml hown hts hX hbl hbA hE (6 * k) hi S y ol g h ad rf rl rw hI hY (40 + 20 * k) (700 + 2000 * k) (by omega) (by omega) H locs hV hS ls hl hj
      · refine lv_tableIn (off := 400) (tgt := 440) hx hb dL_law_40 hlo hhi (by rw [hc]; rfl) (by decide) ?_
        exact lw_c_original hlt hL hx hb hml hown hts hX hbl hbA hE (6 * k) hi S y ol g h ad rf rl rw hI hY (40 + 20 * k) (700 + 2000 * k) (by omega) (by omega) H locs hV hS ls hl hj
      · refine lv_tableIn (off := 456) (tgt := 496) hx hb dL_law_40 hlo hhi (by rw [hc]; rfl) (by decide) ?_
        exact lw_c_rows hlt hL hx hb hml hown hts hX hbl hbA hE (6 * k) hi S y ol g h ad rf rl rw hI hY (40 + 20 * k) (700 + 2000 * k) (by omega) (by omega) H locs hV hS ls hl hj
      · refine lv_tableIn (off := 512) (tgt := 552) hx hb dL_law_40 hlo hhi (by rw [hc]; rfl) (by decide) ?_
        exact lw_c_stitch hlt hL hx hb hml hown hts hX hbl hbA hE (6 * k) hi S y ol g h ad rf rl rw hI hY (40 + 20 * k) (700 + 2000 * k) (by omega) (by omega) H locs hV hS ls hl hj
      · refine lv_tableIn (off := 592) (tgt := 632) hx hb dL_law_40 hlo hhi (by rw [hc]; rfl) (by decide) ?_
        exact lw_c_stitchByWork hlt hL hx hb hml hown hts hX hbl hbA hE (6 * k) hi S y ol g h ad rf rl rw hI hY (40 + 20 * k) (700 + 2000 * k) (by omega) (by omega) H locs hV hS ls hl hj
      · refine lv_tableIn (off := 672) (tgt := 712) hx hb dL_law_40 hlo hhi (by rw [hc]; rfl) (by decide) ?_
        exact lw_c_need hlt hL hx hb hml hown hts hX hbl hbA hE (6 * k) hi S y ol g h ad rf rl rw hI hY (40 + 20 * k) (700 + 2000 * k) (by omega) (by omega) H locs hV hS ls hl hj
      · refine lv_tableIn (off := 740) (tgt := 780) hx hb dL_law_40 hlo hhi (by rw [hc]; rfl) (by decide) ?_
        exact lw_c_buy hlt hL hx hb hml hown hts hX hbl hbA hE (6 * k) hi S y ol g h ad rf rl rw hI hY (40 + 20 * k) (700 + 2000 * k) (by omega) (by omega) H locs hV hS ls hl hj
      · refine lv_tableIn (off := 808) (tgt := 848) hx hb dL_law_40 hlo hhi (by rw [hc]; rfl) (by decide) ?_
        exact lw_c_rule hlt hL hx hb hml hown hts hX hbl hbA hE (6 * k) hi S y ol g h ad rf rl rw hI hY (40 + 20 * k) (700 + 2000 * k) (by omega) (by omega) H locs hV hS ls hl hj
      · refine lv_tableIn (off := 864) (tgt := 904) hx hb dL_law_40 hlo hhi (by rw [hc]; rfl) (by decide) ?_
        exact lw_c_money hlt hL hx hb hml hown hts hX hbl hbA hE (6 * k) hi S y ol g h ad rf rl rw hI hY (40 + 20 * k) (700 + 2000 * k) (by omega) (by omega) H locs hV hS ls hl hj
      · refine lv_tableIn (off := 920) (tgt := 960) hx hb dL_law_40 hlo hhi (by rw [hc]; rfl) (by decide) ?_
        exact lw_c_lot hlt hL hx hb hml hown hts hX hbl hbA hE (6 * k) hi S y ol g h ad rf rl rw hI hY (40 + 20 * k) (700 + 2000 * k) (by omega) (by omega) H locs hV hS ls hl hj
      · refine lv_tableIn (off := 1000) (tgt := 1040) hx hb dL_law_40 hlo hhi (by rw [hc]; rfl) (by decide) ?_
        exact lw_c_swap hlt hL hx hb hml hown hts hX hbl hbA hE (6 * k) hi S y ol g h ad rf rl rw hI hY (40 + 20 * k) (700 + 2000 * k) (by omega) (by omega) H locs hV hS ls hl hj
      · refine lv_tableIn (off := 1068) (tgt := 1108) hx hb dL_law_40 hlo hhi (by rw [hc]; rfl) (by decide) ?_
        exact lw_c_left hlt hL hx hb hml hown hts hX hbl hbA hE (6 * k) hi S y ol g h ad rf rl rw hI hY (40 + 20 * k) (700 + 2000 * k) (by omega) (by omega) H locs hV hS ls hl hj
      · refine lv_tableIn (off := 1124) (tgt := 1164) hx hb dL_law_40 hlo hhi (by rw [hc]; rfl) (by decide) ?_
        exact lw_c_project hlt hL hx hb hml hown hts hX hbl hbA hE (6 * k) hi S y ol g h ad rf rl rw hI hY (40 + 20 * k) (700 + 2000 * k) (by omega) (by omega) H locs hV hS ls hl hj
      · refine lv_tableIn (off := 1204) (tgt := 1244) hx hb dL_law_40 hlo hhi (by rw [hc]; rfl) (by decide) ?_
        exact lw_c_take hlt hL hx hb hml hown hts hX hbl hbA hE (6 * k) hi S y ol g h ad rf rl rw hI hY (40 + 20 * k) (700 + 2000 * k) (by omega) (by omega) H locs hV hS ls hl hj
      · refine lv_tableIn (off := 1272) (tgt := 1312) hx hb dL_law_40 hlo hhi (by rw [hc]; rfl) (by decide) ?_
        exact lw_c_knit hlt hL hx hb hml hown hts hX hbl hbA hE (6 * k) hi S y ol g h ad rf rl rw hI hY (40 + 20 * k) (700 + 2000 * k) (by omega) (by omega) H locs hV hS ls hl hj
      · refine lv_tableIn (off := 1340) (tgt := 1380) hx hb dL_law_40 hlo hhi (by rw [hc]; rfl) (by decide) ?_
        exact lw_c_progress hlt hL hx hb hml hown hts hX hbl hbA hE (6 * k) hi S y ol g h ad rf rl rw hI hY (40 + 20 * k) (700 + 2000 * k) (by omega) (by omega) H locs hV hS ls hl hj
set_option maxHeartbeats 4000000 in
set_option maxRecDepth 100000 in
/-- from the entry, for every script of at most 3072 ints, the law comes to its end with true -/
theorem whole_start {p : Program} {e : Env} {s : State} {m : MethodId} {below : List Frame} {meth : Method} {c : Code} (l : Launch) (hflags : l.flags = flags0) {b L : Nat} {xs : Nat → Int32} (hL : L ≤ 3072) (C0 : lw_At p s m meth c b L xs) : W p l e room_1 s m #[Value.ref b] below meth c s.heap [] 0 0 (lw_Z below #[Value.ref b] s) (entryFrame m ([Value.ref b] : List Value).toArray 7) := by
  obtain ⟨hx, hb, hrt, hml, hown0, hts, hX, hbl, hlocks, hgv⟩ := id C0
  obtain ⟨G, hB, hE⟩ := kE_start hts hgv
  have hlt : l.stackTraces = false := by
    show (!l.flags.contains noTraceFlag) = false
    rw [hflags]
    decide +kernel
  have htw : ∀ w ∈ wsL_law, w.before #[Value.ref b] s = true := fun w h => hts w (wsL_law_in w h)
  have hown : s.vm.findClass RL = some m.cls := hown0
  have hb : c.code = cL_law := hb
  have hK := hE.1
  have hbA : ¬ kA G b := by
    show ¬ kB G ≤ b
    rw [hB]
    exact Nat.not_le.mpr hbl
  have hB0 := hE.2.1
  have hF : CallFix p m c cL_law 7 s #[Value.ref b] wsL_law RL := ⟨hx, hb, hml, hown, htw⟩
  have hS : va_S (kA G) s.heap s.heap [] := va_S.rf
  have hV : kV G ([] ++ []) s.heap := ⟨fun k q h => by simp at h, fun i j p q h => by simp at h, fun k q h => by simp at h⟩
  have hl := lv_entry ([.ref b]) (n := 7) (Nat.le_of_ble_eq_true rfl)
  rw [lg_entry_eq]
  generalize (lg_sl ([.ref b]) ++ List.replicate (7 - (lg_sl ([.ref b])).length) Slot.unset).toArray = ls at hl ⊢
  have hl : lv_has ls 7 [(0, .ref b)] := hl
  refine kn_new (G := G) (a := []) (wr := []) (ci := 6) (C := RX5) (T := TX5) (N := 5) (fs := [.null, .null, .null, .null, .null]) hx hb hts inX5 tyX5 tyX5_ok hown (hts (Cond.classLink RL 8 RX5) (by decide +kernel)) (hts (Cond.instantiable RX5 5) (by decide +kernel)) (hts (Cond.initialized RX5) (by decide +kernel)) hK hV hS hB0 rfl (fun j hj => by rcases (show j = 0 ∨ j = 1 ∨ j = 2 ∨ j = 3 ∨ j = 4 by omega) with rfl | rfl | rfl | rfl | rfl <;> rfl) (Nat.le_of_ble_eq_true rfl) (Nat.le_of_ble_eq_true rfl) dL_law_0 (fun q1 H hV hS => ?_)
  have hV : kV G ([(q1, .inr (6, [.null, .null, .null, .null, .null]))] ++ []) _ := hV
  refine lv_dup hx hb dL_law_3 rfl ?_
  refine kc_v (va_runI (As := []) (rest := [.ref q1]) hF (c_X5_init l G q1 []) (cwI 0 htw gL_law_X5_init rfl rfl rfl (hts (Cond.initialized RX5) (by decide +kernel)) (hts (Cond.methodLink RL 76 yX5_init) (by decide +kernel)) (hts (Cond.instanceMethod yX5_init) (by decide +kernel)) rfl (by decide +kernel) ⟨Nat.le_of_ble_eq_true rfl, Nat.le_of_ble_eq_true rfl⟩) (kPreI hE hS hV) rfl rfl hl.1 rfl (lv_room (Nat.le_of_ble_eq_true rfl)) dL_law_4 ⟨Nat.le_of_ble_eq_true rfl, Nat.le_of_ble_eq_true rfl⟩) hS (fun y H locs hp hVa hS => ?_)
  obtain ⟨hY, hq1⟩ := hp
  subst hq1
  refine lv_astore_n (lv' := [(1, .ref (yH y 0)), (0, .ref b)]) hx hb dL_law_7 rfl hl (by decide) rfl (fun ls hl => ?_)
  have hV : kV G ([] ++ (siteW G S0 y ++ [])) _ := hVa
  refine kn_new (G := G) (a := []) (wr := siteW G S0 y ++ []) (ci := 7) (C := RX6) (T := TX6) (N := 26) (fs := [.int (nI (0)), .int (nI (0)), .null, .null, .null, .null, .null, .null, .null, .null, .null, .int (nI (0)), .null, .null, .null, .int (nI (0)), .null, .null, .null, .int (nI (0)), .null, .null, .null, .null, .int (nI (0)), .int (nI (0))]) hx hb hts inX6 tyX6 tyX6_ok hown (hts (Cond.classLink RL 77 RX6) (by decide +kernel)) (hts (Cond.instantiable RX6 26) (by decide +kernel)) (hts (Cond.initialized RX6) (by decide +kernel)) hK hV hS hB0 rfl (fun j hj => by rcases (show j = 0 ∨ j = 1 ∨ j = 2 ∨ j = 3 ∨ j = 4 ∨ j = 5 ∨ j = 6 ∨ j = 7 ∨ j = 8 ∨ j = 9 ∨ j = 10 ∨ j = 11 ∨ j = 12 ∨ j = 13 ∨ j = 14 ∨ j = 15 ∨ j = 16 ∨ j = 17 ∨ j = 18 ∨ j = 19 ∨ j = 20 ∨ j = 21 ∨ j = 22 ∨ j = 23 ∨ j = 24 ∨ j = 25 by omega) with rfl | rfl | rfl | rfl | rfl | rfl | rfl | rfl | rfl | rfl | rfl | rfl | rfl | rfl | rfl | rfl | rfl | rfl | rfl | rfl | rfl | rfl | rfl | rfl | rfl | rfl <;> rfl) (Nat.le_of_ble_eq_true rfl) (Nat.le_of_ble_eq_true rfl) dL_law_8 (fun q2 H hV hS => ?_)
  have hV : kV G ([(q2, .inr (7, [.int (nI (0)), .int (nI (0)), .null, .null, .null, .null, .null, .null, .null, .null, .null, .int (nI (0)), .null, .null, .null, .int (nI (0)), .null, .null, .null, .int (nI (0)), .null, .null, .null, .null, .int (nI (0)), .int (nI (0))]))] ++ (siteW G S0 y ++ [])) _ := hV
  refine lv_dup hx hb dL_law_11 rfl ?_
  refine kc_v (va_runI (As := []) (rest := [.ref q2]) hF (c_X6_init l G q2 (siteW G S0 y ++ [])) (cwI 0 htw gL_law_X6_init rfl rfl rfl (hts (Cond.initialized RX6) (by decide +kernel)) (hts (Cond.methodLink RL 79 yX6_init) (by decide +kernel)) (hts (Cond.instanceMethod yX6_init) (by decide +kernel)) rfl (by decide +kernel) ⟨Nat.le_of_ble_eq_true rfl, Nat.le_of_ble_eq_true rfl⟩) (kPreI hE hS hV) rfl rfl hl.1 rfl (lv_room (Nat.le_of_ble_eq_true rfl)) dL_law_12 ⟨Nat.le_of_ble_eq_true rfl, Nat.le_of_ble_eq_true rfl⟩) hS (fun ad H locs hp hV hS => ?_)
  refine lv_astore_n (lv' := [(2, .ref q2), (1, .ref (yH y 0)), (0, .ref b)]) hx hb dL_law_15 rfl hl (by decide) rfl (fun ls hl => ?_)
  refine lv_iconst (v := nI 1) hx hb dL_law_16 (by decide) ?_
  have hV : kV G ([] ++ (kM G q2 ad 0 0 0 S0 ++ (siteW G S0 y ++ []))) _ := hV
  refine kn_newL (G := G) (a := []) (wr := kM G q2 ad 0 0 0 S0 ++ (siteW G S0 y ++ [])) (n := 1) hx hb (hts (Cond.arrayClass .long) (by decide +kernel)) hK hV hS hB0 (by decide) (Nat.le_of_ble_eq_true rfl) (Nat.le_of_ble_eq_true rfl) dL_law_17 (fun q3 H hV hS => ?_)
  have hV : kV G ([(q3, .inl (kcL G, 1, .inr (.inl (fun _ => 0))))] ++ (kM G q2 ad 0 0 0 S0 ++ (siteW G S0 y ++ []))) _ := hV
  refine lv_astore_n (lv' := [(3, .ref q3), (2, .ref q2), (1, .ref (yH y 0)), (0, .ref b)]) hx hb dL_law_19 rfl hl (by decide) rfl (fun ls hl => ?_)
  refine lv_iconst (v := nI 0) hx hb dL_law_20 (by decide) ?_
  refine lv_istore (lv' := [(4, .int (nI 0)), (3, .ref q3), (2, .ref q2), (1, .ref (yH y 0)), (0, .ref b)]) hx hb dL_law_21 hl (by decide) rfl (fun ls hl => ?_)
  have hV2 : kV G (lwV G S0 y q3 (fun _ => 0) q2 ad 0 0 0) _ := kV_wc hV (fun e => by simp only [wc_app, wc_nil]; omega)
  refine W.widen (k := 40 + 20 * 0) (n := 700 + 2000 * 0) (by decide) (by decide) ?_
  exact lw_loop hlt hL hx hb hrt hlocks hml hown htw hX hbl hbA hE hB (yH y 0) q3 q2 ad (L + 1) 0 (by omega) (by omega) S0 y (fun _ => 0) 0 0 0 H _ kI_S0 hY rfl hV2 hS ls (lv_sub hl [4, 3, 2, 1, 0] rfl)
