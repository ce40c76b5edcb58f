/-! THE CLAIM OUT OF ONE WALK OF THE LAW'S BODY. Your part is whole_start (and what it stands on); all else here is the same for every law, but numbers. -/
def R_law : String := "YarncourtLaw"
def lw_P (b : Addr) (xs : List Int32) (args : Array Value) (s : State) : Prop := args = #[.ref b] ∧ s.IntsAt b xs ∧ xs.length ≤ 260 ∧ (Jvm.Cond.and given_1 narrow_1).before args s = true
def lw_Q (_ : Array Value) (s : State) (o : Outcome) (t : State) : Prop := o = .returned (some (.int 1)) ∧ Framed s o t [] 600086 7301442
def lw_Z (below : List Frame) (a : Array Value) (s : State) : State → Prop := fun t => ∃ o, t.status = .running ∧ Ended t below o ∧ lw_Q a s o t
/-- the law's own end, with 1 on the stack, nothing written that was there before, its room as the claim has it -/
theorem lw_ret {p : Program} {l : Launch} {e : Env} {s : State} {m : MethodId} {below : List Frame} {meth : Method} {c : Code} {b : Nat} (hx : p.tables.exec = Jvm.exec) (hb : c.code = code) (hr : meth.sig.returnType = ret) (hlocks : meth.locks = false) {pc : Nat} {H : Heap} {ls : Array Slot} (hdg : decode code pc = .ok (.ireturn, 1)) : W p l e room_1 s m #[Value.ref b] below meth c H [] 600086 7301442 (lw_Z below #[Value.ref b] s) (F0 m pc ls [.int 1]) := by
  intro T hT X
  obtain ⟨fs, hret, hrun, hended, hW, hframe⟩ := X.leave (v := some (.int 1)) (hlocks := hlocks) (fun h => by rw [hr] at h; cases h)
  have hmeth' : T.vm.method? m = some meth := X.method'
  refine ⟨T.setFrames fs, ?_, .returned (some (.int 1)), hrun, hended, rfl, ⟨_, rfl⟩, hW, hframe⟩
  jvm_step X.here [X.here.top, hx, hb, hdg, hmeth', hr, ret, narrow_b1]
  (try refine ⟨rfl, ?_⟩); (try refine ⟨rfl, ?_⟩)
  first | (intro acts; rw [hret _ acts rfl rfl rfl]) | rw [hret _ _ rfl rfl rfl]
  exact Steps.refl _
/-- what holds at the law's entry: the machine, the code, the tables' words (any of lw_tbl by 'hts w (by decide +kernel)'), the script of L ints xs at the cell b, what the Statement gives of the start (any of its parts by flat_of_before) -/
def lw_At (p : Program) (s : State) (m : MethodId) (meth : Method) (c : Code) (b L : Nat) (xs : Nat → Int32) : Prop :=
  p.tables.exec = Jvm.exec ∧ c.code = code ∧ meth.sig.returnType = ret ∧ c.maxLocals = 15 ∧ s.vm.findClass R_law = some m.cls ∧ (∀ w ∈ lw_tbl, w.before #[Value.ref b] s = true) ∧ va_X b L xs s s.heap ∧ b < s.heap.size ∧ meth.locks = false ∧ (Jvm.Cond.and given_1 narrow_1).before #[Value.ref b] s = true
set_option maxHeartbeats 4000000 in
set_option maxRecDepth 100000 in
/-- the law's body, its two sites and its two rows made -/
theorem lw_body {pp : Program} {l : Launch} {ee : Env} {s : State} {m : MethodId} {below : List Frame} {meth : Method} {cc0 : Code} {b L : Nat} {xs : Nat → Int32} {G : kG} (hlt : l.stackTraces = false) (hL : L ≤ 260) (hx : pp.tables.exec = Jvm.exec) (hb : cc0.code = cL_law) (hrt : meth.sig.returnType = ret) (hlocks : meth.locks = false) (hml : cc0.maxLocals = 15) (hown : s.vm.findClass RL = some m.cls) (hts : ∀ w ∈ wsL_law, w.before #[Value.ref b] s = true) (hX : va_X b L xs s s.heap) (hbl : b < s.heap.size) (hbA : ¬ kA G b) (hE : kE G s s.heap) (hB : kB G = s.heap.size)
    (yxa yxb na ha : Nat) (S : kS) (ya yb : kY) (f h : Nat → Nat) (hI : kInv S) (hm : mny S.2.2 = 0) (hn : nOk S f) (hw : own S h) (hY0 : yI G S ya) (hY1 : yI G S yb) (hh0 : yH ya 0 = yxa) (hh1 : yH yb 0 = yxb) (H : Heap) (locs : List Loc) (hV : kV G (siteW G S ya ++ (siteW G S yb ++ ([(na, aN (kcI G) 3 f)] ++ ([(ha, aN (kcI G) 20 h)] ++ ([]))))) H) (hS : va_S (kA G) s.heap H locs) (ls : Array Slot) (hl : lv_has ls 15 [(0, .ref b), (1, .ref yxa), (2, .ref yxb), (3, .ref na), (4, .ref ha)]) :
    W pp l ee room_1 s m #[Value.ref b] below meth cc0 H locs (40) (400) (lw_Z below #[Value.ref b] s) (F0 m 26 ls []) := by
  have hK := hE.1
  have hF : CallFix pp m cc0 cL_law 15 s #[Value.ref b] wsL_law RL := ⟨hx, hb, hml, hown, hts⟩
  refine lv_bipush (v := nI 24) hx hb dL_law_26 (by decide) ?_
  refine lv_aload_n hx hb dL_law_28 rfl (lv_at hl 0 rfl) ?_
  refine lv_iconst (v := nI 0) hx hb dL_law_29 (by decide) ?_
  refine kc_i (va_runS (As := [.ref (b), .int (nI (0))]) (rest := [.int (nI (24))]) hF (c_L_drawn l G b L xs (0) (siteW G S ya ++ (siteW G S yb ++ ([(na, aN (kcI G) 3 f)] ++ ([(ha, aN (kcI G) 20 h)] ++ ([]))))) hL (by omega)) (va_cwS 2 hts gL_law_L_drawn rfl rfl rfl (by decide +kernel) ⟨Nat.le_of_ble_eq_true rfl, Nat.le_of_ble_eq_true rfl⟩) (kPreX hE hS hV hX hbl hbA) rfl rfl hl.1 rfl (lv_room (Nat.le_of_ble_eq_true rfl)) dL_law_30 ⟨(show 40 + 0 ≤ 600086 by omega), (show 400 + 0 ≤ 7301442 by omega)⟩) hS (fun r_3 u_2 H locs hp_1 hV hS => ?_)
  obtain ⟨hp_10, hXd⟩ := hp_1
  subst hp_10
  have hV : kV G (siteW G S ya ++ (siteW G S yb ++ ([(na, aN (kcI G) 3 f)] ++ ([(ha, aN (kcI G) 20 h)] ++ ([]))))) _ := hV
  refine lv_bipush (v := nI 27) hx hb dL_law_33 (by decide) ?_
  refine kn_rem hx hb (by omega) (by omega) (by omega) dL_law_35 ?_
  refine kn_add hx hb dL_law_36 ?_
  obtain ⟨th, hth⟩ : ∃ q, 24 + (u_2 % 27) = q := ⟨_, rfl⟩
  rw [hth]
  have hth50 : th ≤ 50 := by omega
  refine lv_istore (lv' := [(5, .int (nI (th))), (0, .ref (b)), (1, .ref (yxa)), (2, .ref (yxb)), (3, .ref (na)), (4, .ref (ha))]) hx hb dL_law_37 hl (by decide) rfl (fun ls hl => ?_)
  refine lv_iconst (v := nI 1) hx hb dL_law_39 (by decide) ?_
  refine lv_istore (lv' := [(6, .int (nI (1))), (5, .int (nI (th))), (0, .ref (b)), (1, .ref (yxa)), (2, .ref (yxb)), (3, .ref (na)), (4, .ref (ha))]) hx hb dL_law_40 hl (by decide) rfl (fun ls hl => ?_)
  refine lv_iconst (v := nI 0) hx hb dL_law_42 (by decide) ?_
  refine lv_istore (lv' := [(7, .int (nI (0))), (6, .int (nI (1))), (5, .int (nI (th))), (0, .ref (b)), (1, .ref (yxa)), (2, .ref (yxb)), (3, .ref (na)), (4, .ref (ha))]) hx hb dL_law_43 hl (by decide) rfl (fun ls hl => ?_)
  have k45 : ∀ (nk45 : Nat) (k : Nat) (S : kS) (ya : kY) (yb : kY) (f : Nat → Nat) (h : Nat → Nat) (hk : k ≤ 50) (hI : kInv S) (hm : mny S.2.2 = 0) (hn : nOk S f) (hw : own S h) (hY0 : yI G S ya) (hY1 : yI G S yb) (hh0 : yH ya 0 = yxa) (hh1 : yH yb 0 = yxb) (hmk45 : 50 - k < nk45) (H : Heap) (locs : List Loc), kV G (siteW G S ya ++ (siteW G S yb ++ ([(na, aN (kcI G) 3 f)] ++ ([(ha, aN (kcI G) 20 h)] ++ ([]))))) H → va_S (kA G) s.heap H locs → ∀ (ls : Array Slot), lv_has ls 15 [(7, .int (nI (k))), (6, .int (nI (1))), (5, .int (nI (th))), (0, .ref (b)), (1, .ref (yxa)), (2, .ref (yxb)), (3, .ref (na)), (4, .ref (ha))] → W pp l ee room_1 s m #[Value.ref b] below meth cc0 H locs (40 + 6800 * k) (400 + 90600 * k) (lw_Z below #[Value.ref b] s) (F0 m 45 ls []) := by
    intro nk45
    induction nk45 with
    | zero => intro k S ya yb f h hk hI hm hn hw hY0 hY1 hh0 hh1 hmk45; exact absurd hmk45 (Nat.not_lt_zero _)
    | succ nk45 ihk45 =>
      intro k S ya yb f h hk hI hm hn hw hY0 hY1 hh0 hh1 hmk45 H locs hV hS ls hl
      refine lv_iload hx hb dL_law_45 (lv_at hl 0 rfl) ?_
      refine lv_iload hx hb dL_law_47 (lv_at hl 2 rfl) ?_
      refine kn_ge (tgt := 478) hx hb (by omega) (by omega) dL_law_49 (by decide) (fun c49 => ?_) (fun c49 => ?_)
      · refine lv_iload hx hb dL_law_478 (lv_at hl 1 rfl) ?_
        refine kn_if_eq_not hx hb (by decide) dL_law_480 ?_ 535 (by decide)
        refine lv_aload_n hx hb dL_law_483 rfl (lv_at hl 4 rfl) ?_
        refine lv_aload_n hx hb dL_law_484 rfl (lv_at hl 6 rfl) ?_
        refine lv_aload_n hx hb dL_law_485 rfl (lv_at hl 3 rfl) ?_
        refine lv_iconst (v := nI 0) hx hb dL_law_486 (by decide) ?_
        refine kc_i (va_runS (As := [.ref (b), .int (nI (0))]) (rest := [.ref (na), .ref (yxa)]) hF (c_L_drawn l G b L xs (0) (siteW G S ya ++ (siteW G S yb ++ ([(na, aN (kcI G) 3 f)] ++ ([(ha, aN (kcI G) 20 h)] ++ ([]))))) hL (by omega)) (va_cwS 2 hts gL_law_L_drawn rfl rfl rfl (by decide +kernel) ⟨Nat.le_of_ble_eq_true rfl, Nat.le_of_ble_eq_true rfl⟩) (kPreX hE hS hV hX hbl hbA) rfl rfl hl.1 rfl (lv_room (Nat.le_of_ble_eq_true rfl)) dL_law_487 ⟨(show 40 + 6800 * k + 0 ≤ 600086 by omega), (show 400 + 90600 * k + 0 ≤ 7301442 by omega)⟩) hS (fun r_6 u_5 H locs hp_4 hV hS => ?_)
        obtain ⟨hp_40, hXe⟩ := hp_4
        subst hp_40
        have hV : kV G (siteW G S ya ++ (siteW G S yb ++ ([(na, aN (kcI G) 3 f)] ++ ([(ha, aN (kcI G) 20 h)] ++ ([]))))) _ := hV
        refine lv_bipush (v := nI 27) hx hb dL_law_490 (by decide) ?_
        refine kn_div hx hb (by omega) (by omega) (by omega) dL_law_492 ?_
        have hV : kV G (siteW G S ya ++ ([(na, aN (kcI G) 3 f)] ++ ([(ha, aN (kcI G) 20 h)] ++ (siteW G S yb ++ [])))) _ := kV_wc hV (fun e => by simp only [wc_app]; omega)
        refine kc_i (va_runS (As := [.ref (yxa), .ref (na), .int (nI (u_5 / 27))]) (rest := []) hF (c_L_holds l G S ya yxa f na ([(ha, aN (kcI G) 20 h)] ++ (siteW G S yb ++ [])) (u_5 / 27) hn (by omega) hm hlt hh0 hI hY0) (va_cwS 3 hts gL_law_L_holds rfl rfl rfl (by decide +kernel) ⟨Nat.le_of_ble_eq_true rfl, Nat.le_of_ble_eq_true rfl⟩) (kPreS hE hS hV) rfl rfl hl.1 rfl (lv_room (Nat.le_of_ble_eq_true rfl)) dL_law_493 ⟨(show 40 + 6800 * k + 0 + 4930 ≤ 600086 by omega), (show 400 + 90600 * k + 0 + 29100 ≤ 7301442 by omega)⟩) hS (fun r_9 u_8 H locs hp_7 hV hS => ?_)
        obtain ⟨hp_70, hY0, hh0⟩ := hp_7
        have hp_70 : nI 1 = r_9 := hp_70.symm
        subst hp_70
        have hV : kV G (siteW G S u_8 ++ ([(na, aN (kcI G) 3 f)] ++ ([(ha, aN (kcI G) 20 h)] ++ (siteW G S yb ++ [])))) _ := hV
        have hV : kV G (siteW G S u_8 ++ (siteW G S yb ++ ([(na, aN (kcI G) 3 f)] ++ ([(ha, aN (kcI G) 20 h)] ++ ([]))))) _ := kV_wc hV (fun e => by simp only [wc_app]; omega)
        refine kn_if_eq_not hx hb (by decide) dL_law_496 ?_ 535 (by decide)
        refine lv_aload_n hx hb dL_law_499 rfl (lv_at hl 4 rfl) ?_
        refine lv_aload_n hx hb dL_law_500 rfl (lv_at hl 6 rfl) ?_
        refine lv_aload_n hx hb dL_law_501 rfl (lv_at hl 3 rfl) ?_
        refine lv_iconst (v := nI 0) hx hb dL_law_502 (by decide) ?_
        refine kc_i (va_runS (As := [.ref (b), .int (nI (0))]) (rest := [.ref (na), .ref (yxa)]) hF (c_L_drawn l G b L xs (0) (siteW G S u_8 ++ (siteW G S yb ++ ([(na, aN (kcI G) 3 f)] ++ ([(ha, aN (kcI G) 20 h)] ++ ([]))))) hL (by omega)) (va_cwS 2 hts gL_law_L_drawn rfl rfl rfl (by decide +kernel) ⟨Nat.le_of_ble_eq_true rfl, Nat.le_of_ble_eq_true rfl⟩) (kPreX hE hS hV hX hbl hbA) rfl rfl hl.1 rfl (lv_room (Nat.le_of_ble_eq_true rfl)) dL_law_503 ⟨(show 40 + 6800 * k + 0 + 4930 + 0 ≤ 600086 by omega), (show 400 + 90600 * k + 0 + 29100 + 0 ≤ 7301442 by omega)⟩) hS (fun r_12 u_11 H locs hp_10 hV hS => ?_)
        obtain ⟨hp_100, hXf⟩ := hp_10
        subst hp_100
        have hV : kV G (siteW G S u_8 ++ (siteW G S yb ++ ([(na, aN (kcI G) 3 f)] ++ ([(ha, aN (kcI G) 20 h)] ++ ([]))))) _ := hV
        refine lv_bipush (v := nI 29) hx hb dL_law_506 (by decide) ?_
        refine kn_div hx hb (by omega) (by omega) (by omega) dL_law_508 ?_
        have hV : kV G (siteW G S u_8 ++ ([(na, aN (kcI G) 3 f)] ++ ([(ha, aN (kcI G) 20 h)] ++ (siteW G S yb ++ [])))) _ := kV_wc hV (fun e => by simp only [wc_app]; omega)
        refine kc_i (va_runS (As := [.ref (yxa), .ref (na), .int (nI (u_11 / 29))]) (rest := []) hF (c_L_ends l G S u_8 yxa f na ([(ha, aN (kcI G) 20 h)] ++ (siteW G S yb ++ [])) (u_11 / 29) hn (by omega) hlt hh0 hI hY0) (va_cwS 3 hts gL_law_L_ends rfl rfl rfl (by decide +kernel) ⟨Nat.le_of_ble_eq_true rfl, Nat.le_of_ble_eq_true rfl⟩) (kPreS hE hS hV) rfl rfl hl.1 rfl (lv_room (Nat.le_of_ble_eq_true rfl)) dL_law_509 ⟨(show 40 + 6800 * k + 0 + 4930 + 0 + 360 ≤ 600086 by omega), (show 400 + 90600 * k + 0 + 29100 + 0 + 6000 ≤ 7301442 by omega)⟩) hS (fun r_15 u_14 H locs hp_13 hV hS => ?_)
        have hp_130 : nI 1 = r_15 := hp_13.symm
        subst hp_130
        have hV : kV G (siteW G u_14.1 u_14.2 ++ ([(na, aN (kcI G) 3 f)] ++ ([(ha, aN (kcI G) 20 h)] ++ (siteW G S yb ++ [])))) _ := hV
        have hV : kV G (siteW G u_14.1 u_14.2 ++ (siteW G S yb ++ ([(na, aN (kcI G) 3 f)] ++ ([(ha, aN (kcI G) 20 h)] ++ ([]))))) _ := kV_wc hV (fun e => by simp only [wc_app]; omega)
        refine kn_if_eq_not hx hb (by decide) dL_law_512 ?_ 535 (by decide)
        refine lv_aload_n hx hb dL_law_515 rfl (lv_at hl 5 rfl) ?_
        refine lv_aload_n hx hb dL_law_516 rfl (lv_at hl 6 rfl) ?_
        refine lv_aload_n hx hb dL_law_517 rfl (lv_at hl 3 rfl) ?_
        refine lv_iconst (v := nI 0) hx hb dL_law_518 (by decide) ?_
        refine kc_i (va_runS (As := [.ref (b), .int (nI (0))]) (rest := [.ref (na), .ref (yxb)]) hF (c_L_drawn l G b L xs (0) (siteW G u_14.1 u_14.2 ++ (siteW G S yb ++ ([(na, aN (kcI G) 3 f)] ++ ([(ha, aN (kcI G) 20 h)] ++ ([]))))) hL (by omega)) (va_cwS 2 hts gL_law_L_drawn rfl rfl rfl (by decide +kernel) ⟨Nat.le_of_ble_eq_true rfl, Nat.le_of_ble_eq_true rfl⟩) (kPreX hE hS hV hX hbl hbA) rfl rfl hl.1 rfl (lv_room (Nat.le_of_ble_eq_true rfl)) dL_law_519 ⟨(show 40 + 6800 * k + 0 + 4930 + 0 + 360 + 0 ≤ 600086 by omega), (show 400 + 90600 * k + 0 + 29100 + 0 + 6000 + 0 ≤ 7301442 by omega)⟩) hS (fun r_18 u_17 H locs hp_16 hV hS => ?_)
        obtain ⟨hp_160, hXg⟩ := hp_16
        subst hp_160
        have hV : kV G (siteW G u_14.1 u_14.2 ++ (siteW G S yb ++ ([(na, aN (kcI G) 3 f)] ++ ([(ha, aN (kcI G) 20 h)] ++ ([]))))) _ := hV
        refine lv_bipush (v := nI 31) hx hb dL_law_522 (by decide) ?_
        refine kn_div hx hb (by omega) (by omega) (by omega) dL_law_524 ?_
        have hV : kV G (siteW G S yb ++ ([(na, aN (kcI G) 3 f)] ++ ([(ha, aN (kcI G) 20 h)] ++ (siteW G u_14.1 u_14.2 ++ [])))) _ := kV_wc hV (fun e => by simp only [wc_app]; omega)
        refine kc_i (va_runS (As := [.ref (yxb), .ref (na), .int (nI (u_17 / 31))]) (rest := []) hF (c_L_ends l G S yb yxb f na ([(ha, aN (kcI G) 20 h)] ++ (siteW G u_14.1 u_14.2 ++ [])) (u_17 / 31) hn (by omega) hlt hh1 hI hY1) (va_cwS 3 hts gL_law_L_ends rfl rfl rfl (by decide +kernel) ⟨Nat.le_of_ble_eq_true rfl, Nat.le_of_ble_eq_true rfl⟩) (kPreS hE hS hV) rfl rfl hl.1 rfl (lv_room (Nat.le_of_ble_eq_true rfl)) dL_law_525 ⟨(show 40 + 6800 * k + 0 + 4930 + 0 + 360 + 0 + 360 ≤ 600086 by omega), (show 400 + 90600 * k + 0 + 29100 + 0 + 6000 + 0 + 6000 ≤ 7301442 by omega)⟩) hS (fun r_21 u_20 H locs hp_19 hV hS => ?_)
        have hp_190 : nI 1 = r_21 := hp_19.symm
        subst hp_190
        have hV : kV G (siteW G u_20.1 u_20.2 ++ ([(na, aN (kcI G) 3 f)] ++ ([(ha, aN (kcI G) 20 h)] ++ (siteW G u_14.1 u_14.2 ++ [])))) _ := hV
        have hV : kV G (siteW G u_14.1 u_14.2 ++ (siteW G u_20.1 u_20.2 ++ ([(na, aN (kcI G) 3 f)] ++ ([(ha, aN (kcI G) 20 h)] ++ ([]))))) _ := kV_wc hV (fun e => by simp only [wc_app]; omega)
        refine kn_if_eq_not hx hb (by decide) dL_law_528 ?_ 535 (by decide)
        refine lv_iconst (v := nI 1) hx hb dL_law_531 (by decide) ?_
        refine lv_goto (tgt := 536) hx hb dL_law_532 (by decide) ?_
        refine W.eq (g2 := F0 m 536 ls [.int 1]) rfl ?_
        refine va_forget (fun q hq => ?_) ?_
        · have h9 : kB G ≤ q.base := hS.2.2 q hq
          rw [hB] at h9
          exact h9
        · refine W.widen (k := 600086) (n := 7301442) (by omega) (by omega) ?_
          exact lw_ret hx hb hrt hlocks dL_law_536
      · refine lv_iload hx hb dL_law_52 (lv_at hl 1 rfl) ?_
        refine kn_if_eq_not hx hb (by decide) dL_law_54 ?_ 478 (by decide)
        obtain ⟨hn0, hn1, hn2⟩ := id hn
        have hl20 := hI.1.2.1
        have hn16 := hI.1.1
        have hp12 := hI.1.2.2.1
        refine lv_aload_n hx hb dL_law_57 rfl (lv_at hl 3 rfl) ?_
        refine lv_iconst (v := nI 1) hx hb dL_law_58 (by decide) ?_
        refine lv_iload hx hb dL_law_59 (lv_at hl 0 rfl) ?_
        refine kn_add hx hb dL_law_61 ?_
        refine kc_i (va_runS (As := [.ref (b), .int (nI (1 + k))]) (rest := []) hF (c_L_drawn l G b L xs (1 + k) (siteW G S ya ++ (siteW G S yb ++ ([(na, aN (kcI G) 3 f)] ++ ([(ha, aN (kcI G) 20 h)] ++ ([]))))) hL (by omega)) (va_cwS 2 hts gL_law_L_drawn rfl rfl rfl (by decide +kernel) ⟨Nat.le_of_ble_eq_true rfl, Nat.le_of_ble_eq_true rfl⟩) (kPreX hE hS hV hX hbl hbA) rfl rfl hl.1 rfl (lv_room (Nat.le_of_ble_eq_true rfl)) dL_law_62 ⟨(show 40 + 6800 * k + 0 ≤ 600086 by omega), (show 400 + 90600 * k + 0 ≤ 7301442 by omega)⟩) hS (fun r_24 u_23 H locs hp_22 hV hS => ?_)
        obtain ⟨hp_220, hXk⟩ := hp_22
        subst hp_220
        have hV : kV G (siteW G S ya ++ (siteW G S yb ++ ([(na, aN (kcI G) 3 f)] ++ ([(ha, aN (kcI G) 20 h)] ++ ([]))))) _ := hV
        refine lv_istore (lv' := [(8, .int (nI (u_23))), (7, .int (nI (k))), (6, .int (nI (1))), (5, .int (nI (th))), (0, .ref (b)), (1, .ref (yxa)), (2, .ref (yxb)), (3, .ref (na)), (4, .ref (ha))]) hx hb dL_law_65 hl (by decide) rfl (fun ls hl => ?_)
        have k148 : ∀ (x9 : Nat) (hx9 : x9 < 2 ^ 31) (H : Heap) (locs : List Loc), kV G (siteW G S ya ++ (siteW G S yb ++ ([(na, aN (kcI G) 3 f)] ++ ([(ha, aN (kcI G) 20 h)] ++ ([]))))) H → va_S (kA G) s.heap H locs → ∀ (ls : Array Slot), lv_has ls 15 [(7, .int (nI (k))), (6, .int (nI (1))), (5, .int (nI (th))), (0, .ref (b)), (1, .ref (yxa)), (2, .ref (yxb)), (3, .ref (na)), (4, .ref (ha))] → W pp l ee room_1 s m #[Value.ref b] below meth cc0 H locs (40 + 6800 * k + 0) (400 + 90600 * k + 0) (lw_Z below #[Value.ref b] s) (F0 m 148 ls [.int (nI (x9))]) := by
          intro x9 hx9 H locs hV hS ls hl
          refine lv_istore (lv' := [(8, .int (nI (x9))), (7, .int (nI (k))), (6, .int (nI (1))), (5, .int (nI (th))), (0, .ref (b)), (1, .ref (yxa)), (2, .ref (yxb)), (3, .ref (na)), (4, .ref (ha))]) hx hb dL_law_148 hl (by decide) rfl (fun ls hl => ?_)
          refine lv_iload hx hb dL_law_150 (lv_at hl 0 rfl) ?_
          refine lv_bipush (v := nI 32) hx hb dL_law_152 (by decide) ?_
          refine kn_rem hx hb (by omega) (by omega) (by omega) dL_law_154 ?_
          refine lv_istore (lv' := [(9, .int (nI (x9 % 32))), (8, .int (nI (x9))), (7, .int (nI (k))), (6, .int (nI (1))), (5, .int (nI (th))), (0, .ref (b)), (1, .ref (yxa)), (2, .ref (yxb)), (3, .ref (na)), (4, .ref (ha))]) hx hb dL_law_155 hl (by decide) rfl (fun ls hl => ?_)
          refine lv_iload hx hb dL_law_157 (lv_at hl 1 rfl) ?_
          refine lv_bipush (v := nI 32) hx hb dL_law_159 (by decide) ?_
          refine kn_div hx hb (by omega) (by omega) (by omega) dL_law_161 ?_
          refine lv_istore (lv' := [(10, .int (nI (x9 / 32))), (9, .int (nI (x9 % 32))), (8, .int (nI (x9))), (7, .int (nI (k))), (6, .int (nI (1))), (5, .int (nI (th))), (0, .ref (b)), (1, .ref (yxa)), (2, .ref (yxb)), (3, .ref (na)), (4, .ref (ha))]) hx hb dL_law_162 hl (by decide) rfl (fun ls hl => ?_)
          refine lv_aload_n hx hb dL_law_164 rfl (lv_at hl 7 rfl) ?_
          refine lv_aload_n hx hb dL_law_165 rfl (lv_at hl 9 rfl) ?_
          refine lv_aload hx hb dL_law_166 (lv_at hl 10 rfl) ?_
          refine lv_iload hx hb dL_law_168 (lv_at hl 2 rfl) ?_
          have hV : kV G (siteW G S ya ++ ([(na, aN (kcI G) 3 f)] ++ ([(ha, aN (kcI G) 20 h)] ++ (siteW G S yb ++ [])))) _ := kV_wc hV (fun e => by simp only [wc_app]; omega)
          obtain ⟨z, hz⟩ : ∃ q, (actR S h x9).1 = q := ⟨_, rfl⟩
          obtain ⟨T, hT⟩ : ∃ q, (actR S h x9).2 = q := ⟨_, rfl⟩
          have hF9 := act_F (h := h) (x := x9) hI hm
          rw [hz, hT] at hF9
          refine kc_i (va_runS (As := [.ref (yxa), .ref (na), .ref (ha), .int (nI (x9))]) (rest := []) hF (c_L_act l G S ya yxa f h na ha (siteW G S yb ++ []) x9 hn hx9 hlt hh0 hI hY0) (va_cwS 4 hts gL_law_L_act rfl rfl rfl (by decide +kernel) ⟨Nat.le_of_ble_eq_true rfl, Nat.le_of_ble_eq_true rfl⟩) (kPreS hE hS hV) rfl rfl hl.1 rfl (lv_room (Nat.le_of_ble_eq_true rfl)) dL_law_170 ⟨(show 40 + 6800 * k + 0 + 18 ≤ 600086 by omega), (show 400 + 90600 * k + 0 + 1772 ≤ 7301442 by omega)⟩) hS (fun r_27 u_26 H locs hp_25 hV hS => ?_)
          obtain ⟨hp_250, hY0, hh0⟩ := hp_25
          rw [hT] at hY0 hV
          have hp_250 : z = r_27 := (hp_250.trans hz).symm
          subst hp_250
          have hV : kV G (siteW G T u_26 ++ ([(na, aN (kcI G) 3 f)] ++ ([(ha, aN (kcI G) 20 h)] ++ (siteW G S yb ++ [])))) _ := hV
          have hV : kV G (siteW G T u_26 ++ (siteW G S yb ++ ([(na, aN (kcI G) 3 f)] ++ ([(ha, aN (kcI G) 20 h)] ++ ([]))))) _ := kV_wc hV (fun e => by simp only [wc_app]; omega)
          refine lv_istore (lv' := [(11, .int (z)), (10, .int (nI (x9 / 32))), (9, .int (nI (x9 % 32))), (8, .int (nI (x9))), (7, .int (nI (k))), (6, .int (nI (1))), (5, .int (nI (th))), (0, .ref (b)), (1, .ref (yxa)), (2, .ref (yxb)), (3, .ref (na)), (4, .ref (ha))]) hx hb dL_law_173 hl (by decide) rfl (fun ls hl => ?_)
          refine lv_aload_n hx hb dL_law_175 rfl (lv_at hl 9 rfl) ?_
          refine lv_aload_n hx hb dL_law_176 rfl (lv_at hl 10 rfl) ?_
          refine lv_iload hx hb dL_law_177 (lv_at hl 3 rfl) ?_
          refine lv_sipush (v := nI 9973) hx hb dL_law_179 (by decide) ?_
          refine kn_rem hx hb (by omega) (by omega) (by omega) dL_law_182 ?_
          have hV : kV G (siteW G S yb ++ ([(na, aN (kcI G) 3 f)] ++ ([(ha, aN (kcI G) 20 h)] ++ (siteW G T u_26 ++ [])))) _ := kV_wc hV (fun e => by simp only [wc_app]; omega)
          refine kc_i (va_runS (As := [.ref (yxb), .ref (na), .int (nI (x9 % 9973))]) (rest := []) hF (c_L_refuses l G S yb yxb f na ([(ha, aN (kcI G) 20 h)] ++ (siteW G T u_26 ++ [])) (x9 % 9973) hn (by omega) hlt hh1 hI hY1) (va_cwS 3 hts gL_law_L_refuses rfl rfl rfl (by decide +kernel) ⟨Nat.le_of_ble_eq_true rfl, Nat.le_of_ble_eq_true rfl⟩) (kPreS hE hS hV) rfl rfl hl.1 rfl (lv_room (Nat.le_of_ble_eq_true rfl)) dL_law_183 ⟨(show 40 + 6800 * k + 0 + 18 + 700 ≤ 600086 by omega), (show 400 + 90600 * k + 0 + 1772 + 28000 ≤ 7301442 by omega)⟩) hS (fun r_30 u_29 H locs hp_28 hV hS => ?_)
          obtain ⟨hp_280, hY1, hh1⟩ := hp_28
          have hp_280 : nI 1 = r_30 := hp_280.symm
          subst hp_280
          have hV : kV G (siteW G S u_29 ++ ([(na, aN (kcI G) 3 f)] ++ ([(ha, aN (kcI G) 20 h)] ++ (siteW G T u_26 ++ [])))) _ := hV
          have hV : kV G (siteW G T u_26 ++ (siteW G S u_29 ++ ([(na, aN (kcI G) 3 f)] ++ ([(ha, aN (kcI G) 20 h)] ++ ([]))))) _ := kV_wc hV (fun e => by simp only [wc_app]; omega)
          refine kn_if_eq_not hx hb (by decide) dL_law_186 ?_ 207 (by decide)
          refine lv_aload_n hx hb dL_law_189 rfl (lv_at hl 9 rfl) ?_
          refine lv_aload_n hx hb dL_law_190 rfl (lv_at hl 10 rfl) ?_
          refine lv_aload hx hb dL_law_191 (lv_at hl 11 rfl) ?_
          refine lv_iload hx hb dL_law_193 (lv_at hl 3 rfl) ?_
          have hV : kV G (siteW G S u_29 ++ ([(na, aN (kcI G) 3 f)] ++ ([(ha, aN (kcI G) 20 h)] ++ (siteW G T u_26 ++ [])))) _ := kV_wc hV (fun e => by simp only [wc_app]; omega)
          refine kc_i (va_runS (As := [.ref (yxb), .ref (na), .ref (ha), .int (nI (x9))]) (rest := []) hF (c_L_act l G S u_29 yxb f h na ha (siteW G T u_26 ++ []) x9 hn hx9 hlt hh1 hI hY1) (va_cwS 4 hts gL_law_L_act rfl rfl rfl (by decide +kernel) ⟨Nat.le_of_ble_eq_true rfl, Nat.le_of_ble_eq_true rfl⟩) (kPreS hE hS hV) rfl rfl hl.1 rfl (lv_room (Nat.le_of_ble_eq_true rfl)) dL_law_195 ⟨(show 40 + 6800 * k + 0 + 18 + 700 + 18 ≤ 600086 by omega), (show 400 + 90600 * k + 0 + 1772 + 28000 + 1772 ≤ 7301442 by omega)⟩) hS (fun r_33 u_32 H locs hp_31 hV hS => ?_)
          obtain ⟨hp_310, hY1, hh1⟩ := hp_31
          rw [hT] at hY1 hV
          have hp_310 : z = r_33 := (hp_310.trans hz).symm
          subst hp_310
          have hV : kV G (siteW G T u_32 ++ ([(na, aN (kcI G) 3 f)] ++ ([(ha, aN (kcI G) 20 h)] ++ (siteW G T u_26 ++ [])))) _ := hV
          have hV : kV G (siteW G T u_26 ++ (siteW G T u_32 ++ ([(na, aN (kcI G) 3 f)] ++ ([(ha, aN (kcI G) 20 h)] ++ ([]))))) _ := kV_wc hV (fun e => by simp only [wc_app]; omega)
          refine lv_iload hx hb dL_law_198 (lv_at hl 0 rfl) ?_
          refine lv_icmp_ne (tgt := 207) hx hb dL_law_200 (by decide) (fun z => absurd rfl z) (fun _ => ?_)
          refine lv_iconst (v := nI 1) hx hb dL_law_203 (by decide) ?_
          refine lv_goto (tgt := 208) hx hb dL_law_204 (by decide) ?_
          have hIT := hF9.1
          have hmT := hF9.2.1
          have ht16 := hIT.1.1
          have ht20 := hIT.1.2.1
          have ht12 := hIT.1.2.2.1
          refine lv_istore (lv' := [(6, .int (nI (1))), (11, .int (z)), (10, .int (nI (x9 / 32))), (9, .int (nI (x9 % 32))), (8, .int (nI (x9))), (7, .int (nI (k))), (5, .int (nI (th))), (0, .ref (b)), (1, .ref (yxa)), (2, .ref (yxb)), (3, .ref (na)), (4, .ref (ha))]) hx hb dL_law_208 hl (by decide) rfl (fun ls hl => ?_)
          have k239 : ∀ (h1 : Nat → Nat) (hw1 : ¬ (x9 % 32 = 23 ∧ ¬ z < 0) → own T h1) (hhx : x9 % 32 = 23 → h1 = h) (H : Heap) (locs : List Loc), kV G (siteW G T u_26 ++ (siteW G T u_32 ++ ([(na, aN (kcI G) 3 f)] ++ ([(ha, aN (kcI G) 20 h1)] ++ ([]))))) H → va_S (kA G) s.heap H locs → ∀ (ls : Array Slot), lv_has ls 15 [(6, .int (nI (1))), (11, .int (z)), (10, .int (nI (x9 / 32))), (9, .int (nI (x9 % 32))), (8, .int (nI (x9))), (7, .int (nI (k))), (5, .int (nI (th))), (0, .ref (b)), (1, .ref (yxa)), (2, .ref (yxb)), (3, .ref (na)), (4, .ref (ha))] → W pp l ee room_1 s m #[Value.ref b] below meth cc0 H locs (40 + 6800 * k + 0 + 18 + 700 + 18 + 0) (400 + 90600 * k + 0 + 1772 + 28000 + 1772 + 0) (lw_Z below #[Value.ref b] s) (F0 m 239 ls []) := by
            intro h1 hw1 hhx H locs hV hS ls hl
            have k316 : ∀ (h2 : Nat → Nat) (hw2 : own T h2) (H : Heap) (locs : List Loc), kV G (siteW G T u_26 ++ (siteW G T u_32 ++ ([(na, aN (kcI G) 3 f)] ++ ([(ha, aN (kcI G) 20 h2)] ++ ([]))))) H → va_S (kA G) s.heap H locs → ∀ (ls : Array Slot), lv_has ls 15 [(6, .int (nI (1))), (11, .int (z)), (10, .int (nI (x9 / 32))), (9, .int (nI (x9 % 32))), (8, .int (nI (x9))), (7, .int (nI (k))), (5, .int (nI (th))), (0, .ref (b)), (1, .ref (yxa)), (2, .ref (yxb)), (3, .ref (na)), (4, .ref (ha))] → W pp l ee room_1 s m #[Value.ref b] below meth cc0 H locs (40 + 6800 * k + 0 + 18 + 700 + 18 + 0 + 0) (400 + 90600 * k + 0 + 1772 + 28000 + 1772 + 0 + 0) (lw_Z below #[Value.ref b] s) (F0 m 316 ls []) := by
              intro h2 hw2 H locs hV hS ls hl
              refine lv_aload_n hx hb dL_law_316 rfl (lv_at hl 10 rfl) ?_
              refine lv_iconst (v := nI 0) hx hb dL_law_317 (by decide) ?_
              refine lv_dup2_11 hx hb dL_law_318 rfl rfl ?_
              have hV9 : kV G ([(na, aN (kcI G) 3 f)] ++ (siteW G T u_26 ++ (siteW G T u_32 ++ ([(ha, aN (kcI G) 20 h2)] ++ ([]))))) _ := kV_wc hV (fun e => by simp only [wc_app]; omega)
              refine kn_iald (G := G) (n := 3) (g := f) (j := 0) hx hb hK hV9 0 rfl (by decide) (by decide) dL_law_319 ?_
              rw [show f 0 = S.1 1 0 from hn0]
              have k343 : ∀ (d0 : Nat) (hd0 : S.1 1 0 + d0 = T.1 1 0) (H : Heap) (locs : List Loc), kV G (siteW G T u_26 ++ (siteW G T u_32 ++ ([(na, aN (kcI G) 3 f)] ++ ([(ha, aN (kcI G) 20 h2)] ++ ([]))))) H → va_S (kA G) s.heap H locs → ∀ (ls : Array Slot), lv_has ls 15 [(6, .int (nI (1))), (11, .int (z)), (10, .int (nI (x9 / 32))), (9, .int (nI (x9 % 32))), (8, .int (nI (x9))), (7, .int (nI (k))), (5, .int (nI (th))), (0, .ref (b)), (1, .ref (yxa)), (2, .ref (yxb)), (3, .ref (na)), (4, .ref (ha))] → W pp l ee room_1 s m #[Value.ref b] below meth cc0 H locs (40 + 6800 * k + 0 + 18 + 700 + 18 + 0 + 0 + 0) (400 + 90600 * k + 0 + 1772 + 28000 + 1772 + 0 + 0 + 0) (lw_Z below #[Value.ref b] s) (F0 m 343 ls [.int (nI (d0)), .int (nI (S.1 1 0)), .int (nI (0)), .ref (na)]) := by
                intro d0 hd0 H locs hV hS ls hl
                refine kn_add hx hb dL_law_343 ?_
                rw [show (S.1 1 0) + d0 = T.1 1 0 from hd0]
                have hV9 : kV G ([(na, aN (kcI G) 3 f)] ++ (siteW G T u_26 ++ (siteW G T u_32 ++ ([(ha, aN (kcI G) 20 h2)] ++ ([]))))) _ := kV_wc hV (fun e => by simp only [wc_app]; omega)
                refine kn_iast (G := G) (n := 3) (g := f) (j := 0) (v := T.1 1 0) hx hb hK hV9 hS 0 rfl (by decide) (by decide) dL_law_344 (fun H locs hV hS => ?_)
                have hV : kV G ([(na, aN (kcI G) 3 (va_up f 0 (T.1 1 0)))] ++ (siteW G T u_26 ++ (siteW G T u_32 ++ ([(ha, aN (kcI G) 20 h2)] ++ ([]))))) _ := hV
                have hV : kV G (siteW G T u_26 ++ (siteW G T u_32 ++ ([(na, aN (kcI G) 3 (va_up f 0 (T.1 1 0)))] ++ ([(ha, aN (kcI G) 20 h2)] ++ ([]))))) _ := kV_wc hV (fun e => by simp only [wc_app]; omega)
                refine lv_aload_n hx hb dL_law_345 rfl (lv_at hl 10 rfl) ?_
                refine lv_iconst (v := nI 1) hx hb dL_law_346 (by decide) ?_
                refine lv_dup2_11 hx hb dL_law_347 rfl rfl ?_
                have hV9 : kV G ([(na, aN (kcI G) 3 (va_up f 0 (T.1 1 0)))] ++ (siteW G T u_26 ++ (siteW G T u_32 ++ ([(ha, aN (kcI G) 20 h2)] ++ ([]))))) _ := kV_wc hV (fun e => by simp only [wc_app]; omega)
                refine kn_iald (G := G) (n := 3) (g := va_up f 0 (T.1 1 0)) (j := 1) hx hb hK hV9 0 rfl (by decide) (by decide) dL_law_348 ?_
                rw [show (va_up f 0 (T.1 1 0)) 1 = S.1 15 0 from hn1]
                have k373 : ∀ (d1 : Nat) (hd1 : S.1 15 0 + d1 = T.1 15 0) (H : Heap) (locs : List Loc), kV G (siteW G T u_26 ++ (siteW G T u_32 ++ ([(na, aN (kcI G) 3 (va_up f 0 (T.1 1 0)))] ++ ([(ha, aN (kcI G) 20 h2)] ++ ([]))))) H → va_S (kA G) s.heap H locs → ∀ (ls : Array Slot), lv_has ls 15 [(6, .int (nI (1))), (11, .int (z)), (10, .int (nI (x9 / 32))), (9, .int (nI (x9 % 32))), (8, .int (nI (x9))), (7, .int (nI (k))), (5, .int (nI (th))), (0, .ref (b)), (1, .ref (yxa)), (2, .ref (yxb)), (3, .ref (na)), (4, .ref (ha))] → W pp l ee room_1 s m #[Value.ref b] below meth cc0 H locs (40 + 6800 * k + 0 + 18 + 700 + 18 + 0 + 0 + 0 + 0) (400 + 90600 * k + 0 + 1772 + 28000 + 1772 + 0 + 0 + 0 + 0) (lw_Z below #[Value.ref b] s) (F0 m 373 ls [.int (nI (d1)), .int (nI (S.1 15 0)), .int (nI (1)), .ref (na)]) := by
                  intro d1 hd1 H locs hV hS ls hl
                  refine kn_add hx hb dL_law_373 ?_
                  rw [show (S.1 15 0) + d1 = T.1 15 0 from hd1]
                  have hV9 : kV G ([(na, aN (kcI G) 3 (va_up f 0 (T.1 1 0)))] ++ (siteW G T u_26 ++ (siteW G T u_32 ++ ([(ha, aN (kcI G) 20 h2)] ++ ([]))))) _ := kV_wc hV (fun e => by simp only [wc_app]; omega)
                  refine kn_iast (G := G) (n := 3) (g := va_up f 0 (T.1 1 0)) (j := 1) (v := T.1 15 0) hx hb hK hV9 hS 0 rfl (by decide) (by decide) dL_law_374 (fun H locs hV hS => ?_)
                  have hV : kV G ([(na, aN (kcI G) 3 (va_up (va_up f 0 (T.1 1 0)) 1 (T.1 15 0)))] ++ (siteW G T u_26 ++ (siteW G T u_32 ++ ([(ha, aN (kcI G) 20 h2)] ++ ([]))))) _ := hV
                  have hV : kV G (siteW G T u_26 ++ (siteW G T u_32 ++ ([(na, aN (kcI G) 3 (va_up (va_up f 0 (T.1 1 0)) 1 (T.1 15 0)))] ++ ([(ha, aN (kcI G) 20 h2)] ++ ([]))))) _ := kV_wc hV (fun e => by simp only [wc_app]; omega)
                  refine lv_aload_n hx hb dL_law_375 rfl (lv_at hl 10 rfl) ?_
                  refine lv_iconst (v := nI 2) hx hb dL_law_376 (by decide) ?_
                  refine lv_dup2_11 hx hb dL_law_377 rfl rfl ?_
                  have hV9 : kV G ([(na, aN (kcI G) 3 (va_up (va_up f 0 (T.1 1 0)) 1 (T.1 15 0)))] ++ (siteW G T u_26 ++ (siteW G T u_32 ++ ([(ha, aN (kcI G) 20 h2)] ++ ([]))))) _ := kV_wc hV (fun e => by simp only [wc_app]; omega)
                  refine kn_iald (G := G) (n := 3) (g := va_up (va_up f 0 (T.1 1 0)) 1 (T.1 15 0)) (j := 2) hx hb hK hV9 0 rfl (by decide) (by decide) dL_law_378 ?_
                  rw [show (va_up (va_up f 0 (T.1 1 0)) 1 (T.1 15 0)) 2 = S.1 19 0 from hn2]
                  have k403 : ∀ (d2 : Nat) (hd2 : S.1 19 0 + d2 = T.1 19 0) (H : Heap) (locs : List Loc), kV G (siteW G T u_26 ++ (siteW G T u_32 ++ ([(na, aN (kcI G) 3 (va_up (va_up f 0 (T.1 1 0)) 1 (T.1 15 0)))] ++ ([(ha, aN (kcI G) 20 h2)] ++ ([]))))) H → va_S (kA G) s.heap H locs → ∀ (ls : Array Slot), lv_has ls 15 [(6, .int (nI (1))), (11, .int (z)), (10, .int (nI (x9 / 32))), (9, .int (nI (x9 % 32))), (8, .int (nI (x9))), (7, .int (nI (k))), (5, .int (nI (th))), (0, .ref (b)), (1, .ref (yxa)), (2, .ref (yxb)), (3, .ref (na)), (4, .ref (ha))] → W pp l ee room_1 s m #[Value.ref b] below meth cc0 H locs (40 + 6800 * k + 0 + 18 + 700 + 18 + 0 + 0 + 0 + 0 + 0) (400 + 90600 * k + 0 + 1772 + 28000 + 1772 + 0 + 0 + 0 + 0 + 0) (lw_Z below #[Value.ref b] s) (F0 m 403 ls [.int (nI (d2)), .int (nI (S.1 19 0)), .int (nI (2)), .ref (na)]) := by
                    intro d2 hd2 H locs hV hS ls hl
                    refine kn_add hx hb dL_law_403 ?_
                    rw [show (S.1 19 0) + d2 = T.1 19 0 from hd2]
                    have hV9 : kV G ([(na, aN (kcI G) 3 (va_up (va_up f 0 (T.1 1 0)) 1 (T.1 15 0)))] ++ (siteW G T u_26 ++ (siteW G T u_32 ++ ([(ha, aN (kcI G) 20 h2)] ++ ([]))))) _ := kV_wc hV (fun e => by simp only [wc_app]; omega)
                    refine kn_iast (G := G) (n := 3) (g := va_up (va_up f 0 (T.1 1 0)) 1 (T.1 15 0)) (j := 2) (v := T.1 19 0) hx hb hK hV9 hS 0 rfl (by decide) (by decide) dL_law_404 (fun H locs hV hS => ?_)
                    have hV : kV G ([(na, aN (kcI G) 3 (va_up (va_up (va_up f 0 (T.1 1 0)) 1 (T.1 15 0)) 2 (T.1 19 0)))] ++ (siteW G T u_26 ++ (siteW G T u_32 ++ ([(ha, aN (kcI G) 20 h2)] ++ ([]))))) _ := hV
                    have hV : kV G (siteW G T u_26 ++ (siteW G T u_32 ++ ([(na, aN (kcI G) 3 (va_up (va_up (va_up f 0 (T.1 1 0)) 1 (T.1 15 0)) 2 (T.1 19 0)))] ++ ([(ha, aN (kcI G) 20 h2)] ++ ([]))))) _ := kV_wc hV (fun e => by simp only [wc_app]; omega)
                    obtain ⟨f9, hf9⟩ : ∃ q, va_up (va_up (va_up f 0 (T.1 1 0)) 1 (T.1 15 0)) 2 (T.1 19 0) = q := ⟨_, rfl⟩
                    have hnT : nOk T f9 := by rw [← hf9]; exact ⟨rfl, rfl, rfl⟩
                    rw [hf9] at hV
                    have k431 : ∀ (ya431 : kY) (yb431 : kY) (hY0 : yI G T ya431) (hY1 : yI G T yb431) (hh0 : yH ya431 0 = yxa) (hh1 : yH yb431 0 = yxb) (H : Heap) (locs : List Loc), kV G (siteW G T ya431 ++ (siteW G T yb431 ++ ([(na, aN (kcI G) 3 f9)] ++ ([(ha, aN (kcI G) 20 h2)] ++ ([]))))) H → va_S (kA G) s.heap H locs → ∀ (ls : Array Slot), lv_has ls 15 [(6, .int (nI (1))), (11, .int (z)), (10, .int (nI (x9 / 32))), (9, .int (nI (x9 % 32))), (8, .int (nI (x9))), (7, .int (nI (k))), (5, .int (nI (th))), (0, .ref (b)), (1, .ref (yxa)), (2, .ref (yxb)), (3, .ref (na)), (4, .ref (ha))] → W pp l ee room_1 s m #[Value.ref b] below meth cc0 H locs (40 + 6800 * k + 0 + 18 + 700 + 18 + 0 + 0 + 0 + 0 + 0 + 710) (400 + 90600 * k + 0 + 1772 + 28000 + 1772 + 0 + 0 + 0 + 0 + 0 + 28100) (lw_Z below #[Value.ref b] s) (F0 m 431 ls []) := by
                      intro ya431 yb431 hY0 hY1 hh0 hh1 H locs hV hS ls hl
                      refine lv_aload_n hx hb dL_law_431 rfl (lv_at hl 8 rfl) ?_
                      refine lv_aload_n hx hb dL_law_432 rfl (lv_at hl 9 rfl) ?_
                      refine lv_aload_n hx hb dL_law_433 rfl (lv_at hl 10 rfl) ?_
                      refine lv_iload hx hb dL_law_434 (lv_at hl 4 rfl) ?_
                      refine lv_iconst (v := nI 3) hx hb dL_law_436 (by decide) ?_
                      refine kn_div hx hb (by omega) (by omega) (by omega) dL_law_437 ?_
                      refine kc_i (va_runS (As := [.ref (yxa), .ref (yxb), .ref (na), .int (nI (x9 / 3))]) (rest := []) hF (c_L_alike l G T ya431 yb431 yxa yxb f9 na ([(ha, aN (kcI G) 20 h2)] ++ []) (x9 / 3) hnT (by omega) hlt hh0 hh1 hIT hY0 hY1) (va_cwS 4 hts gL_law_L_alike rfl rfl rfl (by decide +kernel) ⟨Nat.le_of_ble_eq_true rfl, Nat.le_of_ble_eq_true rfl⟩) (kPreS hE hS hV) rfl rfl hl.1 rfl (lv_room (Nat.le_of_ble_eq_true rfl)) dL_law_438 ⟨(show 40 + 6800 * k + 0 + 18 + 700 + 18 + 0 + 0 + 0 + 0 + 0 + 710 + 280 ≤ 600086 by omega), (show 400 + 90600 * k + 0 + 1772 + 28000 + 1772 + 0 + 0 + 0 + 0 + 0 + 28100 + 1640 ≤ 7301442 by omega)⟩) hS (fun r_36 u_35 H locs hp_34 hV hS => ?_)
                      obtain ⟨hp_340, hY0, hh0, hY1, hh1⟩ := hp_34
                      have hp_340 : nI 1 = r_36 := hp_340.symm
                      subst hp_340
                      have hV : kV G (siteW G T u_35.1 ++ (siteW G T u_35.2 ++ ([(na, aN (kcI G) 3 f9)] ++ ([(ha, aN (kcI G) 20 h2)] ++ ([]))))) _ := hV
                      refine kn_if_eq_not hx hb (by decide) dL_law_441 ?_ 469 (by decide)
                      refine lv_iload hx hb dL_law_444 (lv_at hl 5 rfl) ?_
                      refine lv_bipush (v := nI 6) hx hb dL_law_446 (by decide) ?_
                      refine kn_rem hx hb (by omega) (by omega) (by omega) dL_law_448 ?_
                      refine kn_if_gt (tgt := 465) hx hb (by omega) dL_law_449 (by decide) (fun c449 => ?_) (fun c449 => ?_)
                      · refine lv_iconst (v := nI 1) hx hb dL_law_465 (by decide) ?_
                        refine lv_goto (tgt := 470) hx hb dL_law_466 (by decide) ?_
                        refine lv_istore (lv' := [(6, .int (nI (1))), (11, .int (z)), (10, .int (nI (x9 / 32))), (9, .int (nI (x9 % 32))), (8, .int (nI (x9))), (7, .int (nI (k))), (5, .int (nI (th))), (0, .ref (b)), (1, .ref (yxa)), (2, .ref (yxb)), (3, .ref (na)), (4, .ref (ha))]) hx hb dL_law_470 hl (by decide) rfl (fun ls hl => ?_)
                        refine lv_iinc (lv' := [(7, .int (nI (k + 1))), (6, .int (nI (1))), (11, .int (z)), (10, .int (nI (x9 / 32))), (9, .int (nI (x9 % 32))), (8, .int (nI (x9))), (5, .int (nI (th))), (0, .ref (b)), (1, .ref (yxa)), (2, .ref (yxb)), (3, .ref (na)), (4, .ref (ha))]) hx hb dL_law_472 hl (k := 5) rfl (kn_iinc k 1) (by decide) rfl (fun ls hl => ?_)
                        refine lv_goto (tgt := 45) hx hb dL_law_475 (by decide) ?_
                        refine W.widen (k := 40 + 6800 * (k + 1)) (n := 400 + 90600 * (k + 1)) (by omega) (by omega) ?_
                        exact ihk45 (k + 1) T u_35.1 u_35.2 f9 h2 (by omega) hIT hmT hnT hw2 hY0 hY1 hh0 hh1 (by omega) _ _ hV hS ls (lv_sub hl [0, 1, 6, 7, 8, 9, 10, 11] rfl)
                      · refine lv_aload_n hx hb dL_law_452 rfl (lv_at hl 9 rfl) ?_
                        refine lv_aload_n hx hb dL_law_453 rfl (lv_at hl 10 rfl) ?_
                        refine lv_iload hx hb dL_law_454 (lv_at hl 4 rfl) ?_
                        refine lv_bipush (v := nI 7) hx hb dL_law_456 (by decide) ?_
                        refine kn_div hx hb (by omega) (by omega) (by omega) dL_law_458 ?_
                        have hV : kV G (siteW G T u_35.2 ++ ([(na, aN (kcI G) 3 f9)] ++ ([(ha, aN (kcI G) 20 h2)] ++ (siteW G T u_35.1 ++ [])))) _ := kV_wc hV (fun e => by simp only [wc_app]; omega)
                        refine kc_i (va_runS (As := [.ref (yxb), .ref (na), .int (nI (x9 / 7))]) (rest := []) hF (c_L_holds l G T u_35.2 yxb f9 na ([(ha, aN (kcI G) 20 h2)] ++ (siteW G T u_35.1 ++ [])) (x9 / 7) hnT (by omega) hmT hlt hh1 hIT hY1) (va_cwS 3 hts gL_law_L_holds rfl rfl rfl (by decide +kernel) ⟨Nat.le_of_ble_eq_true rfl, Nat.le_of_ble_eq_true rfl⟩) (kPreS hE hS hV) rfl rfl hl.1 rfl (lv_room (Nat.le_of_ble_eq_true rfl)) dL_law_459 ⟨(show 40 + 6800 * k + 0 + 18 + 700 + 18 + 0 + 0 + 0 + 0 + 0 + 710 + 280 + 4930 ≤ 600086 by omega), (show 400 + 90600 * k + 0 + 1772 + 28000 + 1772 + 0 + 0 + 0 + 0 + 0 + 28100 + 1640 + 29100 ≤ 7301442 by omega)⟩) hS (fun r_39 u_38 H locs hp_37 hV hS => ?_)
                        obtain ⟨hp_370, hY1, hh1⟩ := hp_37
                        have hp_370 : nI 1 = r_39 := hp_370.symm
                        subst hp_370
                        have hV : kV G (siteW G T u_38 ++ ([(na, aN (kcI G) 3 f9)] ++ ([(ha, aN (kcI G) 20 h2)] ++ (siteW G T u_35.1 ++ [])))) _ := hV
                        have hV : kV G (siteW G T u_35.1 ++ (siteW G T u_38 ++ ([(na, aN (kcI G) 3 f9)] ++ ([(ha, aN (kcI G) 20 h2)] ++ ([]))))) _ := kV_wc hV (fun e => by simp only [wc_app]; omega)
                        refine kn_if_eq_not hx hb (by decide) dL_law_462 ?_ 469 (by decide)
                        refine lv_iconst (v := nI 1) hx hb dL_law_465 (by decide) ?_
                        refine lv_goto (tgt := 470) hx hb dL_law_466 (by decide) ?_
                        refine lv_istore (lv' := [(6, .int (nI (1))), (11, .int (z)), (10, .int (nI (x9 / 32))), (9, .int (nI (x9 % 32))), (8, .int (nI (x9))), (7, .int (nI (k))), (5, .int (nI (th))), (0, .ref (b)), (1, .ref (yxa)), (2, .ref (yxb)), (3, .ref (na)), (4, .ref (ha))]) hx hb dL_law_470 hl (by decide) rfl (fun ls hl => ?_)
                        refine lv_iinc (lv' := [(7, .int (nI (k + 1))), (6, .int (nI (1))), (11, .int (z)), (10, .int (nI (x9 / 32))), (9, .int (nI (x9 % 32))), (8, .int (nI (x9))), (5, .int (nI (th))), (0, .ref (b)), (1, .ref (yxa)), (2, .ref (yxb)), (3, .ref (na)), (4, .ref (ha))]) hx hb dL_law_472 hl (k := 5) rfl (kn_iinc k 1) (by decide) rfl (fun ls hl => ?_)
                        refine lv_goto (tgt := 45) hx hb dL_law_475 (by decide) ?_
                        refine W.widen (k := 40 + 6800 * (k + 1)) (n := 400 + 90600 * (k + 1)) (by omega) (by omega) ?_
                        exact ihk45 (k + 1) T u_35.1 u_38 f9 h2 (by omega) hIT hmT hnT hw2 hY0 hY1 hh0 hh1 (by omega) _ _ hV hS ls (lv_sub hl [0, 1, 6, 7, 8, 9, 10, 11] rfl)
                    refine lv_iload hx hb dL_law_405 (lv_at hl 0 rfl) ?_
                    refine kn_if_eq_not hx hb (by decide) dL_law_407 ?_ 469 (by decide)
                    refine lv_iload hx hb dL_law_410 (lv_at hl 5 rfl) ?_
                    refine lv_iconst (v := nI 3) hx hb dL_law_412 (by decide) ?_
                    refine kn_rem hx hb (by omega) (by omega) (by omega) dL_law_413 ?_
                    refine kn_if_gt (tgt := 431) hx hb (by omega) dL_law_414 (by decide) (fun c414 => ?_) (fun c414 => ?_)
                    · refine W.widen (k := 40 + 6800 * k + 0 + 18 + 700 + 18 + 0 + 0 + 0 + 0 + 0 + 710) (n := 400 + 90600 * k + 0 + 1772 + 28000 + 1772 + 0 + 0 + 0 + 0 + 0 + 28100) (by omega) (by omega) ?_
                      exact k431 u_26 u_32 hY0 hY1 hh0 hh1 _ _ hV hS ls (lv_sub hl [0, 1, 2, 3, 4, 5, 6, 7, 8, 9, 10, 11] rfl)
                    · refine lv_aload_n hx hb dL_law_417 rfl (lv_at hl 9 rfl) ?_
                      refine lv_aload_n hx hb dL_law_418 rfl (lv_at hl 10 rfl) ?_
                      refine lv_iload hx hb dL_law_419 (lv_at hl 4 rfl) ?_
                      refine lv_sipush (v := nI 499) hx hb dL_law_421 (by decide) ?_
                      refine kn_rem hx hb (by omega) (by omega) (by omega) dL_law_424 ?_
                      have hV : kV G (siteW G T u_32 ++ ([(na, aN (kcI G) 3 f9)] ++ ([(ha, aN (kcI G) 20 h2)] ++ (siteW G T u_26 ++ [])))) _ := kV_wc hV (fun e => by simp only [wc_app]; omega)
                      refine kc_i (va_runS (As := [.ref (yxb), .ref (na), .int (nI (x9 % 499))]) (rest := []) hF (c_L_refuses l G T u_32 yxb f9 na ([(ha, aN (kcI G) 20 h2)] ++ (siteW G T u_26 ++ [])) (x9 % 499) hnT (by omega) hlt hh1 hIT hY1) (va_cwS 3 hts gL_law_L_refuses rfl rfl rfl (by decide +kernel) ⟨Nat.le_of_ble_eq_true rfl, Nat.le_of_ble_eq_true rfl⟩) (kPreS hE hS hV) rfl rfl hl.1 rfl (lv_room (Nat.le_of_ble_eq_true rfl)) dL_law_425 ⟨(show 40 + 6800 * k + 0 + 18 + 700 + 18 + 0 + 0 + 0 + 0 + 0 + 700 ≤ 600086 by omega), (show 400 + 90600 * k + 0 + 1772 + 28000 + 1772 + 0 + 0 + 0 + 0 + 0 + 28000 ≤ 7301442 by omega)⟩) hS (fun r_42 u_41 H locs hp_40 hV hS => ?_)
                      obtain ⟨hp_400, hY1, hh1⟩ := hp_40
                      have hp_400 : nI 1 = r_42 := hp_400.symm
                      subst hp_400
                      have hV : kV G (siteW G T u_41 ++ ([(na, aN (kcI G) 3 f9)] ++ ([(ha, aN (kcI G) 20 h2)] ++ (siteW G T u_26 ++ [])))) _ := hV
                      have hV : kV G (siteW G T u_26 ++ (siteW G T u_41 ++ ([(na, aN (kcI G) 3 f9)] ++ ([(ha, aN (kcI G) 20 h2)] ++ ([]))))) _ := kV_wc hV (fun e => by simp only [wc_app]; omega)
                      refine kn_if_eq_not hx hb (by decide) dL_law_428 ?_ 469 (by decide)
                      refine W.widen (k := 40 + 6800 * k + 0 + 18 + 700 + 18 + 0 + 0 + 0 + 0 + 0 + 710) (n := 400 + 90600 * k + 0 + 1772 + 28000 + 1772 + 0 + 0 + 0 + 0 + 0 + 28100) (by omega) (by omega) ?_
                      exact k431 u_26 u_41 hY0 hY1 hh0 hh1 _ _ hV hS ls (lv_sub hl [0, 1, 2, 3, 4, 5, 6, 7, 8, 9, 10, 11] rfl)
                  refine lv_iload hx hb dL_law_379 (lv_at hl 3 rfl) ?_
                  refine lv_bipush (v := nI 23) hx hb dL_law_381 (by decide) ?_
                  refine kn_le (tgt := 402) hx hb (by omega) (by decide) dL_law_383 (by decide) (fun c383 => ?_) (fun c383 => ?_)
                  · refine lv_iconst (v := nI 0) hx hb dL_law_402 (by decide) ?_
                    refine W.widen (k := 40 + 6800 * k + 0 + 18 + 700 + 18 + 0 + 0 + 0 + 0 + 0) (n := 400 + 90600 * k + 0 + 1772 + 28000 + 1772 + 0 + 0 + 0 + 0 + 0) (by omega) (by omega) ?_
                    exact k403 0 (hF9.2.2.2.2.2.2.2.1 (fun q => by have h9 := q.1; omega)).symm _ _ hV hS ls (lv_sub hl [0, 1, 2, 3, 4, 5, 6, 7, 8, 9, 10, 11] rfl)
                  · refine lv_iload hx hb dL_law_386 (lv_at hl 3 rfl) ?_
                    refine lv_bipush (v := nI 27) hx hb dL_law_388 (by decide) ?_
                    refine kn_ge (tgt := 402) hx hb (by omega) (by decide) dL_law_390 (by decide) (fun c390 => ?_) (fun c390 => ?_)
                    · refine lv_iconst (v := nI 0) hx hb dL_law_402 (by decide) ?_
                      refine W.widen (k := 40 + 6800 * k + 0 + 18 + 700 + 18 + 0 + 0 + 0 + 0 + 0) (n := 400 + 90600 * k + 0 + 1772 + 28000 + 1772 + 0 + 0 + 0 + 0 + 0) (by omega) (by omega) ?_
                      exact k403 0 (hF9.2.2.2.2.2.2.2.1 (fun q => by have h9 := q.1; omega)).symm _ _ hV hS ls (lv_sub hl [0, 1, 2, 3, 4, 5, 6, 7, 8, 9, 10, 11] rfl)
                    · refine lv_iload hx hb dL_law_393 (lv_at hl 1 rfl) ?_
                      refine lv_if_lt (tgt := 402) hx hb dL_law_395 (by decide) (fun c395 => ?_) (fun c395 => ?_)
                      · refine lv_iconst (v := nI 0) hx hb dL_law_402 (by decide) ?_
                        refine W.widen (k := 40 + 6800 * k + 0 + 18 + 700 + 18 + 0 + 0 + 0 + 0 + 0) (n := 400 + 90600 * k + 0 + 1772 + 28000 + 1772 + 0 + 0 + 0 + 0 + 0) (by omega) (by omega) ?_
                        exact k403 0 (hF9.2.2.2.2.2.2.2.1 (fun q => q.2 c395)).symm _ _ hV hS ls (lv_sub hl [0, 1, 2, 3, 4, 5, 6, 7, 8, 9, 10, 11] rfl)
                      · refine lv_iconst (v := nI 1) hx hb dL_law_398 (by decide) ?_
                        refine lv_goto (tgt := 403) hx hb dL_law_399 (by decide) ?_
                        refine W.widen (k := 40 + 6800 * k + 0 + 18 + 700 + 18 + 0 + 0 + 0 + 0 + 0) (n := 400 + 90600 * k + 0 + 1772 + 28000 + 1772 + 0 + 0 + 0 + 0 + 0) (by omega) (by omega) ?_
                        exact k403 1 (hF9.2.2.2.2.2.2.1 ⟨by omega, by omega⟩ c395).symm _ _ hV hS ls (lv_sub hl [0, 1, 2, 3, 4, 5, 6, 7, 8, 9, 10, 11] rfl)
                refine lv_iload hx hb dL_law_349 (lv_at hl 3 rfl) ?_
                refine lv_bipush (v := nI 19) hx hb dL_law_351 (by decide) ?_
                refine kn_le (tgt := 372) hx hb (by omega) (by decide) dL_law_353 (by decide) (fun c353 => ?_) (fun c353 => ?_)
                · refine lv_iconst (v := nI 0) hx hb dL_law_372 (by decide) ?_
                  refine W.widen (k := 40 + 6800 * k + 0 + 18 + 700 + 18 + 0 + 0 + 0 + 0) (n := 400 + 90600 * k + 0 + 1772 + 28000 + 1772 + 0 + 0 + 0 + 0) (by omega) (by omega) ?_
                  exact k373 0 (hF9.2.2.2.2.2.1 (fun q => by have h9 := q.1; omega)).symm _ _ hV hS ls (lv_sub hl [0, 1, 2, 3, 4, 5, 6, 7, 8, 9, 10, 11] rfl)
                · refine lv_iload hx hb dL_law_356 (lv_at hl 3 rfl) ?_
                  refine lv_bipush (v := nI 23) hx hb dL_law_358 (by decide) ?_
                  refine kn_ge (tgt := 372) hx hb (by omega) (by decide) dL_law_360 (by decide) (fun c360 => ?_) (fun c360 => ?_)
                  · refine lv_iconst (v := nI 0) hx hb dL_law_372 (by decide) ?_
                    refine W.widen (k := 40 + 6800 * k + 0 + 18 + 700 + 18 + 0 + 0 + 0 + 0) (n := 400 + 90600 * k + 0 + 1772 + 28000 + 1772 + 0 + 0 + 0 + 0) (by omega) (by omega) ?_
                    exact k373 0 (hF9.2.2.2.2.2.1 (fun q => by have h9 := q.1; omega)).symm _ _ hV hS ls (lv_sub hl [0, 1, 2, 3, 4, 5, 6, 7, 8, 9, 10, 11] rfl)
                  · refine lv_iload hx hb dL_law_363 (lv_at hl 1 rfl) ?_
                    refine lv_if_lt (tgt := 372) hx hb dL_law_365 (by decide) (fun c365 => ?_) (fun c365 => ?_)
                    · refine lv_iconst (v := nI 0) hx hb dL_law_372 (by decide) ?_
                      refine W.widen (k := 40 + 6800 * k + 0 + 18 + 700 + 18 + 0 + 0 + 0 + 0) (n := 400 + 90600 * k + 0 + 1772 + 28000 + 1772 + 0 + 0 + 0 + 0) (by omega) (by omega) ?_
                      exact k373 0 (hF9.2.2.2.2.2.1 (fun q => q.2 c365)).symm _ _ hV hS ls (lv_sub hl [0, 1, 2, 3, 4, 5, 6, 7, 8, 9, 10, 11] rfl)
                    · refine lv_iconst (v := nI 1) hx hb dL_law_368 (by decide) ?_
                      refine lv_goto (tgt := 373) hx hb dL_law_369 (by decide) ?_
                      refine W.widen (k := 40 + 6800 * k + 0 + 18 + 700 + 18 + 0 + 0 + 0 + 0) (n := 400 + 90600 * k + 0 + 1772 + 28000 + 1772 + 0 + 0 + 0 + 0) (by omega) (by omega) ?_
                      exact k373 1 (hF9.2.2.2.2.1 ⟨by omega, by omega⟩ c365).symm _ _ hV hS ls (lv_sub hl [0, 1, 2, 3, 4, 5, 6, 7, 8, 9, 10, 11] rfl)
              refine lv_iload hx hb dL_law_320 (lv_at hl 3 rfl) ?_
              refine lv_iconst (v := nI 3) hx hb dL_law_322 (by decide) ?_
              refine kn_lt (tgt := 333) hx hb (by omega) (by decide) dL_law_323 (by decide) (fun c323 => ?_) (fun c323 => ?_)
              · refine lv_iload hx hb dL_law_333 (lv_at hl 1 rfl) ?_
                refine lv_if_lt (tgt := 342) hx hb dL_law_335 (by decide) (fun c335 => ?_) (fun c335 => ?_)
                · refine lv_iconst (v := nI 0) hx hb dL_law_342 (by decide) ?_
                  refine W.widen (k := 40 + 6800 * k + 0 + 18 + 700 + 18 + 0 + 0 + 0) (n := 400 + 90600 * k + 0 + 1772 + 28000 + 1772 + 0 + 0 + 0) (by omega) (by omega) ?_
                  exact k343 0 (hF9.2.2.2.1 (fun q => q.2 c335)).symm _ _ hV hS ls (lv_sub hl [0, 1, 2, 3, 4, 5, 6, 7, 8, 9, 10, 11] rfl)
                · refine lv_iconst (v := nI 1) hx hb dL_law_338 (by decide) ?_
                  refine lv_goto (tgt := 343) hx hb dL_law_339 (by decide) ?_
                  refine W.widen (k := 40 + 6800 * k + 0 + 18 + 700 + 18 + 0 + 0 + 0) (n := 400 + 90600 * k + 0 + 1772 + 28000 + 1772 + 0 + 0 + 0) (by omega) (by omega) ?_
                  exact k343 1 (hF9.2.2.1 (by unfold k3; omega) c335).symm _ _ hV hS ls (lv_sub hl [0, 1, 2, 3, 4, 5, 6, 7, 8, 9, 10, 11] rfl)
              · refine lv_iload hx hb dL_law_326 (lv_at hl 3 rfl) ?_
                refine lv_bipush (v := nI 9) hx hb dL_law_328 (by decide) ?_
                refine kn_ne (tgt := 342) hx hb (by omega) (by decide) dL_law_330 (by decide) (fun c330 => ?_) (fun c330 => ?_)
                · refine lv_iconst (v := nI 0) hx hb dL_law_342 (by decide) ?_
                  refine W.widen (k := 40 + 6800 * k + 0 + 18 + 700 + 18 + 0 + 0 + 0) (n := 400 + 90600 * k + 0 + 1772 + 28000 + 1772 + 0 + 0 + 0) (by omega) (by omega) ?_
                  exact k343 0 (hF9.2.2.2.1 (fun q => by have h9 := q.1; unfold k3 at h9; omega)).symm _ _ hV hS ls (lv_sub hl [0, 1, 2, 3, 4, 5, 6, 7, 8, 9, 10, 11] rfl)
                · refine lv_iload hx hb dL_law_333 (lv_at hl 1 rfl) ?_
                  refine lv_if_lt (tgt := 342) hx hb dL_law_335 (by decide) (fun c335 => ?_) (fun c335 => ?_)
                  · refine lv_iconst (v := nI 0) hx hb dL_law_342 (by decide) ?_
                    refine W.widen (k := 40 + 6800 * k + 0 + 18 + 700 + 18 + 0 + 0 + 0) (n := 400 + 90600 * k + 0 + 1772 + 28000 + 1772 + 0 + 0 + 0) (by omega) (by omega) ?_
                    exact k343 0 (hF9.2.2.2.1 (fun q => q.2 c335)).symm _ _ hV hS ls (lv_sub hl [0, 1, 2, 3, 4, 5, 6, 7, 8, 9, 10, 11] rfl)
                  · refine lv_iconst (v := nI 1) hx hb dL_law_338 (by decide) ?_
                    refine lv_goto (tgt := 343) hx hb dL_law_339 (by decide) ?_
                    refine W.widen (k := 40 + 6800 * k + 0 + 18 + 700 + 18 + 0 + 0 + 0) (n := 400 + 90600 * k + 0 + 1772 + 28000 + 1772 + 0 + 0 + 0) (by omega) (by omega) ?_
                    exact k343 1 (hF9.2.2.1 (by unfold k3; omega) c335).symm _ _ hV hS ls (lv_sub hl [0, 1, 2, 3, 4, 5, 6, 7, 8, 9, 10, 11] rfl)
            refine lv_iload hx hb dL_law_239 (lv_at hl 3 rfl) ?_
            refine lv_bipush (v := nI 23) hx hb dL_law_241 (by decide) ?_
            refine kn_ne (tgt := 316) hx hb (by omega) (by decide) dL_law_243 (by decide) (fun c243 => ?_) (fun c243 => ?_)
            · refine W.widen (k := 40 + 6800 * k + 0 + 18 + 700 + 18 + 0 + 0) (n := 400 + 90600 * k + 0 + 1772 + 28000 + 1772 + 0 + 0) (by omega) (by omega) ?_
              exact k316 h1 (hw1 (fun q => c243 q.1)) _ _ hV hS ls (lv_sub hl [0, 1, 2, 3, 4, 5, 6, 7, 8, 9, 10, 11] rfl)
            · refine lv_iload hx hb dL_law_246 (lv_at hl 1 rfl) ?_
              refine lv_if_lt (tgt := 316) hx hb dL_law_248 (by decide) (fun c248 => ?_) (fun c248 => ?_)
              · refine W.widen (k := 40 + 6800 * k + 0 + 18 + 700 + 18 + 0 + 0) (n := 400 + 90600 * k + 0 + 1772 + 28000 + 1772 + 0 + 0) (by omega) (by omega) ?_
                exact k316 h1 (hw1 (fun q => q.2 c248)) _ _ hV hS ls (lv_sub hl [0, 1, 2, 3, 4, 5, 6, 7, 8, 9, 10, 11] rfl)
              · have hh2 := (hhx c243).symm
                subst hh2
                have g15 := (hF9.2.2.2.2.2.2.2.2.2.1 c243 c248).1
                refine lv_iload hx hb dL_law_251 (lv_at hl 2 rfl) ?_
                refine lv_bipush (v := nI 7) hx hb dL_law_253 (by decide) ?_
                refine kn_div hx hb (by omega) (by omega) (by omega) dL_law_255 ?_
                refine lv_aload_n hx hb dL_law_256 rfl (lv_at hl 10 rfl) ?_
                refine lv_iconst (v := nI 1) hx hb dL_law_257 (by decide) ?_
                have hV9 : kV G ([(na, aN (kcI G) 3 f)] ++ (siteW G T u_26 ++ (siteW G T u_32 ++ ([(ha, aN (kcI G) 20 h)] ++ ([]))))) _ := kV_wc hV (fun e => by simp only [wc_app]; omega)
                refine kn_iald (G := G) (n := 3) (g := f) (j := 1) hx hb hK hV9 0 rfl (by decide) (by decide) dL_law_258 ?_
                rw [show f 1 = S.1 15 0 from hn1]
                refine kn_rem hx hb (by omega) (by omega) (by omega) dL_law_259 ?_
                obtain ⟨la, hla⟩ : ∃ q, ((x9 / 32) / 7) % (S.1 15 0) = q := ⟨_, rfl⟩
                rw [hla]
                have hla1 : la < S.1 15 0 := by rw [← hla]; exact Nat.mod_lt _ g15
                refine lv_istore (lv' := [(12, .int (nI (la))), (6, .int (nI (1))), (11, .int (z)), (10, .int (nI (x9 / 32))), (9, .int (nI (x9 % 32))), (8, .int (nI (x9))), (7, .int (nI (k))), (5, .int (nI (th))), (0, .ref (b)), (1, .ref (yxa)), (2, .ref (yxb)), (3, .ref (na)), (4, .ref (ha))]) hx hb dL_law_260 hl (by decide) rfl (fun ls hl => ?_)
                refine lv_iload hx hb dL_law_262 (lv_at hl 3 rfl) ?_
                refine lv_aload_n hx hb dL_law_264 rfl (lv_at hl 11 rfl) ?_
                refine lv_iconst (v := nI 1) hx hb dL_law_265 (by decide) ?_
                have hV9 : kV G ([(na, aN (kcI G) 3 f)] ++ (siteW G T u_26 ++ (siteW G T u_32 ++ ([(ha, aN (kcI G) 20 h)] ++ ([]))))) _ := kV_wc hV (fun e => by simp only [wc_app]; omega)
                refine kn_iald (G := G) (n := 3) (g := f) (j := 1) hx hb hK hV9 0 rfl (by decide) (by decide) dL_law_266 ?_
                rw [show f 1 = S.1 15 0 from hn1]
                refine kn_rem hx hb (by omega) (by omega) (by omega) dL_law_267 ?_
                obtain ⟨lb, hlb⟩ : ∃ q, (x9 / 32) % (S.1 15 0) = q := ⟨_, rfl⟩
                rw [hlb]
                have hlb1 : lb < S.1 15 0 := by rw [← hlb]; exact Nat.mod_lt _ g15
                refine lv_istore (lv' := [(13, .int (nI (lb))), (12, .int (nI (la))), (6, .int (nI (1))), (11, .int (z)), (10, .int (nI (x9 / 32))), (9, .int (nI (x9 % 32))), (8, .int (nI (x9))), (7, .int (nI (k))), (5, .int (nI (th))), (0, .ref (b)), (1, .ref (yxa)), (2, .ref (yxb)), (3, .ref (na)), (4, .ref (ha))]) hx hb dL_law_268 hl (by decide) rfl (fun ls hl => ?_)
                refine lv_aload hx hb dL_law_270 (lv_at hl 13 rfl) ?_
                refine lv_iload hx hb dL_law_272 (lv_at hl 1 rfl) ?_
                have hV9 : kV G ([(ha, aN (kcI G) 20 h)] ++ (siteW G T u_26 ++ (siteW G T u_32 ++ ([(na, aN (kcI G) 3 f)] ++ ([]))))) _ := kV_wc hV (fun e => by simp only [wc_app]; omega)
                refine kn_iald (G := G) (n := 20) (g := h) (j := la) hx hb hK hV9 0 rfl (by omega) (by decide) dL_law_274 ?_
                refine lv_istore (lv' := [(14, .int (nI (h la))), (13, .int (nI (lb))), (12, .int (nI (la))), (6, .int (nI (1))), (11, .int (z)), (10, .int (nI (x9 / 32))), (9, .int (nI (x9 % 32))), (8, .int (nI (x9))), (7, .int (nI (k))), (5, .int (nI (th))), (0, .ref (b)), (1, .ref (yxa)), (2, .ref (yxb)), (3, .ref (na)), (4, .ref (ha))]) hx hb dL_law_275 hl (by decide) rfl (fun ls hl => ?_)
                refine lv_aload hx hb dL_law_277 (lv_at hl 14 rfl) ?_
                refine lv_iload hx hb dL_law_279 (lv_at hl 2 rfl) ?_
                refine lv_aload hx hb dL_law_281 (lv_at hl 14 rfl) ?_
                refine lv_iload hx hb dL_law_283 (lv_at hl 1 rfl) ?_
                have hV9 : kV G ([(ha, aN (kcI G) 20 h)] ++ (siteW G T u_26 ++ (siteW G T u_32 ++ ([(na, aN (kcI G) 3 f)] ++ ([]))))) _ := kV_wc hV (fun e => by simp only [wc_app]; omega)
                refine kn_iald (G := G) (n := 20) (g := h) (j := lb) hx hb hK hV9 0 rfl (by omega) (by decide) dL_law_285 ?_
                have hV9 : kV G ([(ha, aN (kcI G) 20 h)] ++ (siteW G T u_26 ++ (siteW G T u_32 ++ ([(na, aN (kcI G) 3 f)] ++ ([]))))) _ := kV_wc hV (fun e => by simp only [wc_app]; omega)
                refine kn_iast (G := G) (n := 20) (g := h) (j := la) (v := h lb) hx hb hK hV9 hS 0 rfl (by omega) (by decide) dL_law_286 (fun H locs hV hS => ?_)
                have hV : kV G ([(ha, aN (kcI G) 20 (va_up h la (h lb)))] ++ (siteW G T u_26 ++ (siteW G T u_32 ++ ([(na, aN (kcI G) 3 f)] ++ ([]))))) _ := hV
                have hV : kV G (siteW G T u_26 ++ (siteW G T u_32 ++ ([(na, aN (kcI G) 3 f)] ++ ([(ha, aN (kcI G) 20 (va_up h la (h lb)))] ++ ([]))))) _ := kV_wc hV (fun e => by simp only [wc_app]; omega)
                refine lv_aload hx hb dL_law_287 (lv_at hl 14 rfl) ?_
                refine lv_iload hx hb dL_law_289 (lv_at hl 1 rfl) ?_
                refine lv_iload hx hb dL_law_291 (lv_at hl 0 rfl) ?_
                have hV9 : kV G ([(ha, aN (kcI G) 20 (va_up h la (h lb)))] ++ (siteW G T u_26 ++ (siteW G T u_32 ++ ([(na, aN (kcI G) 3 f)] ++ ([]))))) _ := kV_wc hV (fun e => by simp only [wc_app]; omega)
                refine kn_iast (G := G) (n := 20) (g := va_up h la (h lb)) (j := lb) (v := h la) hx hb hK hV9 hS 0 rfl (by omega) (by decide) dL_law_293 (fun H locs hV hS => ?_)
                have hV : kV G ([(ha, aN (kcI G) 20 (va_up (va_up h la (h lb)) lb (h la)))] ++ (siteW G T u_26 ++ (siteW G T u_32 ++ ([(na, aN (kcI G) 3 f)] ++ ([]))))) _ := hV
                have hV : kV G (siteW G T u_26 ++ (siteW G T u_32 ++ ([(na, aN (kcI G) 3 f)] ++ ([(ha, aN (kcI G) 20 (va_up (va_up h la (h lb)) lb (h la)))] ++ ([]))))) _ := kV_wc hV (fun e => by simp only [wc_app]; omega)
                refine lv_iload hx hb dL_law_294 (lv_at hl 3 rfl) ?_
                refine kn_if_eq_not hx hb (by decide) dL_law_296 ?_ 313 (by decide)
                refine lv_aload hx hb dL_law_299 (lv_at hl 14 rfl) ?_
                refine lv_iload hx hb dL_law_301 (lv_at hl 2 rfl) ?_
                have hV9 : kV G ([(ha, aN (kcI G) 20 (va_up (va_up h la (h lb)) lb (h la)))] ++ (siteW G T u_26 ++ (siteW G T u_32 ++ ([(na, aN (kcI G) 3 f)] ++ ([]))))) _ := kV_wc hV (fun e => by simp only [wc_app]; omega)
                refine kn_iald (G := G) (n := 20) (g := va_up (va_up h la (h lb)) lb (h la)) (j := la) hx hb hK hV9 0 rfl (by omega) (by decide) dL_law_303 ?_
                have hsw := own_swap hF9 hw c243 c248 hla hlb
                rw [show nI ((va_up (va_up h la (h lb)) lb (h la)) la) = z from hsw.2]
                refine lv_iload hx hb dL_law_304 (lv_at hl 4 rfl) ?_
                refine lv_icmp_ne (tgt := 313) hx hb dL_law_306 (by decide) (fun z => absurd rfl z) (fun _ => ?_)
                refine lv_iconst (v := nI 1) hx hb dL_law_309 (by decide) ?_
                refine lv_goto (tgt := 314) hx hb dL_law_310 (by decide) ?_
                refine lv_istore (lv' := [(6, .int (nI (1))), (14, .int (nI (h la))), (13, .int (nI (lb))), (12, .int (nI (la))), (11, .int (z)), (10, .int (nI (x9 / 32))), (9, .int (nI (x9 % 32))), (8, .int (nI (x9))), (7, .int (nI (k))), (5, .int (nI (th))), (0, .ref (b)), (1, .ref (yxa)), (2, .ref (yxb)), (3, .ref (na)), (4, .ref (ha))]) hx hb dL_law_314 hl (by decide) rfl (fun ls hl => ?_)
                refine W.widen (k := 40 + 6800 * k + 0 + 18 + 700 + 18 + 0 + 0) (n := 400 + 90600 * k + 0 + 1772 + 28000 + 1772 + 0 + 0) (by omega) (by omega) ?_
                exact k316 (va_up (va_up h la (h lb)) lb (h la)) hsw.1 _ _ hV hS ls (lv_sub hl [0, 4, 5, 6, 7, 8, 9, 10, 11, 12, 13, 14] rfl)
          refine lv_iload hx hb dL_law_210 (lv_at hl 3 rfl) ?_
          refine lv_bipush (v := nI 19) hx hb dL_law_212 (by decide) ?_
          refine kn_le (tgt := 239) hx hb (by omega) (by decide) dL_law_214 (by decide) (fun c214 => ?_) (fun c214 => ?_)
          · refine W.widen (k := 40 + 6800 * k + 0 + 18 + 700 + 18 + 0) (n := 400 + 90600 * k + 0 + 1772 + 28000 + 1772 + 0) (by omega) (by omega) ?_
            exact k239 h (fun q => own_old hF9 hw (fun r => absurd r.1.1 (by omega))) (fun _ => rfl) _ _ hV hS ls (lv_sub hl [0, 1, 2, 3, 4, 5, 6, 7, 8, 9, 10, 11] rfl)
          · refine lv_iload hx hb dL_law_217 (lv_at hl 3 rfl) ?_
            refine lv_bipush (v := nI 23) hx hb dL_law_219 (by decide) ?_
            refine kn_ge (tgt := 239) hx hb (by omega) (by decide) dL_law_221 (by decide) (fun c221 => ?_) (fun c221 => ?_)
            · refine W.widen (k := 40 + 6800 * k + 0 + 18 + 700 + 18 + 0) (n := 400 + 90600 * k + 0 + 1772 + 28000 + 1772 + 0) (by omega) (by omega) ?_
              exact k239 h (fun q => own_old hF9 hw (fun r => q ⟨by omega, r.2⟩)) (fun _ => rfl) _ _ hV hS ls (lv_sub hl [0, 1, 2, 3, 4, 5, 6, 7, 8, 9, 10, 11] rfl)
            · refine lv_iload hx hb dL_law_224 (lv_at hl 1 rfl) ?_
              refine lv_if_lt (tgt := 239) hx hb dL_law_226 (by decide) (fun c226 => ?_) (fun c226 => ?_)
              · refine W.widen (k := 40 + 6800 * k + 0 + 18 + 700 + 18 + 0) (n := 400 + 90600 * k + 0 + 1772 + 28000 + 1772 + 0) (by omega) (by omega) ?_
                exact k239 h (fun q => own_old hF9 hw (fun r => r.2 c226)) (fun _ => rfl) _ _ hV hS ls (lv_sub hl [0, 1, 2, 3, 4, 5, 6, 7, 8, 9, 10, 11] rfl)
              · have hl9 := (hF9.2.2.2.2.2.2.2.2.1 ⟨by omega, by omega⟩ c226).1
                refine lv_aload hx hb dL_law_229 (lv_at hl 11 rfl) ?_
                refine lv_aload_n hx hb dL_law_231 rfl (lv_at hl 10 rfl) ?_
                refine lv_iconst (v := nI 1) hx hb dL_law_232 (by decide) ?_
                have hV9 : kV G ([(na, aN (kcI G) 3 f)] ++ (siteW G T u_26 ++ (siteW G T u_32 ++ ([(ha, aN (kcI G) 20 h)] ++ ([]))))) _ := kV_wc hV (fun e => by simp only [wc_app]; omega)
                refine kn_iald (G := G) (n := 3) (g := f) (j := 1) hx hb hK hV9 0 rfl (by decide) (by decide) dL_law_233 ?_
                rw [show f 1 = S.1 15 0 from hn1]
                refine lv_iload hx hb dL_law_234 (lv_at hl 2 rfl) ?_
                refine lv_iconst (v := nI 5) hx hb dL_law_236 (by decide) ?_
                refine kn_rem hx hb (by omega) (by omega) (by omega) dL_law_237 ?_
                have hV9 : kV G ([(ha, aN (kcI G) 20 h)] ++ (siteW G T u_26 ++ (siteW G T u_32 ++ ([(na, aN (kcI G) 3 f)] ++ ([]))))) _ := kV_wc hV (fun e => by simp only [wc_app]; omega)
                refine kn_iast (G := G) (n := 20) (g := h) (j := S.1 15 0) (v := (x9 / 32) % 5) hx hb hK hV9 hS 0 rfl (by omega) (by decide) dL_law_238 (fun H locs hV hS => ?_)
                have hV : kV G ([(ha, aN (kcI G) 20 (va_up h (S.1 15 0) ((x9 / 32) % 5)))] ++ (siteW G T u_26 ++ (siteW G T u_32 ++ ([(na, aN (kcI G) 3 f)] ++ ([]))))) _ := hV
                have hV : kV G (siteW G T u_26 ++ (siteW G T u_32 ++ ([(na, aN (kcI G) 3 f)] ++ ([(ha, aN (kcI G) 20 (va_up h (S.1 15 0) ((x9 / 32) % 5)))] ++ ([]))))) _ := kV_wc hV (fun e => by simp only [wc_app]; omega)
                refine W.widen (k := 40 + 6800 * k + 0 + 18 + 700 + 18 + 0) (n := 400 + 90600 * k + 0 + 1772 + 28000 + 1772 + 0) (by omega) (by omega) ?_
                exact k239 (va_up h (S.1 15 0) ((x9 / 32) % 5)) (fun _ => own_new hF9 hw ⟨by omega, by omega⟩ c226) (fun q => absurd q (by omega)) _ _ hV hS ls (lv_sub hl [0, 1, 2, 3, 4, 5, 6, 7, 8, 9, 10, 11] rfl)
        refine lv_iload hx hb dL_law_67 (lv_at hl 1 rfl) ?_
        refine lv_iconst (v := nI 4) hx hb dL_law_69 (by decide) ?_
        refine kn_ge (tgt := 84) hx hb (by omega) (by decide) dL_law_70 (by decide) (fun c70 => ?_) (fun c70 => ?_)
        · refine lv_iload hx hb dL_law_84 (lv_at hl 1 rfl) ?_
          refine lv_bipush (v := nI 10) hx hb dL_law_86 (by decide) ?_
          refine kn_ge (tgt := 104) hx hb (by omega) (by decide) dL_law_88 (by decide) (fun c88 => ?_) (fun c88 => ?_)
          · refine lv_iload hx hb dL_law_104 (lv_at hl 1 rfl) ?_
            refine lv_bipush (v := nI 13) hx hb dL_law_106 (by decide) ?_
            refine kn_ge (tgt := 125) hx hb (by omega) (by decide) dL_law_108 (by decide) (fun c108 => ?_) (fun c108 => ?_)
            · refine lv_iload hx hb dL_law_125 (lv_at hl 1 rfl) ?_
              refine lv_bipush (v := nI 15) hx hb dL_law_127 (by decide) ?_
              refine kn_ge (tgt := 146) hx hb (by omega) (by decide) dL_law_129 (by decide) (fun c129 => ?_) (fun c129 => ?_)
              · refine lv_iload hx hb dL_law_146 (lv_at hl 0 rfl) ?_
                exact k148 u_23 (by omega) _ _ hV hS ls (lv_sub hl [1, 2, 3, 4, 5, 6, 7, 8] rfl)
              · refine lv_iload hx hb dL_law_132 (lv_at hl 0 rfl) ?_
                refine lv_bipush (v := nI 32) hx hb dL_law_134 (by decide) ?_
                refine kn_div hx hb (by omega) (by omega) (by omega) dL_law_136 ?_
                refine lv_bipush (v := nI 32) hx hb dL_law_137 (by decide) ?_
                refine kn_mul hx hb dL_law_139 ?_
                refine lv_bipush (v := nI 20) hx hb dL_law_140 (by decide) ?_
                refine kn_add hx hb dL_law_142 ?_
                refine lv_goto (tgt := 148) hx hb dL_law_143 (by decide) ?_
                exact k148 (((u_23 / 32) * 32) + 20) (by omega) _ _ hV hS ls (lv_sub hl [1, 2, 3, 4, 5, 6, 7, 8] rfl)
            · refine lv_iload hx hb dL_law_111 (lv_at hl 0 rfl) ?_
              refine lv_bipush (v := nI 32) hx hb dL_law_113 (by decide) ?_
              refine kn_div hx hb (by omega) (by omega) (by omega) dL_law_115 ?_
              refine lv_bipush (v := nI 32) hx hb dL_law_116 (by decide) ?_
              refine kn_mul hx hb dL_law_118 ?_
              refine lv_bipush (v := nI 10) hx hb dL_law_119 (by decide) ?_
              refine kn_add hx hb dL_law_121 ?_
              refine lv_goto (tgt := 148) hx hb dL_law_122 (by decide) ?_
              exact k148 (((u_23 / 32) * 32) + 10) (by omega) _ _ hV hS ls (lv_sub hl [1, 2, 3, 4, 5, 6, 7, 8] rfl)
          · refine lv_iload hx hb dL_law_91 (lv_at hl 0 rfl) ?_
            refine lv_bipush (v := nI 32) hx hb dL_law_93 (by decide) ?_
            refine kn_div hx hb (by omega) (by omega) (by omega) dL_law_95 ?_
            refine lv_bipush (v := nI 32) hx hb dL_law_96 (by decide) ?_
            refine kn_mul hx hb dL_law_98 ?_
            refine lv_iconst (v := nI 3) hx hb dL_law_99 (by decide) ?_
            refine kn_add hx hb dL_law_100 ?_
            refine lv_goto (tgt := 148) hx hb dL_law_101 (by decide) ?_
            exact k148 (((u_23 / 32) * 32) + 3) (by omega) _ _ hV hS ls (lv_sub hl [1, 2, 3, 4, 5, 6, 7, 8] rfl)
        · refine lv_iload hx hb dL_law_73 (lv_at hl 0 rfl) ?_
          refine lv_bipush (v := nI 32) hx hb dL_law_75 (by decide) ?_
          refine kn_div hx hb (by omega) (by omega) (by omega) dL_law_77 ?_
          refine lv_bipush (v := nI 32) hx hb dL_law_78 (by decide) ?_
          refine kn_mul hx hb dL_law_80 ?_
          refine lv_goto (tgt := 148) hx hb dL_law_81 (by decide) ?_
          exact k148 ((u_23 / 32) * 32) (by omega) _ _ hV hS ls (lv_sub hl [1, 2, 3, 4, 5, 6, 7, 8] rfl)
  refine W.widen (k := 40 + 6800 * 0) (n := 400 + 90600 * 0) (by omega) (by omega) ?_
  exact k45 ((50 - 0) + 1) 0 S ya yb f h (by omega) hI hm hn hw hY0 hY1 hh0 hh1 (Nat.lt_succ_self _) _ _ hV hS ls (lv_sub hl [0, 1, 2, 3, 4, 5, 6, 7] rfl)
set_option maxHeartbeats 4000000 in
set_option maxRecDepth 100000 in
/-- from the entry, for every script of at most 260 ints, the law comes to its end with true -/
theorem whole_start {p : Program} {e : Env} {s : State} {m : MethodId} {below : List Frame} {meth : Method} {c : Code} (l : Launch) (hflags : l.flags = flags0) {b L : Nat} {xs : Nat → Int32} (hL : L ≤ 260) (C0 : lw_At p s m meth c b L xs) : W p l e room_1 s m #[Value.ref b] below meth c s.heap [] 0 0 (lw_Z below #[Value.ref b] s) (entryFrame m ([Value.ref b] : List Value).toArray 15) := by
  obtain ⟨hx, hb, hrt, hml, hown0, hts, hX, hbl, hlocks, hgv⟩ := id C0
  obtain ⟨G, hB, hE⟩ := kE_start hts hgv
  have hlt : l.stackTraces = false := by
    show (!l.flags.contains noTraceFlag) = false
    rw [hflags]
    decide +kernel
  have htw : ∀ w ∈ wsL_law, w.before #[Value.ref b] s = true := fun w h => hts w (wsL_law_in w h)
  have hown : s.vm.findClass RL = some m.cls := hown0
  have hb : c.code = cL_law := hb
  have hK := hE.1
  have hbA : ¬ kA G b := by
    show ¬ kB G ≤ b
    rw [hB]
    exact Nat.not_le.mpr hbl
  have hB0 := hE.2.1
  have hF : CallFix p m c cL_law 15 s #[Value.ref b] wsL_law RL := ⟨hx, hb, hml, hown, htw⟩
  have hS : va_S (kA G) s.heap s.heap [] := va_S.rf
  have hV : kV G ([] ++ []) s.heap := ⟨fun k q h => by simp at h, fun i j p q h => by simp at h, fun k q h => by simp at h⟩
  have hl := lv_entry ([.ref b]) (n := 15) (Nat.le_of_ble_eq_true rfl)
  rw [lg_entry_eq]
  generalize (lg_sl ([.ref b]) ++ List.replicate (15 - (lg_sl ([.ref b])).length) Slot.unset).toArray = ls at hl ⊢
  have hl : lv_has ls 15 [(0, .ref b)] := hl
  refine kn_new (G := G) (a := []) (wr := []) (ci := 6) (C := RX5) (T := TX5) (N := 5) (fs := [.null, .null, .null, .null, .null]) hx hb hts inX5 tyX5 tyX5_ok hown (hts (Cond.classLink RL 8 RX5) (by decide +kernel)) (hts (Cond.instantiable RX5 5) (by decide +kernel)) (hts (Cond.initialized RX5) (by decide +kernel)) hK hV hS hB0 rfl (fun j hj => by rcases (show j = 0 ∨ j = 1 ∨ j = 2 ∨ j = 3 ∨ j = 4 by omega) with rfl | rfl | rfl | rfl | rfl <;> rfl) (Nat.le_of_ble_eq_true rfl) (Nat.le_of_ble_eq_true rfl) dL_law_0 (fun q1 H hV hS => ?_)
  have hV : kV G ([(q1, .inr (6, [.null, .null, .null, .null, .null]))] ++ ([])) _ := hV
  refine lv_dup hx hb dL_law_3 rfl ?_
  refine kc_v (va_runI (As := []) (rest := [.ref q1]) hF (c_X5_init l G q1 ([])) (cwI 0 htw gL_law_X5_init rfl rfl rfl (hts (Cond.initialized RX5) (by decide +kernel)) (hts (Cond.methodLink RL 138 yX5_init) (by decide +kernel)) (hts (Cond.instanceMethod yX5_init) (by decide +kernel)) rfl (by decide +kernel) ⟨Nat.le_of_ble_eq_true rfl, Nat.le_of_ble_eq_true rfl⟩) (kPreI hE hS hV) rfl rfl hl.1 rfl (lv_room (Nat.le_of_ble_eq_true rfl)) dL_law_4 ⟨Nat.le_of_ble_eq_true rfl, Nat.le_of_ble_eq_true rfl⟩) hS (fun ya H locs hp hV hS => ?_)
  obtain ⟨hYya, hqya⟩ := hp
  refine lv_astore_n (lv' := [(1, .ref q1), (0, .ref b)]) hx hb dL_law_7 rfl hl (by decide) rfl (fun ls hl => ?_)
  have hV : kV G ([] ++ (siteW G S0 ya ++ [])) _ := hV
  refine kn_new (G := G) (a := []) (wr := siteW G S0 ya ++ []) (ci := 6) (C := RX5) (T := TX5) (N := 5) (fs := [.null, .null, .null, .null, .null]) hx hb hts inX5 tyX5 tyX5_ok hown (hts (Cond.classLink RL 8 RX5) (by decide +kernel)) (hts (Cond.instantiable RX5 5) (by decide +kernel)) (hts (Cond.initialized RX5) (by decide +kernel)) hK hV hS hB0 rfl (fun j hj => by rcases (show j = 0 ∨ j = 1 ∨ j = 2 ∨ j = 3 ∨ j = 4 by omega) with rfl | rfl | rfl | rfl | rfl <;> rfl) (Nat.le_of_ble_eq_true rfl) (Nat.le_of_ble_eq_true rfl) dL_law_8 (fun q2 H hV hS => ?_)
  have hV : kV G ([(q2, .inr (6, [.null, .null, .null, .null, .null]))] ++ (siteW G S0 ya ++ [])) _ := hV
  refine lv_dup hx hb dL_law_11 rfl ?_
  refine kc_v (va_runI (As := []) (rest := [.ref q2]) hF (c_X5_init l G q2 (siteW G S0 ya ++ [])) (cwI 0 htw gL_law_X5_init rfl rfl rfl (hts (Cond.initialized RX5) (by decide +kernel)) (hts (Cond.methodLink RL 138 yX5_init) (by decide +kernel)) (hts (Cond.instanceMethod yX5_init) (by decide +kernel)) rfl (by decide +kernel) ⟨Nat.le_of_ble_eq_true rfl, Nat.le_of_ble_eq_true rfl⟩) (kPreI hE hS hV) rfl rfl hl.1 rfl (lv_room (Nat.le_of_ble_eq_true rfl)) dL_law_12 ⟨Nat.le_of_ble_eq_true rfl, Nat.le_of_ble_eq_true rfl⟩) hS (fun yb H locs hp hV hS => ?_)
  obtain ⟨hYyb, hqyb⟩ := hp
  refine lv_astore_n (lv' := [(2, .ref q2), (1, .ref q1), (0, .ref b)]) hx hb dL_law_15 rfl hl (by decide) rfl (fun ls hl => ?_)
  have hV : kV G ([] ++ (siteW G S0 yb ++ (siteW G S0 ya ++ []))) _ := hV
  refine lv_iconst (v := nI 3) hx hb dL_law_16 (by decide) ?_
  refine kn_newI (G := G) (a := []) (wr := siteW G S0 yb ++ (siteW G S0 ya ++ [])) (n := 3) hx hb (hts (Cond.arrayClass .int) (by decide +kernel)) hK hV hS hB0 (by decide) (Nat.le_of_ble_eq_true rfl) (Nat.le_of_ble_eq_true rfl) dL_law_17 (fun q3 H hV hS => ?_)
  refine lv_astore_n (lv' := [(3, .ref q3), (2, .ref q2), (1, .ref q1), (0, .ref b)]) hx hb dL_law_19 rfl hl (by decide) rfl (fun ls hl => ?_)
  have hV : kV G ([] ++ ([(q3, aN (kcI G) 3 (fun _ => 0))] ++ (siteW G S0 yb ++ (siteW G S0 ya ++ [])))) _ := hV
  refine lv_bipush (v := nI 20) hx hb dL_law_20 (by decide) ?_
  refine kn_newI (G := G) (a := []) (wr := [(q3, aN (kcI G) 3 (fun _ => 0))] ++ (siteW G S0 yb ++ (siteW G S0 ya ++ []))) (n := 20) hx hb (hts (Cond.arrayClass .int) (by decide +kernel)) hK hV hS hB0 (by decide) (Nat.le_of_ble_eq_true rfl) (Nat.le_of_ble_eq_true rfl) dL_law_22 (fun q4 H hV hS => ?_)
  refine lv_astore (lv' := [(4, .ref q4), (3, .ref q3), (2, .ref q2), (1, .ref q1), (0, .ref b)]) hx hb dL_law_24 hl (by decide) rfl (fun ls hl => ?_)
  have hV : kV G ([(q4, aN (kcI G) 20 (fun _ => 0))] ++ ([(q3, aN (kcI G) 3 (fun _ => 0))] ++ (siteW G S0 yb ++ (siteW G S0 ya ++ [])))) _ := hV
  have hV2 : kV G (siteW G S0 ya ++ (siteW G S0 yb ++ ([(q3, aN (kcI G) 3 (fun _ => 0))] ++ ([(q4, aN (kcI G) 20 (fun _ => 0))] ++ [])))) _ := kV_wc hV (fun e => by simp only [wc_app]; omega)
  refine W.widen (k := 40) (n := 400) (by decide) (by decide) ?_
  exact lw_body hlt hL hx hb hrt hlocks hml hown htw hX hbl hbA hE hB q1 q2 q3 q4 S0 ya yb (fun _ => 0) (fun _ => 0) kI_S0 (by decide) ⟨rfl, rfl, rfl⟩ (fun a ha => absurd ha (Nat.not_lt_zero _)) hYya hYyb hqya hqyb H _ hV2 hS ls (lv_sub hl [4, 3, 2, 1, 0] rfl)
