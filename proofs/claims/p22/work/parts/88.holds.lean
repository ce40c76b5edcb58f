/-! what 'holds' asks, of the state -/
theorem pYn_in {S : kS} {i r : Nat} (h : okP S i) : 2 ≤ pYn S i r ∧ pYn S i r ≤ 120 := by
  have hw := pW_in h r
  have e := pYn_sum S i r
  constructor
  · have h1 := sumN_le (f := fun c => if pSt S i r c = 1 then 2 else 3) hw.1
    have h2 : sumN (fun c => if pSt S i r c = 1 then 2 else 3) 1 = 0 + (if pSt S i r 0 = 1 then 2 else 3) := rfl
    have h3 : 2 ≤ (if pSt S i r 0 = 1 then 2 else 3) := by split <;> decide
    omega
  · have h1 := sumN_bd (f := fun c => if pSt S i r c = 1 then 2 else 3) (c := 3) (n := pW S i r) (fun k _ => by split <;> decide)
    omega
theorem sumN_lo {f : Nat → Nat} {c : Nat} : ∀ {n : Nat}, (∀ k, k < n → c ≤ f k) → n * c ≤ sumN f n
  | 0, _ => by simp [sumN]
  | n + 1, h => by
    have h1 := sumN_lo (n := n) (fun k hk => h k (by omega))
    have h2 := h n (by omega)
    rw [sumN_s, Nat.succ_mul]; omega
/-- what a pattern needs, in 5ths of its gauge -/
def nd5 (S : kS) (i : Nat) : Nat := sumN (fun r => 5 * pYn S i r) (pRows S i)
theorem nd5_20 (S : kS) (i : Nat) : sumN (fun r => 20 * pYn S i r) (pRows S i) = 4 * nd5 S i := by
  have h1 := sumN_mul (g := 20) (f := fun r => pYn S i r) (n := pRows S i)
  have h2 := sumN_mul (g := 5) (f := fun r => pYn S i r) (n := pRows S i)
  unfold nd5
  omega
theorem nd5_in {S : kS} {i : Nat} (h : okP S i) : 10 * pRows S i ≤ nd5 S i ∧ nd5 S i ≤ 600 * pRows S i := by
  have h1 := sumN_lo (f := fun r => 5 * pYn S i r) (c := 10) (n := pRows S i) (fun k _ => by have := (pYn_in (r := k) h).1; omega)
  have h2 := sumN_bd (f := fun r => 5 * pYn S i r) (c := 600) (n := pRows S i) (fun k _ => by have := (pYn_in (r := k) h).2; omega)
  unfold nd5
  omega
theorem pAl_sym {S : kS} {a b : Nat} (h : pAlike S a b) : pAlike S b a := ⟨h.1.symm, fun r hr c hc => (h.2 r (by rw [h.1]; exact hr) c hc).symm⟩
theorem pAl_tr {S : kS} {a b d : Nat} (h : pAlike S a b) (h2 : pAlike S b d) : pAlike S a d := ⟨h.1.trans h2.1, fun r hr c hc => (h.2 r hr c hc).trans (h2.2 r (by rw [← h.1]; exact hr) c hc)⟩
theorem pAl_rf (S : kS) (a : Nat) : pAlike S a a := ⟨rfl, fun _ _ _ _ => rfl⟩
theorem pOrig_al {S : kS} {p : Nat} : pAlike S (pOrig S p) p := by
  rcases (pOrigN_min (S := S) (p := p) (S.1 1 0)).2.1 with h | h
  · have e : pOrig S p = p := h
    rw [e]; exact pAl_rf S p
  · exact h.2
/-- two published patterns that are alike have one original -/
theorem pOrig_eq {S : kS} (hS : kInv S) {a b : Nat} (ha : a < S.1 1 0) (hb : b < S.1 1 0) (pa : S.1 10 a ≠ 99) (pb : S.1 10 b ≠ 99) (h : pAlike S a b) : pOrig S a = pOrig S b := by
  obtain ⟨a1, a2⟩ := pOrig_pub hS ha pa
  obtain ⟨b1, b2⟩ := pOrig_pub hS hb pb
  have h1 : S.1 10 (pOrig S a) ≤ S.1 10 (pOrig S b) := (pOrigN_min (S := S) (p := a) (S.1 1 0)).2.2 _ b1 (pAl_tr pOrig_al (pAl_sym h))
  have h2 : S.1 10 (pOrig S b) ≤ S.1 10 (pOrig S a) := (pOrigN_min (S := S) (p := b) (S.1 1 0)).2.2 _ a1 (pAl_tr pOrig_al h)
  exact hS.2.2.2.2.2.2.1 _ _ a1 b1 (Nat.le_antisymm h1 h2) a2
theorem pOrig_id {S : kS} (hS : kInv S) {a : Nat} (ha : a < S.1 1 0) (pa : S.1 10 a ≠ 99) : pOrig S (pOrig S a) = pOrig S a := by
  obtain ⟨a1, a2⟩ := pOrig_pub hS ha pa
  exact pOrig_eq hS a1 ha a2 pa pOrig_al
theorem pSt_0 {S : kS} {i r : Nat} (h : okP S i) : 0 < pSt S i r 0 := by
  have := (pW_in h r).1
  unfold pSt stV
  rw [if_neg (by omega)]
  split <;> decide
theorem pSt_over {S : kS} {i r c : Nat} : pSt S i r c = 0 ↔ pW S i r ≤ c := by
  unfold pSt stV
  constructor
  · intro h
    rcases Nat.lt_or_ge c (pW S i r) with q | q
    · rw [if_neg (by omega)] at h
      split at h <;> cases h
    · exact q
  · intro h; rw [if_pos h]
theorem pSt_al {S : kS} {a b r c : Nat} (ha : okP S a) (hb : okP S b) (h : pAlike S a b) (hr : r < pRows S a) : pSt S a r c = pSt S b r c := by
  rcases Nat.lt_or_ge c 40 with q | q
  · exact h.2 r hr c q
  · rw [pSt_over.mpr (Nat.le_trans (pW_in ha r).2 q), pSt_over.mpr (Nat.le_trans (pW_in hb r).2 q)]
/-- the money of the first k -/
def mnyN (m : Nat → Int32) : Nat → Int32
  | 0 => 0
  | k + 1 => mnyN m k + m k
theorem mnyN_5 (m : Nat → Int32) : mnyN m 5 = mny m := by
  show 0 + m 0 + m 1 + m 2 + m 3 + m 4 = _
  unfold mny
  rw [show (0 : Int32) + m 0 = m 0 from by apply Int32.toBitVec.inj; exact BitVec.zero_add _]
theorem i_ne_m1 {n : Nat} (h : n < 2 ^ 31) : nI n ≠ zI (-1) := fun e => by
  have h1 := i_nI h
  rw [e, show (zI (-1)).toInt = -1 from by decide] at h1
  omega
set_option maxHeartbeats 4000000 in
set_option maxRecDepth 100000 in
theorem c_L_holds (l : Launch) (G : kG) (S : kS) (y : kY) (yh : Nat) (f : Nat → Nat) (na : Nat) (wr : va_W) (x : Nat) (hn : nOk S f) (hx9 : x < 2 ^ 31) (hm : mny S.2.2 = 0) (hlt : l.stackTraces = false) (hh : yH y 0 = yh) (hI : kInv S) (hY : yI G S y) : Met l yL_holds wsL_holds ({ frames := 10, cells := 4930, slots := 29100, locals := 178 } : Room) (kPc G [.ref (yh), .ref (na), .int (nI (x))] (siteW G S y ++ ([(na, aN (kcI G) 3 f)] ++ wr))) (kQi G (S := kY) (fun z u => z = nI 1 ∧ yI G S u ∧ yH u 0 = yh) (fun u => siteW G S u ++ ([(na, aN (kcI G) 3 f)] ++ wr))) 4930 29100 (kA G) := by
  refine Met.ofW (cc := cL_holds) (maxL := 12) (ret := (some .boolean)) (by decide) rfl ?_
  intro pp ee s m args below meth cc0 s₁ Bd0 hml hv
  obtain ⟨rfl, hE, hV⟩ := hv
  have hK := hE.1
  have hx := Bd0.exec
  have hb := Bd0.bytes
  have hrt := Bd0.returns
  have hts := atoms_spec (ws := wsL_holds) Bd0.pre
  have hown : s.vm.findClass RL = some m.cls := findClass_of_methodNamed Bd0.named
  have hlocks := Bd0.notSynchronized
  have hF : CallFix pp m cc0 cL_holds 12 s _ wsL_holds RL := ⟨hx, hb, hml, hown, hts⟩
  have hS : va_S (kA G) s.heap s.heap [] := va_S.rf
  have hB0 := hE.2.1
  have hl := lv_entry ([.ref (yh), .ref (na), .int (nI (x))]) (n := 12) (Nat.le_of_ble_eq_true rfl)
  rw [lg_entry_eq]
  generalize (lg_sl ([.ref (yh), .ref (na), .int (nI (x))]) ++ List.replicate (12 - (lg_sl ([.ref (yh), .ref (na), .int (nI (x))])).length) Slot.unset).toArray = ls at hl ⊢
  have hl : lv_has ls 12 [(0, .ref (yh)), (1, .ref (na)), (2, .int (nI (x)))] := hl
  obtain ⟨⟨hn16, hl20, hp12, -⟩, hpat, -, hlots, -⟩ := id hI
  obtain ⟨hn0, hn1, hn2⟩ := id hn
  refine lv_iconst (v := nI 0) hx hb dL_holds_0 (by decide) ?_
  refine lv_istore_n (lv' := [(3, .int (nI (0))), (0, .ref (yh)), (1, .ref (na)), (2, .int (nI (x)))]) hx hb dL_holds_1 rfl hl (by decide) rfl (fun ls hl => ?_)
  refine lv_iconst (v := nI 1) hx hb dL_holds_2 (by decide) ?_
  refine lv_istore (lv' := [(4, .int (nI (1))), (3, .int (nI (0))), (0, .ref (yh)), (1, .ref (na)), (2, .int (nI (x)))]) hx hb dL_holds_3 hl (by decide) rfl (fun ls hl => ?_)
  have hl : lv_has ls 12 [(4, .int (nI (1))), (3, .int (mnyN S.2.2 0)), (0, .ref (yh)), (1, .ref (na)), (2, .int (nI (x)))] := hl
  refine lv_iconst (v := nI 0) hx hb dL_holds_5 (by decide) ?_
  refine lv_istore (lv' := [(5, .int (nI (0))), (4, .int (nI (1))), (3, .int (mnyN S.2.2 0)), (0, .ref (yh)), (1, .ref (na)), (2, .int (nI (x)))]) hx hb dL_holds_6 hl (by decide) rfl (fun ls hl => ?_)
  have k8 : ∀ (nk8 : Nat) (k : Nat) (y8a : kY) (hk : k ≤ 5) (hY : yI G S y8a) (hh : yH y8a 0 = yh) (hmk8 : 5 - k < nk8) (H : Heap) (locs : List Loc), kV G (siteW G S y8a ++ ([(na, aN (kcI G) 3 f)] ++ wr)) H → va_S (kA G) s.heap H locs → ∀ (ls : Array Slot), lv_has ls 12 [(5, .int (nI (k))), (4, .int (nI (1))), (3, .int (mnyN S.2.2 k)), (0, .ref (yh)), (1, .ref (na)), (2, .int (nI (x)))] → W pp l ee (headSpec wsL_holds ({ frames := 10, cells := 4930, slots := 29100, locals := 178 } : Room)).room s m [.ref (yh), .ref (na), .int (nI (x))].toArray below meth cc0 H locs (k) (6 * k) (MQ below (kQi G (S := kY) (fun z u => z = nI 1 ∧ yI G S u ∧ yH u 0 = yh) (fun u => siteW G S u ++ ([(na, aN (kcI G) 3 f)] ++ wr))) [.ref (yh), .ref (na), .int (nI (x))].toArray s 4930 29100 (kA G)) (F0 m 8 ls []) := by
    intro nk8
    induction nk8 with
    | zero => intro k y8a hk hY hh hmk8; exact absurd hmk8 (Nat.not_lt_zero _)
    | succ nk8 ihk8 =>
      intro k y8a hk hY hh hmk8 H locs hV hS ls hl
      refine lv_iload hx hb dL_holds_8 (lv_at hl 0 rfl) ?_
      refine lv_iconst (v := nI 5) hx hb dL_holds_10 (by decide) ?_
      refine kn_ge (tgt := 29) hx hb (by omega) (by decide) dL_holds_11 (by decide) (fun c11 => ?_) (fun c11 => ?_)
      · have hk9 : k = 5 := by omega
        subst hk9
        refine W.widen (k := 5) (n := 30) (by omega) (by omega) ?_
        refine lv_iconst (v := nI 0) hx hb dL_holds_29 (by decide) ?_
        refine lv_istore (lv' := [(5, .int (nI (0))), (4, .int (nI (1))), (3, .int (mnyN S.2.2 5)), (0, .ref (yh)), (1, .ref (na)), (2, .int (nI (x)))]) hx hb dL_holds_30 hl (by decide) rfl (fun ls hl => ?_)
        have k32 : ∀ (nk32 : Nat) (k2 : Nat) (y32a : kY) (hk2 : k2 ≤ S.1 1 0) (hY : yI G S y32a) (hh : yH y32a 0 = yh) (hmk32 : S.1 1 0 - k2 < nk32) (H : Heap) (locs : List Loc), kV G (siteW G S y32a ++ ([(na, aN (kcI G) 3 f)] ++ wr)) H → va_S (kA G) s.heap H locs → ∀ (ls : Array Slot), lv_has ls 12 [(5, .int (nI (k2))), (4, .int (nI (1))), (3, .int (mnyN S.2.2 5)), (0, .ref (yh)), (1, .ref (na)), (2, .int (nI (x)))] → W pp l ee (headSpec wsL_holds ({ frames := 10, cells := 4930, slots := 29100, locals := 178 } : Room)).room s m [.ref (yh), .ref (na), .int (nI (x))].toArray below meth cc0 H locs (10 + 300 * k2) (60 + 1800 * k2) (MQ below (kQi G (S := kY) (fun z u => z = nI 1 ∧ yI G S u ∧ yH u 0 = yh) (fun u => siteW G S u ++ ([(na, aN (kcI G) 3 f)] ++ wr))) [.ref (yh), .ref (na), .int (nI (x))].toArray s 4930 29100 (kA G)) (F0 m 32 ls []) := by
          intro nk32
          induction nk32 with
          | zero => intro k2 y32a hk2 hY hh hmk32; exact absurd hmk32 (Nat.not_lt_zero _)
          | succ nk32 ihk32 =>
            intro k2 y32a hk2 hY hh hmk32 H locs hV hS ls hl
            refine lv_iload hx hb dL_holds_32 (lv_at hl 0 rfl) ?_
            refine lv_aload_n hx hb dL_holds_34 rfl (lv_at hl 4 rfl) ?_
            refine lv_iconst (v := nI 0) hx hb dL_holds_35 (by decide) ?_
            have hV9 : kV G ([(na, aN (kcI G) 3 f)] ++ (siteW G S y32a ++ (wr))) _ := kV_wc hV (fun e => by simp only [wc_app]; omega)
            refine kn_iald (G := G) (n := 3) (g := f) (j := 0) hx hb hK hV9 0 rfl (by decide) (by decide) dL_holds_36 ?_
            rw [show f 0 = S.1 1 0 from hn0]
            refine kn_ge (tgt := 357) hx hb (by omega) (by omega) dL_holds_37 (by decide) (fun c37 => ?_) (fun c37 => ?_)
            · refine lv_iconst (v := nI 0) hx hb dL_holds_357 (by decide) ?_
              refine lv_istore (lv' := [(5, .int (nI (0))), (4, .int (nI (1))), (3, .int (mnyN S.2.2 5)), (0, .ref (yh)), (1, .ref (na)), (2, .int (nI (x)))]) hx hb dL_holds_358 hl (by decide) rfl (fun ls hl => ?_)
              have k360 : ∀ (nk360 : Nat) (k3 : Nat) (y360a : kY) (hk3 : k3 ≤ S.1 15 0) (hY : yI G S y360a) (hh : yH y360a 0 = yh) (hmk360 : S.1 15 0 - k3 < nk360) (H : Heap) (locs : List Loc), kV G (siteW G S y360a ++ ([(na, aN (kcI G) 3 f)] ++ wr)) H → va_S (kA G) s.heap H locs → ∀ (ls : Array Slot), lv_has ls 12 [(5, .int (nI (k3))), (4, .int (nI (1))), (3, .int (mnyN S.2.2 5)), (0, .ref (yh)), (1, .ref (na)), (2, .int (nI (x)))] → W pp l ee (headSpec wsL_holds ({ frames := 10, cells := 4930, slots := 29100, locals := 178 } : Room)).room s m [.ref (yh), .ref (na), .int (nI (x))].toArray below meth cc0 H locs (4900 + k3) (28900 + 6 * k3) (MQ below (kQi G (S := kY) (fun z u => z = nI 1 ∧ yI G S u ∧ yH u 0 = yh) (fun u => siteW G S u ++ ([(na, aN (kcI G) 3 f)] ++ wr))) [.ref (yh), .ref (na), .int (nI (x))].toArray s 4930 29100 (kA G)) (F0 m 360 ls []) := by
                intro nk360
                induction nk360 with
                | zero => intro k3 y360a hk3 hY hh hmk360; exact absurd hmk360 (Nat.not_lt_zero _)
                | succ nk360 ihk360 =>
                  intro k3 y360a hk3 hY hh hmk360 H locs hV hS ls hl
                  refine lv_iload hx hb dL_holds_360 (lv_at hl 0 rfl) ?_
                  refine lv_aload_n hx hb dL_holds_362 rfl (lv_at hl 4 rfl) ?_
                  refine lv_iconst (v := nI 1) hx hb dL_holds_363 (by decide) ?_
                  have hV9 : kV G ([(na, aN (kcI G) 3 f)] ++ (siteW G S y360a ++ (wr))) _ := kV_wc hV (fun e => by simp only [wc_app]; omega)
                  refine kn_iald (G := G) (n := 3) (g := f) (j := 1) hx hb hK hV9 0 rfl (by decide) (by decide) dL_holds_364 ?_
                  rw [show f 1 = S.1 15 0 from hn1]
                  refine kn_ge (tgt := 395) hx hb (by omega) (by omega) dL_holds_365 (by decide) (fun c365 => ?_) (fun c365 => ?_)
                  · refine lv_iload hx hb dL_holds_395 (lv_at hl 1 rfl) ?_
                    refine kn_if_eq_not hx hb (by decide) dL_holds_397 ?_ 408 (by decide)
                    refine lv_iload_n hx hb dL_holds_400 rfl (lv_at hl 2 rfl) ?_
                    refine lv_if_ne (tgt := 408) hx hb dL_holds_401 (by decide) (fun z => absurd (by rw [mnyN_5]; exact hm) z) (fun c401 => ?_)
                    refine lv_iconst (v := nI 1) hx hb dL_holds_404 (by decide) ?_
                    refine lv_goto (tgt := 409) hx hb dL_holds_405 (by decide) ?_
                    refine W.widen (k := 4930) (n := 29100) (by omega) (by omega) ?_
                    exact W.zret (v := nI 1) hx hb hrt (by decide) (fun t ht hW => ⟨⟨_, y360a, rfl, ⟨rfl, hY, hh⟩, kV_eq ht hV⟩, hS.F ht⟩) hS.2.2 dL_holds_409
                  · refine lv_iload hx hb dL_holds_368 (lv_at hl 1 rfl) ?_
                    refine kn_if_eq_not hx hb (by decide) dL_holds_370 ?_ 395 (by decide)
                    have h18 := (hlots k3 c365).2.2.2
                    refine lv_aload_n hx hb dL_holds_373 rfl (lv_at hl 3 rfl) ?_
                    refine lv_iload hx hb dL_holds_374 (lv_at hl 0 rfl) ?_
                    refine kc_i (vx_runSW (As := [.ref (yh), .int (nI (k3))]) (rest := []) hF (c_L_left l G S y360a yh ([(na, aN (kcI G) 3 f)] ++ wr) (nI k3) ((0, (nI (S.1 18 k3)), S)) (ok_left hl20 c365) hlt hh hI hY) (vx_cwSW 2 hts gL_holds_L_left rfl rfl rfl (by decide +kernel) ⟨Nat.le_of_ble_eq_true rfl, Nat.le_of_ble_eq_true rfl⟩) (kPreS hE hS hV) rfl rfl hl.1 rfl (lv_room (Nat.le_of_ble_eq_true rfl)) dL_holds_376 ⟨(show 4900 + k3 + 1 ≤ 4930 by omega), (show 28900 + 6 * k3 + 6 ≤ 29100 by omega)⟩) hS (fun r_3 u_2 H locs hp_1 hV hS => ?_)
                    obtain ⟨hp_10, hY, hh⟩ := hp_1
                    have hY : yI G S u_2 := hY
                    have hp_10 : (nI (S.1 18 k3)) = r_3 := (hp_10.trans (vI_0 ((nI (S.1 18 k3))) S)).symm
                    subst hp_10
                    have hV : kV G (siteW G S u_2 ++ ([(na, aN (kcI G) 3 f)] ++ wr)) _ := hV
                    refine lv_if_lt (tgt := 386) hx hb dL_holds_379 (by decide) (fun z => absurd z (nI_pos (by omega))) (fun _ => ?_)
                    refine lv_iconst (v := nI 1) hx hb dL_holds_382 (by decide) ?_
                    refine lv_goto (tgt := 387) hx hb dL_holds_383 (by decide) ?_
                    refine lv_istore (lv' := [(4, .int (nI (1))), (5, .int (nI (k3))), (3, .int (mnyN S.2.2 5)), (0, .ref (yh)), (1, .ref (na)), (2, .int (nI (x)))]) hx hb dL_holds_387 hl (by decide) rfl (fun ls hl => ?_)
                    refine lv_iinc (lv' := [(5, .int (nI (k3 + 1))), (4, .int (nI (1))), (3, .int (mnyN S.2.2 5)), (0, .ref (yh)), (1, .ref (na)), (2, .int (nI (x)))]) hx hb dL_holds_389 hl (k := 1) rfl (kn_iinc k3 1) (by decide) rfl (fun ls hl => ?_)
                    refine lv_goto (tgt := 360) hx hb dL_holds_392 (by decide) ?_
                    refine W.widen (k := 4900 + (k3 + 1)) (n := 28900 + 6 * (k3 + 1)) (by omega) (by omega) ?_
                    exact ihk360 (k3 + 1) u_2 (by omega) hY hh (by omega) _ _ hV hS ls (lv_sub hl [0, 1, 2, 3, 4, 5] rfl)
              refine W.widen (k := 4900 + 0) (n := 28900 + 6 * 0) (by omega) (by omega) ?_
              exact k360 ((S.1 15 0 - 0) + 1) 0 y32a (by omega) hY hh (Nat.lt_succ_self _) _ _ hV hS ls (lv_sub hl [0, 1, 2, 3, 4, 5] rfl)
            · refine lv_iload hx hb dL_holds_40 (lv_at hl 1 rfl) ?_
              refine kn_if_eq_not hx hb (by decide) dL_holds_42 ?_ 357 (by decide)
              have hok := (hpat k2 c37).1
              have hr40 : pRows S k2 ≤ 40 := hok.2.2.2.1
              have hnd := nd5_in hok
              refine lv_aload_n hx hb dL_holds_45 rfl (lv_at hl 3 rfl) ?_
              refine lv_iload hx hb dL_holds_46 (lv_at hl 0 rfl) ?_
              refine kc_i (vx_runSW (As := [.ref (yh), .int (nI (k2))]) (rest := []) hF (c_L_rows l G S y32a yh ([(na, aN (kcI G) 3 f)] ++ wr) (nI k2) ((0, (nI (pRows S k2)), S)) (ok_rows hn16 c37) hlt hh hI hY) (vx_cwSW 2 hts gL_holds_L_rows rfl rfl rfl (by decide +kernel) ⟨Nat.le_of_ble_eq_true rfl, Nat.le_of_ble_eq_true rfl⟩) (kPreS hE hS hV) rfl rfl hl.1 rfl (lv_room (Nat.le_of_ble_eq_true rfl)) dL_holds_48 ⟨(show 10 + 300 * k2 + 1 ≤ 4930 by omega), (show 60 + 1800 * k2 + 6 ≤ 29100 by omega)⟩) hS (fun r_6 u_5 H locs hp_4 hV hS => ?_)
              obtain ⟨hp_40, hY, hh⟩ := hp_4
              have hY : yI G S u_5 := hY
              have hp_40 : (nI (pRows S k2)) = r_6 := (hp_40.trans (vI_0 ((nI (pRows S k2))) S)).symm
              subst hp_40
              have hV : kV G (siteW G S u_5 ++ ([(na, aN (kcI G) 3 f)] ++ wr)) _ := hV
              refine lv_istore (lv' := [(6, .int (nI (pRows S k2))), (5, .int (nI (k2))), (4, .int (nI (1))), (3, .int (mnyN S.2.2 5)), (0, .ref (yh)), (1, .ref (na)), (2, .int (nI (x)))]) hx hb dL_holds_51 hl (by decide) rfl (fun ls hl => ?_)
              by_cases hu : S.1 10 k2 = 99
              · refine lv_aload_n hx hb dL_holds_53 rfl (lv_at hl 4 rfl) ?_
                refine lv_iload hx hb dL_holds_54 (lv_at hl 1 rfl) ?_
                refine kc_i (vx_runSW (As := [.ref (yh), .int (nI (k2))]) (rest := []) hF (c_L_original l G S u_5 yh ([(na, aN (kcI G) 3 f)] ++ wr) (nI k2) ((0, (zI (-1)), S)) (ok_orig0 hn16 c37 hu) hlt hh hI hY) (vx_cwSW 2 hts gL_holds_L_original rfl rfl rfl (by decide +kernel) ⟨Nat.le_of_ble_eq_true rfl, Nat.le_of_ble_eq_true rfl⟩) (kPreS hE hS hV) rfl rfl hl.1 rfl (lv_room (Nat.le_of_ble_eq_true rfl)) dL_holds_56 ⟨(show 10 + 300 * k2 + 1 + 1 ≤ 4930 by omega), (show 60 + 1800 * k2 + 6 + 6 ≤ 29100 by omega)⟩) hS (fun r_9 u_8 H locs hp_7 hV hS => ?_)
                obtain ⟨hp_70, hY, hh⟩ := hp_7
                have hY : yI G S u_8 := hY
                have hp_70 : (zI (-1)) = r_9 := (hp_70.trans (vI_0 ((zI (-1))) S)).symm
                subst hp_70
                have hV : kV G (siteW G S u_8 ++ ([(na, aN (kcI G) 3 f)] ++ wr)) _ := hV
                refine lv_istore (lv' := [(7, .int (zI (-1))), (6, .int (nI (pRows S k2))), (5, .int (nI (k2))), (4, .int (nI (1))), (3, .int (mnyN S.2.2 5)), (0, .ref (yh)), (1, .ref (na)), (2, .int (nI (x)))]) hx hb dL_holds_59 hl (by decide) rfl (fun ls hl => ?_)
                refine lv_iload hx hb dL_holds_61 (lv_at hl 1 rfl) ?_
                refine lv_if_lt (tgt := 156) hx hb dL_holds_63 (by decide) (fun z => absurd z (nI_pos (by omega))) (fun _ => ?_)
                refine lv_iload hx hb dL_holds_66 (lv_at hl 1 rfl) ?_
                refine lv_bipush (v := nI 40) hx hb dL_holds_68 (by decide) ?_
                refine kn_gt (tgt := 156) hx hb (by omega) (by decide) dL_holds_70 (by decide) (fun z => absurd z (by omega)) (fun c70 => ?_)
                refine lv_iload hx hb dL_holds_73 (lv_at hl 0 rfl) ?_
                refine lv_iconst (v := zI (-1)) hx hb dL_holds_75 (by decide) ?_
                refine lv_icmp_eq (tgt := 101) hx hb dL_holds_76 (by decide) (fun c76 => ?_) (fun z => absurd rfl z)
                refine lv_aload_n hx hb dL_holds_101 rfl (lv_at hl 5 rfl) ?_
                refine lv_iload hx hb dL_holds_102 (lv_at hl 2 rfl) ?_
                refine lv_bipush (v := nI 20) hx hb dL_holds_104 (by decide) ?_
                refine kc_i (vx_runSW (As := [.ref (yh), .int (nI (k2)), .int (nI (20))]) (rest := []) hF (c_L_need l G S u_8 yh ([(na, aN (kcI G) 3 f)] ++ wr) (nI k2) (nI 20) ((0, (nI (4 * (nd5 S k2))), S)) (by rw [ok_need hn16 c37 ⟨by decide, by decide⟩, nd5_20]) hlt hh hI hY) (vx_cwSW 3 hts gL_holds_L_need rfl rfl rfl (by decide +kernel) ⟨Nat.le_of_ble_eq_true rfl, Nat.le_of_ble_eq_true rfl⟩) (kPreS hE hS hV) rfl rfl hl.1 rfl (lv_room (Nat.le_of_ble_eq_true rfl)) dL_holds_106 ⟨(show 10 + 300 * k2 + 1 + 1 + 2 ≤ 4930 by omega), (show 60 + 1800 * k2 + 6 + 6 + 12 ≤ 29100 by omega)⟩) hS (fun r_12 u_11 H locs hp_10 hV hS => ?_)
                obtain ⟨hp_100, hY, hh⟩ := hp_10
                have hY : yI G S u_11 := hY
                have hp_100 : (nI (4 * (nd5 S k2))) = r_12 := (hp_100.trans (vIA_0 ((nI (4 * (nd5 S k2)))) S)).symm
                subst hp_100
                have hV : kV G (siteW G S u_11 ++ ([(na, aN (kcI G) 3 f)] ++ wr)) _ := hV
                refine lv_iconst (v := nI 4) hx hb dL_holds_109 (by decide) ?_
                refine lv_aload_n hx hb dL_holds_110 rfl (lv_at hl 5 rfl) ?_
                refine lv_iload hx hb dL_holds_111 (lv_at hl 2 rfl) ?_
                refine lv_iconst (v := nI 5) hx hb dL_holds_113 (by decide) ?_
                refine kc_i (vx_runSW (As := [.ref (yh), .int (nI (k2)), .int (nI (5))]) (rest := [.int (nI (4)), .int (nI (4 * (nd5 S k2)))]) hF (c_L_need l G S u_11 yh ([(na, aN (kcI G) 3 f)] ++ wr) (nI k2) (nI 5) ((0, (nI (nd5 S k2)), S)) (ok_need hn16 c37 ⟨by decide, by decide⟩) hlt hh hI hY) (vx_cwSW 3 hts gL_holds_L_need rfl rfl rfl (by decide +kernel) ⟨Nat.le_of_ble_eq_true rfl, Nat.le_of_ble_eq_true rfl⟩) (kPreS hE hS hV) rfl rfl hl.1 rfl (lv_room (Nat.le_of_ble_eq_true rfl)) dL_holds_114 ⟨(show 10 + 300 * k2 + 1 + 1 + 2 + 2 ≤ 4930 by omega), (show 60 + 1800 * k2 + 6 + 6 + 12 + 12 ≤ 29100 by omega)⟩) hS (fun r_15 u_14 H locs hp_13 hV hS => ?_)
                obtain ⟨hp_130, hY, hh⟩ := hp_13
                have hY : yI G S u_14 := hY
                have hp_130 : (nI (nd5 S k2)) = r_15 := (hp_130.trans (vIA_0 ((nI (nd5 S k2))) S)).symm
                subst hp_130
                have hV : kV G (siteW G S u_14 ++ ([(na, aN (kcI G) 3 f)] ++ wr)) _ := hV
                refine kn_mul hx hb dL_holds_117 ?_
                refine lv_icmp_ne (tgt := 156) hx hb dL_holds_118 (by decide) (fun z => absurd rfl z) (fun _ => ?_)
                refine lv_aload_n hx hb dL_holds_121 rfl (lv_at hl 5 rfl) ?_
                refine lv_iload hx hb dL_holds_122 (lv_at hl 2 rfl) ?_
                refine lv_iconst (v := nI 5) hx hb dL_holds_124 (by decide) ?_
                refine kc_i (vx_runSW (As := [.ref (yh), .int (nI (k2)), .int (nI (5))]) (rest := []) hF (c_L_need l G S u_14 yh ([(na, aN (kcI G) 3 f)] ++ wr) (nI k2) (nI 5) ((0, (nI (nd5 S k2)), S)) (ok_need hn16 c37 ⟨by decide, by decide⟩) hlt hh hI hY) (vx_cwSW 3 hts gL_holds_L_need rfl rfl rfl (by decide +kernel) ⟨Nat.le_of_ble_eq_true rfl, Nat.le_of_ble_eq_true rfl⟩) (kPreS hE hS hV) rfl rfl hl.1 rfl (lv_room (Nat.le_of_ble_eq_true rfl)) dL_holds_125 ⟨(show 10 + 300 * k2 + 1 + 1 + 2 + 2 + 2 ≤ 4930 by omega), (show 60 + 1800 * k2 + 6 + 6 + 12 + 12 + 12 ≤ 29100 by omega)⟩) hS (fun r_18 u_17 H locs hp_16 hV hS => ?_)
                obtain ⟨hp_160, hY, hh⟩ := hp_16
                have hY : yI G S u_17 := hY
                have hp_160 : (nI (nd5 S k2)) = r_18 := (hp_160.trans (vIA_0 ((nI (nd5 S k2))) S)).symm
                subst hp_160
                have hV : kV G (siteW G S u_17 ++ ([(na, aN (kcI G) 3 f)] ++ wr)) _ := hV
                refine lv_bipush (v := nI 10) hx hb dL_holds_128 (by decide) ?_
                refine lv_iload hx hb dL_holds_130 (lv_at hl 1 rfl) ?_
                refine kn_mul hx hb dL_holds_132 ?_
                refine kn_lt (tgt := 156) hx hb (by omega) (by omega) dL_holds_133 (by decide) (fun z => absurd z (by omega)) (fun c133 => ?_)
                refine lv_aload_n hx hb dL_holds_136 rfl (lv_at hl 5 rfl) ?_
                refine lv_iload hx hb dL_holds_137 (lv_at hl 2 rfl) ?_
                refine lv_iconst (v := nI 5) hx hb dL_holds_139 (by decide) ?_
                refine kc_i (vx_runSW (As := [.ref (yh), .int (nI (k2)), .int (nI (5))]) (rest := []) hF (c_L_need l G S u_17 yh ([(na, aN (kcI G) 3 f)] ++ wr) (nI k2) (nI 5) ((0, (nI (nd5 S k2)), S)) (ok_need hn16 c37 ⟨by decide, by decide⟩) hlt hh hI hY) (vx_cwSW 3 hts gL_holds_L_need rfl rfl rfl (by decide +kernel) ⟨Nat.le_of_ble_eq_true rfl, Nat.le_of_ble_eq_true rfl⟩) (kPreS hE hS hV) rfl rfl hl.1 rfl (lv_room (Nat.le_of_ble_eq_true rfl)) dL_holds_140 ⟨(show 10 + 300 * k2 + 1 + 1 + 2 + 2 + 2 + 2 ≤ 4930 by omega), (show 60 + 1800 * k2 + 6 + 6 + 12 + 12 + 12 + 12 ≤ 29100 by omega)⟩) hS (fun r_21 u_20 H locs hp_19 hV hS => ?_)
                obtain ⟨hp_190, hY, hh⟩ := hp_19
                have hY : yI G S u_20 := hY
                have hp_190 : (nI (nd5 S k2)) = r_21 := (hp_190.trans (vIA_0 ((nI (nd5 S k2))) S)).symm
                subst hp_190
                have hV : kV G (siteW G S u_20 ++ ([(na, aN (kcI G) 3 f)] ++ wr)) _ := hV
                refine lv_sipush (v := nI 600) hx hb dL_holds_143 (by decide) ?_
                refine lv_iload hx hb dL_holds_146 (lv_at hl 1 rfl) ?_
                refine kn_mul hx hb dL_holds_148 ?_
                refine kn_gt (tgt := 156) hx hb (by omega) (by omega) dL_holds_149 (by decide) (fun z => absurd z (by omega)) (fun c149 => ?_)
                refine lv_iconst (v := nI 1) hx hb dL_holds_152 (by decide) ?_
                refine lv_goto (tgt := 157) hx hb dL_holds_153 (by decide) ?_
                refine lv_istore (lv' := [(4, .int (nI (1))), (7, .int (zI (-1))), (6, .int (nI (pRows S k2))), (5, .int (nI (k2))), (3, .int (mnyN S.2.2 5)), (0, .ref (yh)), (1, .ref (na)), (2, .int (nI (x)))]) hx hb dL_holds_157 hl (by decide) rfl (fun ls hl => ?_)
                have k172 : ∀ (ro : Nat) (hro : 0 < pRows S k2 → ro < pRows S k2) (H : Heap) (locs : List Loc), kV G (siteW G S u_20 ++ ([(na, aN (kcI G) 3 f)] ++ wr)) H → va_S (kA G) s.heap H locs → ∀ (ls : Array Slot), lv_has ls 12 [(4, .int (nI (1))), (7, .int (zI (-1))), (6, .int (nI (pRows S k2))), (5, .int (nI (k2))), (3, .int (mnyN S.2.2 5)), (0, .ref (yh)), (1, .ref (na)), (2, .int (nI (x)))] → W pp l ee (headSpec wsL_holds ({ frames := 10, cells := 4930, slots := 29100, locals := 178 } : Room)).room s m [.ref (yh), .ref (na), .int (nI (x))].toArray below meth cc0 H locs (10 + 300 * k2 + 1 + 1 + 2 + 2 + 2 + 2) (60 + 1800 * k2 + 6 + 6 + 12 + 12 + 12 + 12) (MQ below (kQi G (S := kY) (fun z u => z = nI 1 ∧ yI G S u ∧ yH u 0 = yh) (fun u => siteW G S u ++ ([(na, aN (kcI G) 3 f)] ++ wr))) [.ref (yh), .ref (na), .int (nI (x))].toArray s 4930 29100 (kA G)) (F0 m 172 ls [.int (nI (ro))]) := by
                  intro ro hro H locs hV hS ls hl
                  refine lv_istore (lv' := [(8, .int (nI (ro))), (4, .int (nI (1))), (7, .int (zI (-1))), (6, .int (nI (pRows S k2))), (5, .int (nI (k2))), (3, .int (mnyN S.2.2 5)), (0, .ref (yh)), (1, .ref (na)), (2, .int (nI (x)))]) hx hb dL_holds_172 hl (by decide) rfl (fun ls hl => ?_)
                  have k184 : ∀ (ov : Nat) (hov : ov ≤ 1) (hovi : 0 < pRows S k2 → ov = 0) (hov0 : pRows S k2 = 0 → ov = 1) (H : Heap) (locs : List Loc), kV G (siteW G S u_20 ++ ([(na, aN (kcI G) 3 f)] ++ wr)) H → va_S (kA G) s.heap H locs → ∀ (ls : Array Slot), lv_has ls 12 [(8, .int (nI (ro))), (4, .int (nI (1))), (7, .int (zI (-1))), (6, .int (nI (pRows S k2))), (5, .int (nI (k2))), (3, .int (mnyN S.2.2 5)), (0, .ref (yh)), (1, .ref (na)), (2, .int (nI (x)))] → W pp l ee (headSpec wsL_holds ({ frames := 10, cells := 4930, slots := 29100, locals := 178 } : Room)).room s m [.ref (yh), .ref (na), .int (nI (x))].toArray below meth cc0 H locs (10 + 300 * k2 + 1 + 1 + 2 + 2 + 2 + 2) (60 + 1800 * k2 + 6 + 6 + 12 + 12 + 12 + 12) (MQ below (kQi G (S := kY) (fun z u => z = nI 1 ∧ yI G S u ∧ yH u 0 = yh) (fun u => siteW G S u ++ ([(na, aN (kcI G) 3 f)] ++ wr))) [.ref (yh), .ref (na), .int (nI (x))].toArray s 4930 29100 (kA G)) (F0 m 184 ls [.int (nI (ov))]) := by
                    intro ov hov hovi hov0 H locs hV hS ls hl
                    refine lv_istore (lv' := [(9, .int (nI (ov))), (8, .int (nI (ro))), (4, .int (nI (1))), (7, .int (zI (-1))), (6, .int (nI (pRows S k2))), (5, .int (nI (k2))), (3, .int (mnyN S.2.2 5)), (0, .ref (yh)), (1, .ref (na)), (2, .int (nI (x)))]) hx hb dL_holds_184 hl (by decide) rfl (fun ls hl => ?_)
                    refine lv_iconst (v := nI 0) hx hb dL_holds_186 (by decide) ?_
                    refine lv_istore (lv' := [(10, .int (nI (0))), (9, .int (nI (ov))), (8, .int (nI (ro))), (4, .int (nI (1))), (7, .int (zI (-1))), (6, .int (nI (pRows S k2))), (5, .int (nI (k2))), (3, .int (mnyN S.2.2 5)), (0, .ref (yh)), (1, .ref (na)), (2, .int (nI (x)))]) hx hb dL_holds_187 hl (by decide) rfl (fun ls hl => ?_)
                    have k189 : ∀ (nk189 : Nat) (pl : Nat) (y189a : kY) (ov2 : Nat) (hpl : pl ≤ 41) (hY : yI G S y189a) (hh : yH y189a 0 = yh) (hov : ov2 ≤ 1) (hovi : 0 < pRows S k2 → (ov2 = 1 ↔ pW S k2 ro < pl)) (hov0 : pRows S k2 = 0 → ov2 = 1) (hmk189 : 41 - pl < nk189) (H : Heap) (locs : List Loc), kV G (siteW G S y189a ++ ([(na, aN (kcI G) 3 f)] ++ wr)) H → va_S (kA G) s.heap H locs → ∀ (ls : Array Slot), lv_has ls 12 [(10, .int (nI (pl))), (9, .int (nI (ov2))), (8, .int (nI (ro))), (4, .int (nI (1))), (7, .int (zI (-1))), (6, .int (nI (pRows S k2))), (5, .int (nI (k2))), (3, .int (mnyN S.2.2 5)), (0, .ref (yh)), (1, .ref (na)), (2, .int (nI (x)))] → W pp l ee (headSpec wsL_holds ({ frames := 10, cells := 4930, slots := 29100, locals := 178 } : Room)).room s m [.ref (yh), .ref (na), .int (nI (x))].toArray below meth cc0 H locs (30 + 300 * k2 + 6 * pl) (200 + 1800 * k2 + 36 * pl) (MQ below (kQi G (S := kY) (fun z u => z = nI 1 ∧ yI G S u ∧ yH u 0 = yh) (fun u => siteW G S u ++ ([(na, aN (kcI G) 3 f)] ++ wr))) [.ref (yh), .ref (na), .int (nI (x))].toArray s 4930 29100 (kA G)) (F0 m 189 ls []) := by
                      intro nk189
                      induction nk189 with
                      | zero => intro pl y189a ov2 hpl hY hh hov hovi hov0 hmk189; exact absurd hmk189 (Nat.not_lt_zero _)
                      | succ nk189 ihk189 =>
                        intro pl y189a ov2 hpl hY hh hov hovi hov0 hmk189 H locs hV hS ls hl
                        refine lv_iload hx hb dL_holds_189 (lv_at hl 0 rfl) ?_
                        refine lv_bipush (v := nI 41) hx hb dL_holds_191 (by decide) ?_
                        refine kn_ge (tgt := 334) hx hb (by omega) (by decide) dL_holds_193 (by decide) (fun c193 => ?_) (fun c193 => ?_)
                        · refine lv_iload hx hb dL_holds_334 (lv_at hl 3 rfl) ?_
                          refine kn_if_eq_not hx hb (by decide) dL_holds_336 ?_ 348 (by decide)
                          refine lv_iload hx hb dL_holds_339 (lv_at hl 1 rfl) ?_
                          refine kn_if_eq (tgt := 348) hx hb (by omega) dL_holds_341 (by decide) (fun z => absurd z (by have h9 := (pW_in hok ro).2; omega)) (fun c341 => ?_)
                          refine lv_iconst (v := nI 1) hx hb dL_holds_344 (by decide) ?_
                          refine lv_goto (tgt := 349) hx hb dL_holds_345 (by decide) ?_
                          refine lv_istore (lv' := [(4, .int (nI (1))), (10, .int (nI (pl))), (9, .int (nI (ov2))), (8, .int (nI (ro))), (7, .int (zI (-1))), (6, .int (nI (pRows S k2))), (5, .int (nI (k2))), (3, .int (mnyN S.2.2 5)), (0, .ref (yh)), (1, .ref (na)), (2, .int (nI (x)))]) hx hb dL_holds_349 hl (by decide) rfl (fun ls hl => ?_)
                          refine lv_iinc (lv' := [(5, .int (nI (k2 + 1))), (4, .int (nI (1))), (10, .int (nI (pl))), (9, .int (nI (ov2))), (8, .int (nI (ro))), (7, .int (zI (-1))), (6, .int (nI (pRows S k2))), (3, .int (mnyN S.2.2 5)), (0, .ref (yh)), (1, .ref (na)), (2, .int (nI (x)))]) hx hb dL_holds_351 hl (k := 6) rfl (kn_iinc k2 1) (by decide) rfl (fun ls hl => ?_)
                          refine lv_goto (tgt := 32) hx hb dL_holds_354 (by decide) ?_
                          refine W.widen (k := 10 + 300 * (k2 + 1)) (n := 60 + 1800 * (k2 + 1)) (by omega) (by omega) ?_
                          exact ihk32 (k2 + 1) y189a (by omega) hY hh (by omega) _ _ hV hS ls (lv_sub hl [0, 1, 7, 8, 9, 10] rfl)
                        · refine lv_iload hx hb dL_holds_196 (lv_at hl 3 rfl) ?_
                          refine kn_if_eq_not hx hb (by decide) dL_holds_198 ?_ 334 (by decide)
                          refine lv_iload hx hb dL_holds_201 (lv_at hl 5 rfl) ?_
                          refine kn_if_le (tgt := 334) hx hb (by omega) dL_holds_203 (by decide) (fun c203 => ?_) (fun c203 => ?_)
                          · refine lv_iload hx hb dL_holds_334 (lv_at hl 3 rfl) ?_
                            refine kn_if_eq_not hx hb (by decide) dL_holds_336 ?_ 348 (by decide)
                            refine lv_iload hx hb dL_holds_339 (lv_at hl 1 rfl) ?_
                            refine kn_if_eq (tgt := 348) hx hb (by omega) dL_holds_341 (by decide) (fun z => absurd z (by have h9 := (pW_in hok ro).2; omega)) (fun c341 => ?_)
                            refine lv_iconst (v := nI 1) hx hb dL_holds_344 (by decide) ?_
                            refine lv_goto (tgt := 349) hx hb dL_holds_345 (by decide) ?_
                            refine lv_istore (lv' := [(4, .int (nI (1))), (10, .int (nI (pl))), (9, .int (nI (ov2))), (8, .int (nI (ro))), (7, .int (zI (-1))), (6, .int (nI (pRows S k2))), (5, .int (nI (k2))), (3, .int (mnyN S.2.2 5)), (0, .ref (yh)), (1, .ref (na)), (2, .int (nI (x)))]) hx hb dL_holds_349 hl (by decide) rfl (fun ls hl => ?_)
                            refine lv_iinc (lv' := [(5, .int (nI (k2 + 1))), (4, .int (nI (1))), (10, .int (nI (pl))), (9, .int (nI (ov2))), (8, .int (nI (ro))), (7, .int (zI (-1))), (6, .int (nI (pRows S k2))), (3, .int (mnyN S.2.2 5)), (0, .ref (yh)), (1, .ref (na)), (2, .int (nI (x)))]) hx hb dL_holds_351 hl (k := 6) rfl (kn_iinc k2 1) (by decide) rfl (fun ls hl => ?_)
                            refine lv_goto (tgt := 32) hx hb dL_holds_354 (by decide) ?_
                            refine W.widen (k := 10 + 300 * (k2 + 1)) (n := 60 + 1800 * (k2 + 1)) (by omega) (by omega) ?_
                            exact ihk32 (k2 + 1) y189a (by omega) hY hh (by omega) _ _ hV hS ls (lv_sub hl [0, 1, 7, 8, 9, 10] rfl)
                          · refine lv_aload_n hx hb dL_holds_206 rfl (lv_at hl 8 rfl) ?_
                            refine lv_iload hx hb dL_holds_207 (lv_at hl 6 rfl) ?_
                            refine lv_iload hx hb dL_holds_209 (lv_at hl 2 rfl) ?_
                            refine lv_iload hx hb dL_holds_211 (lv_at hl 0 rfl) ?_
                            refine kc_i (vx_runSW (As := [.ref (yh), .int (nI (k2)), .int (nI (ro)), .int (nI (pl))]) (rest := []) hF (c_L_stitch l G S y189a yh ([(na, aN (kcI G) 3 f)] ++ wr) (nI k2) (nI ro) (nI pl) ((0, (nI (pSt S k2 ro pl)), S)) (ok_stitch hn16 c37 (hro c203) hr40 (by omega)) hlt hh hI hY) (vx_cwSW 4 hts gL_holds_L_stitch rfl rfl rfl (by decide +kernel) ⟨Nat.le_of_ble_eq_true rfl, Nat.le_of_ble_eq_true rfl⟩) (kPreS hE hS hV) rfl rfl hl.1 rfl (lv_room (Nat.le_of_ble_eq_true rfl)) dL_holds_213 ⟨(show 30 + 300 * k2 + 6 * pl + 2 ≤ 4930 by omega), (show 200 + 1800 * k2 + 36 * pl + 12 ≤ 29100 by omega)⟩) hS (fun r_24 u_23 H locs hp_22 hV hS => ?_)
                            obtain ⟨hp_220, hY, hh⟩ := hp_22
                            have hY : yI G S u_23 := hY
                            have hp_220 : (nI (pSt S k2 ro pl)) = r_24 := (hp_220.trans (vI_0 ((nI (pSt S k2 ro pl))) S)).symm
                            subst hp_220
                            have hV : kV G (siteW G S u_23 ++ ([(na, aN (kcI G) 3 f)] ++ wr)) _ := hV
                            have hst := pSt_le S k2 ro pl
                            have hpo : pSt S k2 ro pl = 0 ↔ pW S k2 ro ≤ pl := pSt_over
                            refine lv_istore (lv' := [(11, .int (nI (pSt S k2 ro pl))), (10, .int (nI (pl))), (9, .int (nI (ov2))), (8, .int (nI (ro))), (4, .int (nI (1))), (7, .int (zI (-1))), (6, .int (nI (pRows S k2))), (5, .int (nI (k2))), (3, .int (mnyN S.2.2 5)), (0, .ref (yh)), (1, .ref (na)), (2, .int (nI (x)))]) hx hb dL_holds_216 hl (by decide) rfl (fun ls hl => ?_)
                            refine lv_iload hx hb dL_holds_218 (lv_at hl 0 rfl) ?_
                            refine lv_if_lt (tgt := 308) hx hb dL_holds_220 (by decide) (fun z => absurd z (nI_pos (by omega))) (fun _ => ?_)
                            refine lv_iload hx hb dL_holds_223 (lv_at hl 0 rfl) ?_
                            refine lv_iconst (v := nI 2) hx hb dL_holds_225 (by decide) ?_
                            refine kn_gt (tgt := 308) hx hb (by omega) (by decide) dL_holds_226 (by decide) (fun z => absurd z (by omega)) (fun c226 => ?_)
                            have k239 : ∀ (H : Heap) (locs : List Loc), kV G (siteW G S u_23 ++ ([(na, aN (kcI G) 3 f)] ++ wr)) H → va_S (kA G) s.heap H locs → ∀ (ls : Array Slot), lv_has ls 12 [(11, .int (nI (pSt S k2 ro pl))), (10, .int (nI (pl))), (9, .int (nI (ov2))), (8, .int (nI (ro))), (4, .int (nI (1))), (7, .int (zI (-1))), (6, .int (nI (pRows S k2))), (5, .int (nI (k2))), (3, .int (mnyN S.2.2 5)), (0, .ref (yh)), (1, .ref (na)), (2, .int (nI (x)))] → W pp l ee (headSpec wsL_holds ({ frames := 10, cells := 4930, slots := 29100, locals := 178 } : Room)).room s m [.ref (yh), .ref (na), .int (nI (x))].toArray below meth cc0 H locs (30 + 300 * k2 + 6 * pl + 2) (200 + 1800 * k2 + 36 * pl + 12) (MQ below (kQi G (S := kY) (fun z u => z = nI 1 ∧ yI G S u ∧ yH u 0 = yh) (fun u => siteW G S u ++ ([(na, aN (kcI G) 3 f)] ++ wr))) [.ref (yh), .ref (na), .int (nI (x))].toArray s 4930 29100 (kA G)) (F0 m 239 ls []) := by
                              intro  H locs hV hS ls hl
                              have k249 : ∀ (H : Heap) (locs : List Loc), kV G (siteW G S u_23 ++ ([(na, aN (kcI G) 3 f)] ++ wr)) H → va_S (kA G) s.heap H locs → ∀ (ls : Array Slot), lv_has ls 12 [(11, .int (nI (pSt S k2 ro pl))), (10, .int (nI (pl))), (9, .int (nI (ov2))), (8, .int (nI (ro))), (4, .int (nI (1))), (7, .int (zI (-1))), (6, .int (nI (pRows S k2))), (5, .int (nI (k2))), (3, .int (mnyN S.2.2 5)), (0, .ref (yh)), (1, .ref (na)), (2, .int (nI (x)))] → W pp l ee (headSpec wsL_holds ({ frames := 10, cells := 4930, slots := 29100, locals := 178 } : Room)).room s m [.ref (yh), .ref (na), .int (nI (x))].toArray below meth cc0 H locs (30 + 300 * k2 + 6 * pl + 2) (200 + 1800 * k2 + 36 * pl + 12) (MQ below (kQi G (S := kY) (fun z u => z = nI 1 ∧ yI G S u ∧ yH u 0 = yh) (fun u => siteW G S u ++ ([(na, aN (kcI G) 3 f)] ++ wr))) [.ref (yh), .ref (na), .int (nI (x))].toArray s 4930 29100 (kA G)) (F0 m 249 ls []) := by
                                intro  H locs hV hS ls hl
                                have k274 : ∀ (y274 : kY) (hY : yI G S y274) (hh : yH y274 0 = yh) (H : Heap) (locs : List Loc), kV G (siteW G S y274 ++ ([(na, aN (kcI G) 3 f)] ++ wr)) H → va_S (kA G) s.heap H locs → ∀ (ls : Array Slot), lv_has ls 12 [(11, .int (nI (pSt S k2 ro pl))), (10, .int (nI (pl))), (9, .int (nI (ov2))), (8, .int (nI (ro))), (4, .int (nI (1))), (7, .int (zI (-1))), (6, .int (nI (pRows S k2))), (5, .int (nI (k2))), (3, .int (mnyN S.2.2 5)), (0, .ref (yh)), (1, .ref (na)), (2, .int (nI (x)))] → W pp l ee (headSpec wsL_holds ({ frames := 10, cells := 4930, slots := 29100, locals := 178 } : Room)).room s m [.ref (yh), .ref (na), .int (nI (x))].toArray below meth cc0 H locs (30 + 300 * k2 + 6 * pl + 2 + 2) (200 + 1800 * k2 + 36 * pl + 12 + 12) (MQ below (kQi G (S := kY) (fun z u => z = nI 1 ∧ yI G S u ∧ yH u 0 = yh) (fun u => siteW G S u ++ ([(na, aN (kcI G) 3 f)] ++ wr))) [.ref (yh), .ref (na), .int (nI (x))].toArray s 4930 29100 (kA G)) (F0 m 274 ls []) := by
                                  intro y274 hY hh H locs hV hS ls hl
                                  have k304 : ∀ (y304 : kY) (hY : yI G S y304) (hh : yH y304 0 = yh) (H : Heap) (locs : List Loc), kV G (siteW G S y304 ++ ([(na, aN (kcI G) 3 f)] ++ wr)) H → va_S (kA G) s.heap H locs → ∀ (ls : Array Slot), lv_has ls 12 [(11, .int (nI (pSt S k2 ro pl))), (10, .int (nI (pl))), (9, .int (nI (ov2))), (8, .int (nI (ro))), (4, .int (nI (1))), (7, .int (zI (-1))), (6, .int (nI (pRows S k2))), (5, .int (nI (k2))), (3, .int (mnyN S.2.2 5)), (0, .ref (yh)), (1, .ref (na)), (2, .int (nI (x)))] → W pp l ee (headSpec wsL_holds ({ frames := 10, cells := 4930, slots := 29100, locals := 178 } : Room)).room s m [.ref (yh), .ref (na), .int (nI (x))].toArray below meth cc0 H locs (30 + 300 * k2 + 6 * pl + 2 + 2 + 2) (200 + 1800 * k2 + 36 * pl + 12 + 12 + 12) (MQ below (kQi G (S := kY) (fun z u => z = nI 1 ∧ yI G S u ∧ yH u 0 = yh) (fun u => siteW G S u ++ ([(na, aN (kcI G) 3 f)] ++ wr))) [.ref (yh), .ref (na), .int (nI (x))].toArray s 4930 29100 (kA G)) (F0 m 304 ls []) := by
                                    intro y304 hY hh H locs hV hS ls hl
                                    refine lv_iconst (v := nI 1) hx hb dL_holds_304 (by decide) ?_
                                    refine lv_goto (tgt := 309) hx hb dL_holds_305 (by decide) ?_
                                    refine lv_istore (lv' := [(4, .int (nI (1))), (11, .int (nI (pSt S k2 ro pl))), (10, .int (nI (pl))), (9, .int (nI (ov2))), (8, .int (nI (ro))), (7, .int (zI (-1))), (6, .int (nI (pRows S k2))), (5, .int (nI (k2))), (3, .int (mnyN S.2.2 5)), (0, .ref (yh)), (1, .ref (na)), (2, .int (nI (x)))]) hx hb dL_holds_309 hl (by decide) rfl (fun ls hl => ?_)
                                    refine lv_iload hx hb dL_holds_311 (lv_at hl 3 rfl) ?_
                                    refine kn_if_ne (tgt := 321) hx hb (by omega) dL_holds_313 (by decide) (fun c313 => ?_) (fun c313 => ?_)
                                    · refine lv_iconst (v := nI 1) hx hb dL_holds_321 (by decide) ?_
                                      refine lv_goto (tgt := 326) hx hb dL_holds_322 (by decide) ?_
                                      refine lv_istore (lv' := [(9, .int (nI (1))), (4, .int (nI (1))), (11, .int (nI (pSt S k2 ro pl))), (10, .int (nI (pl))), (8, .int (nI (ro))), (7, .int (zI (-1))), (6, .int (nI (pRows S k2))), (5, .int (nI (k2))), (3, .int (mnyN S.2.2 5)), (0, .ref (yh)), (1, .ref (na)), (2, .int (nI (x)))]) hx hb dL_holds_326 hl (by decide) rfl (fun ls hl => ?_)
                                      refine lv_iinc (lv' := [(10, .int (nI (pl + 1))), (9, .int (nI (1))), (4, .int (nI (1))), (11, .int (nI (pSt S k2 ro pl))), (8, .int (nI (ro))), (7, .int (zI (-1))), (6, .int (nI (pRows S k2))), (5, .int (nI (k2))), (3, .int (mnyN S.2.2 5)), (0, .ref (yh)), (1, .ref (na)), (2, .int (nI (x)))]) hx hb dL_holds_328 hl (k := 3) rfl (kn_iinc pl 1) (by decide) rfl (fun ls hl => ?_)
                                      refine lv_goto (tgt := 189) hx hb dL_holds_331 (by decide) ?_
                                      refine W.widen (k := 30 + 300 * k2 + 6 * (pl + 1)) (n := 200 + 1800 * k2 + 36 * (pl + 1)) (by omega) (by omega) ?_
                                      exact ihk189 (pl + 1) y304 1 (by omega) hY hh (by omega) (by omega) (by omega) (by omega) _ _ hV hS ls (lv_sub hl [0, 1, 4, 2, 5, 6, 7, 8, 9, 10, 11] rfl)
                                    · refine lv_iload hx hb dL_holds_316 (lv_at hl 1 rfl) ?_
                                      refine kn_if_ne (tgt := 325) hx hb (by omega) dL_holds_318 (by decide) (fun c318 => ?_) (fun c318 => ?_)
                                      · refine lv_iconst (v := nI 0) hx hb dL_holds_325 (by decide) ?_
                                        refine lv_istore (lv' := [(9, .int (nI (0))), (4, .int (nI (1))), (11, .int (nI (pSt S k2 ro pl))), (10, .int (nI (pl))), (8, .int (nI (ro))), (7, .int (zI (-1))), (6, .int (nI (pRows S k2))), (5, .int (nI (k2))), (3, .int (mnyN S.2.2 5)), (0, .ref (yh)), (1, .ref (na)), (2, .int (nI (x)))]) hx hb dL_holds_326 hl (by decide) rfl (fun ls hl => ?_)
                                        refine lv_iinc (lv' := [(10, .int (nI (pl + 1))), (9, .int (nI (0))), (4, .int (nI (1))), (11, .int (nI (pSt S k2 ro pl))), (8, .int (nI (ro))), (7, .int (zI (-1))), (6, .int (nI (pRows S k2))), (5, .int (nI (k2))), (3, .int (mnyN S.2.2 5)), (0, .ref (yh)), (1, .ref (na)), (2, .int (nI (x)))]) hx hb dL_holds_328 hl (k := 3) rfl (kn_iinc pl 1) (by decide) rfl (fun ls hl => ?_)
                                        refine lv_goto (tgt := 189) hx hb dL_holds_331 (by decide) ?_
                                        refine W.widen (k := 30 + 300 * k2 + 6 * (pl + 1)) (n := 200 + 1800 * k2 + 36 * (pl + 1)) (by omega) (by omega) ?_
                                        exact ihk189 (pl + 1) y304 0 (by omega) hY hh (by omega) (by omega) (by omega) (by omega) _ _ hV hS ls (lv_sub hl [0, 1, 4, 2, 5, 6, 7, 8, 9, 10, 11] rfl)
                                      · refine lv_iconst (v := nI 1) hx hb dL_holds_321 (by decide) ?_
                                        refine lv_goto (tgt := 326) hx hb dL_holds_322 (by decide) ?_
                                        refine lv_istore (lv' := [(9, .int (nI (1))), (4, .int (nI (1))), (11, .int (nI (pSt S k2 ro pl))), (10, .int (nI (pl))), (8, .int (nI (ro))), (7, .int (zI (-1))), (6, .int (nI (pRows S k2))), (5, .int (nI (k2))), (3, .int (mnyN S.2.2 5)), (0, .ref (yh)), (1, .ref (na)), (2, .int (nI (x)))]) hx hb dL_holds_326 hl (by decide) rfl (fun ls hl => ?_)
                                        refine lv_iinc (lv' := [(10, .int (nI (pl + 1))), (9, .int (nI (1))), (4, .int (nI (1))), (11, .int (nI (pSt S k2 ro pl))), (8, .int (nI (ro))), (7, .int (zI (-1))), (6, .int (nI (pRows S k2))), (5, .int (nI (k2))), (3, .int (mnyN S.2.2 5)), (0, .ref (yh)), (1, .ref (na)), (2, .int (nI (x)))]) hx hb dL_holds_328 hl (k := 3) rfl (kn_iinc pl 1) (by decide) rfl (fun ls hl => ?_)
                                        refine lv_goto (tgt := 189) hx hb dL_holds_331 (by decide) ?_
                                        refine W.widen (k := 30 + 300 * k2 + 6 * (pl + 1)) (n := 200 + 1800 * k2 + 36 * (pl + 1)) (by omega) (by omega) ?_
                                        exact ihk189 (pl + 1) y304 1 (by omega) hY hh (by omega) (by omega) (by omega) (by omega) _ _ hV hS ls (lv_sub hl [0, 1, 4, 2, 5, 6, 7, 8, 9, 10, 11] rfl)
                                  refine lv_iload hx hb dL_holds_274 (lv_at hl 5 rfl) ?_
                                  refine lv_if_lt (tgt := 304) hx hb dL_holds_276 (by decide) (fun _ => ?_) (fun z => absurd (by decide) z)
                                  refine W.widen (k := 30 + 300 * k2 + 6 * pl + 2 + 2 + 2) (n := 200 + 1800 * k2 + 36 * pl + 12 + 12 + 12) (by omega) (by omega) ?_
                                  exact k304 y274 hY hh _ _ hV hS ls (lv_sub hl [0, 1, 2, 3, 4, 5, 6, 7, 8, 9, 10, 11] rfl)
                                refine lv_iload hx hb dL_holds_249 (lv_at hl 1 rfl) ?_
                                refine lv_iconst (v := nI 4) hx hb dL_holds_251 (by decide) ?_
                                refine kn_rem hx hb (by omega) (by omega) (by omega) dL_holds_252 ?_
                                refine lv_iload_n hx hb dL_holds_253 rfl (lv_at hl 11 rfl) ?_
                                refine lv_iconst (v := nI 4) hx hb dL_holds_254 (by decide) ?_
                                refine kn_rem hx hb (by omega) (by omega) (by omega) dL_holds_255 ?_
                                refine kn_ne (tgt := 274) hx hb (by omega) (by omega) dL_holds_256 (by decide) (fun c256 => ?_) (fun c256 => ?_)
                                · refine W.widen (k := 30 + 300 * k2 + 6 * pl + 2 + 2) (n := 200 + 1800 * k2 + 36 * pl + 12 + 12) (by omega) (by omega) ?_
                                  exact k274 u_23 hY hh _ _ hV hS ls (lv_sub hl [0, 1, 2, 3, 4, 5, 6, 7, 8, 9, 10, 11] rfl)
                                · refine lv_aload_n hx hb dL_holds_259 rfl (lv_at hl 9 rfl) ?_
                                  refine lv_iload hx hb dL_holds_260 (lv_at hl 7 rfl) ?_
                                  refine lv_iload hx hb dL_holds_262 (lv_at hl 3 rfl) ?_
                                  refine lv_iload hx hb dL_holds_264 (lv_at hl 1 rfl) ?_
                                  refine kc_i (vx_runSW (As := [.ref (yh), .int (nI (k2)), .int (nI (ro)), .int (nI (pl))]) (rest := []) hF (c_L_byWork l G S u_23 yh ([(na, aN (kcI G) 3 f)] ++ wr) (nI k2) (nI ro) (nI pl) ((0, (nI (pSt S k2 ro pl)), S)) (ok_stitch hn16 c37 (hro c203) hr40 (by omega)) hlt hh hI hY) (vx_cwSW 4 hts gL_holds_L_byWork rfl rfl rfl (by decide +kernel) ⟨Nat.le_of_ble_eq_true rfl, Nat.le_of_ble_eq_true rfl⟩) (kPreS hE hS hV) rfl rfl hl.1 rfl (lv_room (Nat.le_of_ble_eq_true rfl)) dL_holds_266 ⟨(show 30 + 300 * k2 + 6 * pl + 2 + 2 ≤ 4930 by omega), (show 200 + 1800 * k2 + 36 * pl + 12 + 12 ≤ 29100 by omega)⟩) hS (fun r_27 u_26 H locs hp_25 hV hS => ?_)
                                  obtain ⟨hp_250, hY, hh⟩ := hp_25
                                  have hY : yI G S u_26 := hY
                                  have hp_250 : (nI (pSt S k2 ro pl)) = r_27 := (hp_250.trans (vI_0 ((nI (pSt S k2 ro pl))) S)).symm
                                  subst hp_250
                                  have hV : kV G (siteW G S u_26 ++ ([(na, aN (kcI G) 3 f)] ++ wr)) _ := hV
                                  refine lv_iload hx hb dL_holds_269 (lv_at hl 0 rfl) ?_
                                  refine lv_icmp_ne (tgt := 308) hx hb dL_holds_271 (by decide) (fun z => absurd rfl z) (fun _ => ?_)
                                  exact k274 u_26 hY hh _ _ hV hS ls (lv_sub hl [0, 1, 2, 3, 4, 5, 6, 7, 8, 9, 10, 11] rfl)
                              refine lv_iload hx hb dL_holds_239 (lv_at hl 2 rfl) ?_
                              refine kn_if_eq (tgt := 249) hx hb (by omega) dL_holds_241 (by decide) (fun c241 => ?_) (fun c241 => ?_)
                              · exact k249  _ _ hV hS ls (lv_sub hl [0, 1, 2, 3, 4, 5, 6, 7, 8, 9, 10, 11] rfl)
                              · refine lv_iload hx hb dL_holds_244 (lv_at hl 0 rfl) ?_
                                refine kn_if_ne (tgt := 308) hx hb (by omega) dL_holds_246 (by decide) (fun z => absurd (pSt_over.mpr (Nat.le_of_lt ((hovi c203).mp (by omega)))) z) (fun c246 => ?_)
                                exact k249  _ _ hV hS ls (lv_sub hl [0, 1, 2, 3, 4, 5, 6, 7, 8, 9, 10, 11] rfl)
                            refine lv_iload hx hb dL_holds_229 (lv_at hl 1 rfl) ?_
                            refine kn_if_gt (tgt := 239) hx hb (by omega) dL_holds_231 (by decide) (fun c231 => ?_) (fun c231 => ?_)
                            · exact k239  _ _ hV hS ls (lv_sub hl [0, 1, 2, 3, 4, 5, 6, 7, 8, 9, 10, 11] rfl)
                            · refine lv_iload hx hb dL_holds_234 (lv_at hl 0 rfl) ?_
                              refine kn_if_le (tgt := 308) hx hb (by omega) dL_holds_236 (by decide) (fun z => absurd z (by have h9 := pSt_0 (r := ro) hok; rw [c231]; omega)) (fun c236 => ?_)
                              exact k239  _ _ hV hS ls (lv_sub hl [0, 1, 2, 3, 4, 5, 6, 7, 8, 9, 10, 11] rfl)
                    refine W.widen (k := 30 + 300 * k2 + 6 * 0) (n := 200 + 1800 * k2 + 36 * 0) (by omega) (by omega) ?_
                    exact k189 ((41 - 0) + 1) 0 u_20 ov (by omega) hY hh (by omega) (by omega) (by omega) (Nat.lt_succ_self _) _ _ hV hS ls (lv_sub hl [0, 1, 2, 3, 4, 5, 6, 7, 8, 9, 10] rfl)
                  refine lv_iload hx hb dL_holds_174 (lv_at hl 3 rfl) ?_
                  refine kn_if_ne (tgt := 183) hx hb (by omega) dL_holds_176 (by decide) (fun c176 => ?_) (fun c176 => ?_)
                  · refine lv_iconst (v := nI 0) hx hb dL_holds_183 (by decide) ?_
                    exact k184 0 (by decide) (by omega) (by omega) _ _ hV hS ls (lv_sub hl [0, 1, 2, 3, 4, 5, 6, 7, 8] rfl)
                  · refine lv_iconst (v := nI 1) hx hb dL_holds_179 (by decide) ?_
                    refine lv_goto (tgt := 184) hx hb dL_holds_180 (by decide) ?_
                    exact k184 1 (by decide) (by omega) (by omega) _ _ hV hS ls (lv_sub hl [0, 1, 2, 3, 4, 5, 6, 7, 8] rfl)
                refine lv_iload hx hb dL_holds_159 (lv_at hl 2 rfl) ?_
                refine kn_if_ne (tgt := 168) hx hb (by omega) dL_holds_161 (by decide) (fun c161 => ?_) (fun c161 => ?_)
                · refine lv_iload_n hx hb dL_holds_168 rfl (lv_at hl 7 rfl) ?_
                  refine lv_iload hx hb dL_holds_169 (lv_at hl 2 rfl) ?_
                  refine kn_rem hx hb (by omega) (by omega) (by omega) dL_holds_171 ?_
                  exact k172 (x % (pRows S k2)) (fun z => Nat.mod_lt _ z) _ _ hV hS ls (lv_sub hl [0, 1, 2, 3, 4, 5, 6, 7] rfl)
                · refine lv_iconst (v := nI 0) hx hb dL_holds_164 (by decide) ?_
                  refine lv_goto (tgt := 172) hx hb dL_holds_165 (by decide) ?_
                  exact k172 0 (fun z => absurd z (by omega)) _ _ hV hS ls (lv_sub hl [0, 1, 2, 3, 4, 5, 6, 7] rfl)
              · have hor := pOrig_lt c37
                have hor9 := (pOrig_pub hI c37 hu).2
                refine lv_aload_n hx hb dL_holds_53 rfl (lv_at hl 4 rfl) ?_
                refine lv_iload hx hb dL_holds_54 (lv_at hl 1 rfl) ?_
                refine kc_i (vx_runSW (As := [.ref (yh), .int (nI (k2))]) (rest := []) hF (c_L_original l G S u_5 yh ([(na, aN (kcI G) 3 f)] ++ wr) (nI k2) ((0, (nI (pOrig S k2)), S)) (ok_orig1 hn16 c37 hu) hlt hh hI hY) (vx_cwSW 2 hts gL_holds_L_original rfl rfl rfl (by decide +kernel) ⟨Nat.le_of_ble_eq_true rfl, Nat.le_of_ble_eq_true rfl⟩) (kPreS hE hS hV) rfl rfl hl.1 rfl (lv_room (Nat.le_of_ble_eq_true rfl)) dL_holds_56 ⟨(show 10 + 300 * k2 + 1 + 1 ≤ 4930 by omega), (show 60 + 1800 * k2 + 6 + 6 ≤ 29100 by omega)⟩) hS (fun r_30 u_29 H locs hp_28 hV hS => ?_)
                obtain ⟨hp_280, hY, hh⟩ := hp_28
                have hY : yI G S u_29 := hY
                have hp_280 : (nI (pOrig S k2)) = r_30 := (hp_280.trans (vI_0 ((nI (pOrig S k2))) S)).symm
                subst hp_280
                have hV : kV G (siteW G S u_29 ++ ([(na, aN (kcI G) 3 f)] ++ wr)) _ := hV
                refine lv_istore (lv' := [(7, .int (nI (pOrig S k2))), (6, .int (nI (pRows S k2))), (5, .int (nI (k2))), (4, .int (nI (1))), (3, .int (mnyN S.2.2 5)), (0, .ref (yh)), (1, .ref (na)), (2, .int (nI (x)))]) hx hb dL_holds_59 hl (by decide) rfl (fun ls hl => ?_)
                refine lv_iload hx hb dL_holds_61 (lv_at hl 1 rfl) ?_
                refine lv_if_lt (tgt := 156) hx hb dL_holds_63 (by decide) (fun z => absurd z (nI_pos (by omega))) (fun _ => ?_)
                refine lv_iload hx hb dL_holds_66 (lv_at hl 1 rfl) ?_
                refine lv_bipush (v := nI 40) hx hb dL_holds_68 (by decide) ?_
                refine kn_gt (tgt := 156) hx hb (by omega) (by decide) dL_holds_70 (by decide) (fun z => absurd z (by omega)) (fun c70 => ?_)
                refine lv_iload hx hb dL_holds_73 (lv_at hl 0 rfl) ?_
                refine lv_iconst (v := zI (-1)) hx hb dL_holds_75 (by decide) ?_
                refine lv_icmp_eq (tgt := 101) hx hb dL_holds_76 (by decide) (fun z => absurd z (i_ne_m1 (by omega))) (fun c76 => ?_)
                refine lv_aload_n hx hb dL_holds_79 rfl (lv_at hl 5 rfl) ?_
                refine lv_iload hx hb dL_holds_80 (lv_at hl 0 rfl) ?_
                refine kc_i (vx_runSW (As := [.ref (yh), .int (nI (pOrig S k2))]) (rest := []) hF (c_L_original l G S u_29 yh ([(na, aN (kcI G) 3 f)] ++ wr) (nI (pOrig S k2)) ((0, (nI (pOrig S k2)), S)) (by rw [ok_orig1 hn16 hor hor9, pOrig_id hI c37 hu]) hlt hh hI hY) (vx_cwSW 2 hts gL_holds_L_original rfl rfl rfl (by decide +kernel) ⟨Nat.le_of_ble_eq_true rfl, Nat.le_of_ble_eq_true rfl⟩) (kPreS hE hS hV) rfl rfl hl.1 rfl (lv_room (Nat.le_of_ble_eq_true rfl)) dL_holds_82 ⟨(show 10 + 300 * k2 + 1 + 1 + 1 ≤ 4930 by omega), (show 60 + 1800 * k2 + 6 + 6 + 6 ≤ 29100 by omega)⟩) hS (fun r_33 u_32 H locs hp_31 hV hS => ?_)
                obtain ⟨hp_310, hY, hh⟩ := hp_31
                have hY : yI G S u_32 := hY
                have hp_310 : (nI (pOrig S k2)) = r_33 := (hp_310.trans (vI_0 ((nI (pOrig S k2))) S)).symm
                subst hp_310
                have hV : kV G (siteW G S u_32 ++ ([(na, aN (kcI G) 3 f)] ++ wr)) _ := hV
                refine lv_iload hx hb dL_holds_85 (lv_at hl 0 rfl) ?_
                refine lv_icmp_ne (tgt := 156) hx hb dL_holds_87 (by decide) (fun z => absurd rfl z) (fun _ => ?_)
                refine lv_aload_n hx hb dL_holds_90 rfl (lv_at hl 5 rfl) ?_
                refine lv_iload hx hb dL_holds_91 (lv_at hl 0 rfl) ?_
                refine kc_i (vx_runSW (As := [.ref (yh), .int (nI (pOrig S k2))]) (rest := []) hF (c_L_rows l G S u_32 yh ([(na, aN (kcI G) 3 f)] ++ wr) (nI (pOrig S k2)) ((0, (nI (pRows S k2)), S)) (by rw [ok_rows hn16 hor, pOrig_al.1]) hlt hh hI hY) (vx_cwSW 2 hts gL_holds_L_rows rfl rfl rfl (by decide +kernel) ⟨Nat.le_of_ble_eq_true rfl, Nat.le_of_ble_eq_true rfl⟩) (kPreS hE hS hV) rfl rfl hl.1 rfl (lv_room (Nat.le_of_ble_eq_true rfl)) dL_holds_93 ⟨(show 10 + 300 * k2 + 1 + 1 + 1 + 1 ≤ 4930 by omega), (show 60 + 1800 * k2 + 6 + 6 + 6 + 6 ≤ 29100 by omega)⟩) hS (fun r_36 u_35 H locs hp_34 hV hS => ?_)
                obtain ⟨hp_340, hY, hh⟩ := hp_34
                have hY : yI G S u_35 := hY
                have hp_340 : (nI (pRows S k2)) = r_36 := (hp_340.trans (vI_0 ((nI (pRows S k2))) S)).symm
                subst hp_340
                have hV : kV G (siteW G S u_35 ++ ([(na, aN (kcI G) 3 f)] ++ wr)) _ := hV
                refine lv_iload hx hb dL_holds_96 (lv_at hl 1 rfl) ?_
                refine lv_icmp_ne (tgt := 156) hx hb dL_holds_98 (by decide) (fun z => absurd rfl z) (fun _ => ?_)
                refine lv_aload_n hx hb dL_holds_101 rfl (lv_at hl 5 rfl) ?_
                refine lv_iload hx hb dL_holds_102 (lv_at hl 2 rfl) ?_
                refine lv_bipush (v := nI 20) hx hb dL_holds_104 (by decide) ?_
                refine kc_i (vx_runSW (As := [.ref (yh), .int (nI (k2)), .int (nI (20))]) (rest := []) hF (c_L_need l G S u_35 yh ([(na, aN (kcI G) 3 f)] ++ wr) (nI k2) (nI 20) ((0, (nI (4 * (nd5 S k2))), S)) (by rw [ok_need hn16 c37 ⟨by decide, by decide⟩, nd5_20]) hlt hh hI hY) (vx_cwSW 3 hts gL_holds_L_need rfl rfl rfl (by decide +kernel) ⟨Nat.le_of_ble_eq_true rfl, Nat.le_of_ble_eq_true rfl⟩) (kPreS hE hS hV) rfl rfl hl.1 rfl (lv_room (Nat.le_of_ble_eq_true rfl)) dL_holds_106 ⟨(show 10 + 300 * k2 + 1 + 1 + 1 + 1 + 2 ≤ 4930 by omega), (show 60 + 1800 * k2 + 6 + 6 + 6 + 6 + 12 ≤ 29100 by omega)⟩) hS (fun r_39 u_38 H locs hp_37 hV hS => ?_)
                obtain ⟨hp_370, hY, hh⟩ := hp_37
                have hY : yI G S u_38 := hY
                have hp_370 : (nI (4 * (nd5 S k2))) = r_39 := (hp_370.trans (vIA_0 ((nI (4 * (nd5 S k2)))) S)).symm
                subst hp_370
                have hV : kV G (siteW G S u_38 ++ ([(na, aN (kcI G) 3 f)] ++ wr)) _ := hV
                refine lv_iconst (v := nI 4) hx hb dL_holds_109 (by decide) ?_
                refine lv_aload_n hx hb dL_holds_110 rfl (lv_at hl 5 rfl) ?_
                refine lv_iload hx hb dL_holds_111 (lv_at hl 2 rfl) ?_
                refine lv_iconst (v := nI 5) hx hb dL_holds_113 (by decide) ?_
                refine kc_i (vx_runSW (As := [.ref (yh), .int (nI (k2)), .int (nI (5))]) (rest := [.int (nI (4)), .int (nI (4 * (nd5 S k2)))]) hF (c_L_need l G S u_38 yh ([(na, aN (kcI G) 3 f)] ++ wr) (nI k2) (nI 5) ((0, (nI (nd5 S k2)), S)) (ok_need hn16 c37 ⟨by decide, by decide⟩) hlt hh hI hY) (vx_cwSW 3 hts gL_holds_L_need rfl rfl rfl (by decide +kernel) ⟨Nat.le_of_ble_eq_true rfl, Nat.le_of_ble_eq_true rfl⟩) (kPreS hE hS hV) rfl rfl hl.1 rfl (lv_room (Nat.le_of_ble_eq_true rfl)) dL_holds_114 ⟨(show 10 + 300 * k2 + 1 + 1 + 1 + 1 + 2 + 2 ≤ 4930 by omega), (show 60 + 1800 * k2 + 6 + 6 + 6 + 6 + 12 + 12 ≤ 29100 by omega)⟩) hS (fun r_42 u_41 H locs hp_40 hV hS => ?_)
                obtain ⟨hp_400, hY, hh⟩ := hp_40
                have hY : yI G S u_41 := hY
                have hp_400 : (nI (nd5 S k2)) = r_42 := (hp_400.trans (vIA_0 ((nI (nd5 S k2))) S)).symm
                subst hp_400
                have hV : kV G (siteW G S u_41 ++ ([(na, aN (kcI G) 3 f)] ++ wr)) _ := hV
                refine kn_mul hx hb dL_holds_117 ?_
                refine lv_icmp_ne (tgt := 156) hx hb dL_holds_118 (by decide) (fun z => absurd rfl z) (fun _ => ?_)
                refine lv_aload_n hx hb dL_holds_121 rfl (lv_at hl 5 rfl) ?_
                refine lv_iload hx hb dL_holds_122 (lv_at hl 2 rfl) ?_
                refine lv_iconst (v := nI 5) hx hb dL_holds_124 (by decide) ?_
                refine kc_i (vx_runSW (As := [.ref (yh), .int (nI (k2)), .int (nI (5))]) (rest := []) hF (c_L_need l G S u_41 yh ([(na, aN (kcI G) 3 f)] ++ wr) (nI k2) (nI 5) ((0, (nI (nd5 S k2)), S)) (ok_need hn16 c37 ⟨by decide, by decide⟩) hlt hh hI hY) (vx_cwSW 3 hts gL_holds_L_need rfl rfl rfl (by decide +kernel) ⟨Nat.le_of_ble_eq_true rfl, Nat.le_of_ble_eq_true rfl⟩) (kPreS hE hS hV) rfl rfl hl.1 rfl (lv_room (Nat.le_of_ble_eq_true rfl)) dL_holds_125 ⟨(show 10 + 300 * k2 + 1 + 1 + 1 + 1 + 2 + 2 + 2 ≤ 4930 by omega), (show 60 + 1800 * k2 + 6 + 6 + 6 + 6 + 12 + 12 + 12 ≤ 29100 by omega)⟩) hS (fun r_45 u_44 H locs hp_43 hV hS => ?_)
                obtain ⟨hp_430, hY, hh⟩ := hp_43
                have hY : yI G S u_44 := hY
                have hp_430 : (nI (nd5 S k2)) = r_45 := (hp_430.trans (vIA_0 ((nI (nd5 S k2))) S)).symm
                subst hp_430
                have hV : kV G (siteW G S u_44 ++ ([(na, aN (kcI G) 3 f)] ++ wr)) _ := hV
                refine lv_bipush (v := nI 10) hx hb dL_holds_128 (by decide) ?_
                refine lv_iload hx hb dL_holds_130 (lv_at hl 1 rfl) ?_
                refine kn_mul hx hb dL_holds_132 ?_
                refine kn_lt (tgt := 156) hx hb (by omega) (by omega) dL_holds_133 (by decide) (fun z => absurd z (by omega)) (fun c133 => ?_)
                refine lv_aload_n hx hb dL_holds_136 rfl (lv_at hl 5 rfl) ?_
                refine lv_iload hx hb dL_holds_137 (lv_at hl 2 rfl) ?_
                refine lv_iconst (v := nI 5) hx hb dL_holds_139 (by decide) ?_
                refine kc_i (vx_runSW (As := [.ref (yh), .int (nI (k2)), .int (nI (5))]) (rest := []) hF (c_L_need l G S u_44 yh ([(na, aN (kcI G) 3 f)] ++ wr) (nI k2) (nI 5) ((0, (nI (nd5 S k2)), S)) (ok_need hn16 c37 ⟨by decide, by decide⟩) hlt hh hI hY) (vx_cwSW 3 hts gL_holds_L_need rfl rfl rfl (by decide +kernel) ⟨Nat.le_of_ble_eq_true rfl, Nat.le_of_ble_eq_true rfl⟩) (kPreS hE hS hV) rfl rfl hl.1 rfl (lv_room (Nat.le_of_ble_eq_true rfl)) dL_holds_140 ⟨(show 10 + 300 * k2 + 1 + 1 + 1 + 1 + 2 + 2 + 2 + 2 ≤ 4930 by omega), (show 60 + 1800 * k2 + 6 + 6 + 6 + 6 + 12 + 12 + 12 + 12 ≤ 29100 by omega)⟩) hS (fun r_48 u_47 H locs hp_46 hV hS => ?_)
                obtain ⟨hp_460, hY, hh⟩ := hp_46
                have hY : yI G S u_47 := hY
                have hp_460 : (nI (nd5 S k2)) = r_48 := (hp_460.trans (vIA_0 ((nI (nd5 S k2))) S)).symm
                subst hp_460
                have hV : kV G (siteW G S u_47 ++ ([(na, aN (kcI G) 3 f)] ++ wr)) _ := hV
                refine lv_sipush (v := nI 600) hx hb dL_holds_143 (by decide) ?_
                refine lv_iload hx hb dL_holds_146 (lv_at hl 1 rfl) ?_
                refine kn_mul hx hb dL_holds_148 ?_
                refine kn_gt (tgt := 156) hx hb (by omega) (by omega) dL_holds_149 (by decide) (fun z => absurd z (by omega)) (fun c149 => ?_)
                refine lv_iconst (v := nI 1) hx hb dL_holds_152 (by decide) ?_
                refine lv_goto (tgt := 157) hx hb dL_holds_153 (by decide) ?_
                refine lv_istore (lv' := [(4, .int (nI (1))), (7, .int (nI (pOrig S k2))), (6, .int (nI (pRows S k2))), (5, .int (nI (k2))), (3, .int (mnyN S.2.2 5)), (0, .ref (yh)), (1, .ref (na)), (2, .int (nI (x)))]) hx hb dL_holds_157 hl (by decide) rfl (fun ls hl => ?_)
                have k172 : ∀ (ro : Nat) (hro : 0 < pRows S k2 → ro < pRows S k2) (H : Heap) (locs : List Loc), kV G (siteW G S u_47 ++ ([(na, aN (kcI G) 3 f)] ++ wr)) H → va_S (kA G) s.heap H locs → ∀ (ls : Array Slot), lv_has ls 12 [(4, .int (nI (1))), (7, .int (nI (pOrig S k2))), (6, .int (nI (pRows S k2))), (5, .int (nI (k2))), (3, .int (mnyN S.2.2 5)), (0, .ref (yh)), (1, .ref (na)), (2, .int (nI (x)))] → W pp l ee (headSpec wsL_holds ({ frames := 10, cells := 4930, slots := 29100, locals := 178 } : Room)).room s m [.ref (yh), .ref (na), .int (nI (x))].toArray below meth cc0 H locs (10 + 300 * k2 + 1 + 1 + 1 + 1 + 2 + 2 + 2 + 2) (60 + 1800 * k2 + 6 + 6 + 6 + 6 + 12 + 12 + 12 + 12) (MQ below (kQi G (S := kY) (fun z u => z = nI 1 ∧ yI G S u ∧ yH u 0 = yh) (fun u => siteW G S u ++ ([(na, aN (kcI G) 3 f)] ++ wr))) [.ref (yh), .ref (na), .int (nI (x))].toArray s 4930 29100 (kA G)) (F0 m 172 ls [.int (nI (ro))]) := by
                  intro ro hro H locs hV hS ls hl
                  refine lv_istore (lv' := [(8, .int (nI (ro))), (4, .int (nI (1))), (7, .int (nI (pOrig S k2))), (6, .int (nI (pRows S k2))), (5, .int (nI (k2))), (3, .int (mnyN S.2.2 5)), (0, .ref (yh)), (1, .ref (na)), (2, .int (nI (x)))]) hx hb dL_holds_172 hl (by decide) rfl (fun ls hl => ?_)
                  have k184 : ∀ (ov : Nat) (hov : ov ≤ 1) (hovi : 0 < pRows S k2 → ov = 0) (hov0 : pRows S k2 = 0 → ov = 1) (H : Heap) (locs : List Loc), kV G (siteW G S u_47 ++ ([(na, aN (kcI G) 3 f)] ++ wr)) H → va_S (kA G) s.heap H locs → ∀ (ls : Array Slot), lv_has ls 12 [(8, .int (nI (ro))), (4, .int (nI (1))), (7, .int (nI (pOrig S k2))), (6, .int (nI (pRows S k2))), (5, .int (nI (k2))), (3, .int (mnyN S.2.2 5)), (0, .ref (yh)), (1, .ref (na)), (2, .int (nI (x)))] → W pp l ee (headSpec wsL_holds ({ frames := 10, cells := 4930, slots := 29100, locals := 178 } : Room)).room s m [.ref (yh), .ref (na), .int (nI (x))].toArray below meth cc0 H locs (10 + 300 * k2 + 1 + 1 + 1 + 1 + 2 + 2 + 2 + 2) (60 + 1800 * k2 + 6 + 6 + 6 + 6 + 12 + 12 + 12 + 12) (MQ below (kQi G (S := kY) (fun z u => z = nI 1 ∧ yI G S u ∧ yH u 0 = yh) (fun u => siteW G S u ++ ([(na, aN (kcI G) 3 f)] ++ wr))) [.ref (yh), .ref (na), .int (nI (x))].toArray s 4930 29100 (kA G)) (F0 m 184 ls [.int (nI (ov))]) := by
                    intro ov hov hovi hov0 H locs hV hS ls hl
                    refine lv_istore (lv' := [(9, .int (nI (ov))), (8, .int (nI (ro))), (4, .int (nI (1))), (7, .int (nI (pOrig S k2))), (6, .int (nI (pRows S k2))), (5, .int (nI (k2))), (3, .int (mnyN S.2.2 5)), (0, .ref (yh)), (1, .ref (na)), (2, .int (nI (x)))]) hx hb dL_holds_184 hl (by decide) rfl (fun ls hl => ?_)
                    refine lv_iconst (v := nI 0) hx hb dL_holds_186 (by decide) ?_
                    refine lv_istore (lv' := [(10, .int (nI (0))), (9, .int (nI (ov))), (8, .int (nI (ro))), (4, .int (nI (1))), (7, .int (nI (pOrig S k2))), (6, .int (nI (pRows S k2))), (5, .int (nI (k2))), (3, .int (mnyN S.2.2 5)), (0, .ref (yh)), (1, .ref (na)), (2, .int (nI (x)))]) hx hb dL_holds_187 hl (by decide) rfl (fun ls hl => ?_)
                    have k189 : ∀ (nk189 : Nat) (pl : Nat) (y189a : kY) (ov2 : Nat) (hpl : pl ≤ 41) (hY : yI G S y189a) (hh : yH y189a 0 = yh) (hov : ov2 ≤ 1) (hovi : 0 < pRows S k2 → (ov2 = 1 ↔ pW S k2 ro < pl)) (hov0 : pRows S k2 = 0 → ov2 = 1) (hmk189 : 41 - pl < nk189) (H : Heap) (locs : List Loc), kV G (siteW G S y189a ++ ([(na, aN (kcI G) 3 f)] ++ wr)) H → va_S (kA G) s.heap H locs → ∀ (ls : Array Slot), lv_has ls 12 [(10, .int (nI (pl))), (9, .int (nI (ov2))), (8, .int (nI (ro))), (4, .int (nI (1))), (7, .int (nI (pOrig S k2))), (6, .int (nI (pRows S k2))), (5, .int (nI (k2))), (3, .int (mnyN S.2.2 5)), (0, .ref (yh)), (1, .ref (na)), (2, .int (nI (x)))] → W pp l ee (headSpec wsL_holds ({ frames := 10, cells := 4930, slots := 29100, locals := 178 } : Room)).room s m [.ref (yh), .ref (na), .int (nI (x))].toArray below meth cc0 H locs (30 + 300 * k2 + 6 * pl) (200 + 1800 * k2 + 36 * pl) (MQ below (kQi G (S := kY) (fun z u => z = nI 1 ∧ yI G S u ∧ yH u 0 = yh) (fun u => siteW G S u ++ ([(na, aN (kcI G) 3 f)] ++ wr))) [.ref (yh), .ref (na), .int (nI (x))].toArray s 4930 29100 (kA G)) (F0 m 189 ls []) := by
                      intro nk189
                      induction nk189 with
                      | zero => intro pl y189a ov2 hpl hY hh hov hovi hov0 hmk189; exact absurd hmk189 (Nat.not_lt_zero _)
                      | succ nk189 ihk189 =>
                        intro pl y189a ov2 hpl hY hh hov hovi hov0 hmk189 H locs hV hS ls hl
                        refine lv_iload hx hb dL_holds_189 (lv_at hl 0 rfl) ?_
                        refine lv_bipush (v := nI 41) hx hb dL_holds_191 (by decide) ?_
                        refine kn_ge (tgt := 334) hx hb (by omega) (by decide) dL_holds_193 (by decide) (fun c193 => ?_) (fun c193 => ?_)
                        · refine lv_iload hx hb dL_holds_334 (lv_at hl 3 rfl) ?_
                          refine kn_if_eq_not hx hb (by decide) dL_holds_336 ?_ 348 (by decide)
                          refine lv_iload hx hb dL_holds_339 (lv_at hl 1 rfl) ?_
                          refine kn_if_eq (tgt := 348) hx hb (by omega) dL_holds_341 (by decide) (fun z => absurd z (by have h9 := (pW_in hok ro).2; omega)) (fun c341 => ?_)
                          refine lv_iconst (v := nI 1) hx hb dL_holds_344 (by decide) ?_
                          refine lv_goto (tgt := 349) hx hb dL_holds_345 (by decide) ?_
                          refine lv_istore (lv' := [(4, .int (nI (1))), (10, .int (nI (pl))), (9, .int (nI (ov2))), (8, .int (nI (ro))), (7, .int (nI (pOrig S k2))), (6, .int (nI (pRows S k2))), (5, .int (nI (k2))), (3, .int (mnyN S.2.2 5)), (0, .ref (yh)), (1, .ref (na)), (2, .int (nI (x)))]) hx hb dL_holds_349 hl (by decide) rfl (fun ls hl => ?_)
                          refine lv_iinc (lv' := [(5, .int (nI (k2 + 1))), (4, .int (nI (1))), (10, .int (nI (pl))), (9, .int (nI (ov2))), (8, .int (nI (ro))), (7, .int (nI (pOrig S k2))), (6, .int (nI (pRows S k2))), (3, .int (mnyN S.2.2 5)), (0, .ref (yh)), (1, .ref (na)), (2, .int (nI (x)))]) hx hb dL_holds_351 hl (k := 6) rfl (kn_iinc k2 1) (by decide) rfl (fun ls hl => ?_)
                          refine lv_goto (tgt := 32) hx hb dL_holds_354 (by decide) ?_
                          refine W.widen (k := 10 + 300 * (k2 + 1)) (n := 60 + 1800 * (k2 + 1)) (by omega) (by omega) ?_
                          exact ihk32 (k2 + 1) y189a (by omega) hY hh (by omega) _ _ hV hS ls (lv_sub hl [0, 1, 7, 8, 9, 10] rfl)
                        · refine lv_iload hx hb dL_holds_196 (lv_at hl 3 rfl) ?_
                          refine kn_if_eq_not hx hb (by decide) dL_holds_198 ?_ 334 (by decide)
                          refine lv_iload hx hb dL_holds_201 (lv_at hl 5 rfl) ?_
                          refine kn_if_le (tgt := 334) hx hb (by omega) dL_holds_203 (by decide) (fun c203 => ?_) (fun c203 => ?_)
                          · refine lv_iload hx hb dL_holds_334 (lv_at hl 3 rfl) ?_
                            refine kn_if_eq_not hx hb (by decide) dL_holds_336 ?_ 348 (by decide)
                            refine lv_iload hx hb dL_holds_339 (lv_at hl 1 rfl) ?_
                            refine kn_if_eq (tgt := 348) hx hb (by omega) dL_holds_341 (by decide) (fun z => absurd z (by have h9 := (pW_in hok ro).2; omega)) (fun c341 => ?_)
                            refine lv_iconst (v := nI 1) hx hb dL_holds_344 (by decide) ?_
                            refine lv_goto (tgt := 349) hx hb dL_holds_345 (by decide) ?_
                            refine lv_istore (lv' := [(4, .int (nI (1))), (10, .int (nI (pl))), (9, .int (nI (ov2))), (8, .int (nI (ro))), (7, .int (nI (pOrig S k2))), (6, .int (nI (pRows S k2))), (5, .int (nI (k2))), (3, .int (mnyN S.2.2 5)), (0, .ref (yh)), (1, .ref (na)), (2, .int (nI (x)))]) hx hb dL_holds_349 hl (by decide) rfl (fun ls hl => ?_)
                            refine lv_iinc (lv' := [(5, .int (nI (k2 + 1))), (4, .int (nI (1))), (10, .int (nI (pl))), (9, .int (nI (ov2))), (8, .int (nI (ro))), (7, .int (nI (pOrig S k2))), (6, .int (nI (pRows S k2))), (3, .int (mnyN S.2.2 5)), (0, .ref (yh)), (1, .ref (na)), (2, .int (nI (x)))]) hx hb dL_holds_351 hl (k := 6) rfl (kn_iinc k2 1) (by decide) rfl (fun ls hl => ?_)
                            refine lv_goto (tgt := 32) hx hb dL_holds_354 (by decide) ?_
                            refine W.widen (k := 10 + 300 * (k2 + 1)) (n := 60 + 1800 * (k2 + 1)) (by omega) (by omega) ?_
                            exact ihk32 (k2 + 1) y189a (by omega) hY hh (by omega) _ _ hV hS ls (lv_sub hl [0, 1, 7, 8, 9, 10] rfl)
                          · refine lv_aload_n hx hb dL_holds_206 rfl (lv_at hl 8 rfl) ?_
                            refine lv_iload hx hb dL_holds_207 (lv_at hl 6 rfl) ?_
                            refine lv_iload hx hb dL_holds_209 (lv_at hl 2 rfl) ?_
                            refine lv_iload hx hb dL_holds_211 (lv_at hl 0 rfl) ?_
                            refine kc_i (vx_runSW (As := [.ref (yh), .int (nI (k2)), .int (nI (ro)), .int (nI (pl))]) (rest := []) hF (c_L_stitch l G S y189a yh ([(na, aN (kcI G) 3 f)] ++ wr) (nI k2) (nI ro) (nI pl) ((0, (nI (pSt S k2 ro pl)), S)) (ok_stitch hn16 c37 (hro c203) hr40 (by omega)) hlt hh hI hY) (vx_cwSW 4 hts gL_holds_L_stitch rfl rfl rfl (by decide +kernel) ⟨Nat.le_of_ble_eq_true rfl, Nat.le_of_ble_eq_true rfl⟩) (kPreS hE hS hV) rfl rfl hl.1 rfl (lv_room (Nat.le_of_ble_eq_true rfl)) dL_holds_213 ⟨(show 30 + 300 * k2 + 6 * pl + 2 ≤ 4930 by omega), (show 200 + 1800 * k2 + 36 * pl + 12 ≤ 29100 by omega)⟩) hS (fun r_51 u_50 H locs hp_49 hV hS => ?_)
                            obtain ⟨hp_490, hY, hh⟩ := hp_49
                            have hY : yI G S u_50 := hY
                            have hp_490 : (nI (pSt S k2 ro pl)) = r_51 := (hp_490.trans (vI_0 ((nI (pSt S k2 ro pl))) S)).symm
                            subst hp_490
                            have hV : kV G (siteW G S u_50 ++ ([(na, aN (kcI G) 3 f)] ++ wr)) _ := hV
                            have hst := pSt_le S k2 ro pl
                            have hpo : pSt S k2 ro pl = 0 ↔ pW S k2 ro ≤ pl := pSt_over
                            refine lv_istore (lv' := [(11, .int (nI (pSt S k2 ro pl))), (10, .int (nI (pl))), (9, .int (nI (ov2))), (8, .int (nI (ro))), (4, .int (nI (1))), (7, .int (nI (pOrig S k2))), (6, .int (nI (pRows S k2))), (5, .int (nI (k2))), (3, .int (mnyN S.2.2 5)), (0, .ref (yh)), (1, .ref (na)), (2, .int (nI (x)))]) hx hb dL_holds_216 hl (by decide) rfl (fun ls hl => ?_)
                            refine lv_iload hx hb dL_holds_218 (lv_at hl 0 rfl) ?_
                            refine lv_if_lt (tgt := 308) hx hb dL_holds_220 (by decide) (fun z => absurd z (nI_pos (by omega))) (fun _ => ?_)
                            refine lv_iload hx hb dL_holds_223 (lv_at hl 0 rfl) ?_
                            refine lv_iconst (v := nI 2) hx hb dL_holds_225 (by decide) ?_
                            refine kn_gt (tgt := 308) hx hb (by omega) (by decide) dL_holds_226 (by decide) (fun z => absurd z (by omega)) (fun c226 => ?_)
                            have k239 : ∀ (H : Heap) (locs : List Loc), kV G (siteW G S u_50 ++ ([(na, aN (kcI G) 3 f)] ++ wr)) H → va_S (kA G) s.heap H locs → ∀ (ls : Array Slot), lv_has ls 12 [(11, .int (nI (pSt S k2 ro pl))), (10, .int (nI (pl))), (9, .int (nI (ov2))), (8, .int (nI (ro))), (4, .int (nI (1))), (7, .int (nI (pOrig S k2))), (6, .int (nI (pRows S k2))), (5, .int (nI (k2))), (3, .int (mnyN S.2.2 5)), (0, .ref (yh)), (1, .ref (na)), (2, .int (nI (x)))] → W pp l ee (headSpec wsL_holds ({ frames := 10, cells := 4930, slots := 29100, locals := 178 } : Room)).room s m [.ref (yh), .ref (na), .int (nI (x))].toArray below meth cc0 H locs (30 + 300 * k2 + 6 * pl + 2) (200 + 1800 * k2 + 36 * pl + 12) (MQ below (kQi G (S := kY) (fun z u => z = nI 1 ∧ yI G S u ∧ yH u 0 = yh) (fun u => siteW G S u ++ ([(na, aN (kcI G) 3 f)] ++ wr))) [.ref (yh), .ref (na), .int (nI (x))].toArray s 4930 29100 (kA G)) (F0 m 239 ls []) := by
                              intro  H locs hV hS ls hl
                              have k249 : ∀ (H : Heap) (locs : List Loc), kV G (siteW G S u_50 ++ ([(na, aN (kcI G) 3 f)] ++ wr)) H → va_S (kA G) s.heap H locs → ∀ (ls : Array Slot), lv_has ls 12 [(11, .int (nI (pSt S k2 ro pl))), (10, .int (nI (pl))), (9, .int (nI (ov2))), (8, .int (nI (ro))), (4, .int (nI (1))), (7, .int (nI (pOrig S k2))), (6, .int (nI (pRows S k2))), (5, .int (nI (k2))), (3, .int (mnyN S.2.2 5)), (0, .ref (yh)), (1, .ref (na)), (2, .int (nI (x)))] → W pp l ee (headSpec wsL_holds ({ frames := 10, cells := 4930, slots := 29100, locals := 178 } : Room)).room s m [.ref (yh), .ref (na), .int (nI (x))].toArray below meth cc0 H locs (30 + 300 * k2 + 6 * pl + 2) (200 + 1800 * k2 + 36 * pl + 12) (MQ below (kQi G (S := kY) (fun z u => z = nI 1 ∧ yI G S u ∧ yH u 0 = yh) (fun u => siteW G S u ++ ([(na, aN (kcI G) 3 f)] ++ wr))) [.ref (yh), .ref (na), .int (nI (x))].toArray s 4930 29100 (kA G)) (F0 m 249 ls []) := by
                                intro  H locs hV hS ls hl
                                have k274 : ∀ (y274 : kY) (hY : yI G S y274) (hh : yH y274 0 = yh) (H : Heap) (locs : List Loc), kV G (siteW G S y274 ++ ([(na, aN (kcI G) 3 f)] ++ wr)) H → va_S (kA G) s.heap H locs → ∀ (ls : Array Slot), lv_has ls 12 [(11, .int (nI (pSt S k2 ro pl))), (10, .int (nI (pl))), (9, .int (nI (ov2))), (8, .int (nI (ro))), (4, .int (nI (1))), (7, .int (nI (pOrig S k2))), (6, .int (nI (pRows S k2))), (5, .int (nI (k2))), (3, .int (mnyN S.2.2 5)), (0, .ref (yh)), (1, .ref (na)), (2, .int (nI (x)))] → W pp l ee (headSpec wsL_holds ({ frames := 10, cells := 4930, slots := 29100, locals := 178 } : Room)).room s m [.ref (yh), .ref (na), .int (nI (x))].toArray below meth cc0 H locs (30 + 300 * k2 + 6 * pl + 2 + 2) (200 + 1800 * k2 + 36 * pl + 12 + 12) (MQ below (kQi G (S := kY) (fun z u => z = nI 1 ∧ yI G S u ∧ yH u 0 = yh) (fun u => siteW G S u ++ ([(na, aN (kcI G) 3 f)] ++ wr))) [.ref (yh), .ref (na), .int (nI (x))].toArray s 4930 29100 (kA G)) (F0 m 274 ls []) := by
                                  intro y274 hY hh H locs hV hS ls hl
                                  have k304 : ∀ (y304 : kY) (hY : yI G S y304) (hh : yH y304 0 = yh) (H : Heap) (locs : List Loc), kV G (siteW G S y304 ++ ([(na, aN (kcI G) 3 f)] ++ wr)) H → va_S (kA G) s.heap H locs → ∀ (ls : Array Slot), lv_has ls 12 [(11, .int (nI (pSt S k2 ro pl))), (10, .int (nI (pl))), (9, .int (nI (ov2))), (8, .int (nI (ro))), (4, .int (nI (1))), (7, .int (nI (pOrig S k2))), (6, .int (nI (pRows S k2))), (5, .int (nI (k2))), (3, .int (mnyN S.2.2 5)), (0, .ref (yh)), (1, .ref (na)), (2, .int (nI (x)))] → W pp l ee (headSpec wsL_holds ({ frames := 10, cells := 4930, slots := 29100, locals := 178 } : Room)).room s m [.ref (yh), .ref (na), .int (nI (x))].toArray below meth cc0 H locs (30 + 300 * k2 + 6 * pl + 2 + 2 + 2) (200 + 1800 * k2 + 36 * pl + 12 + 12 + 12) (MQ below (kQi G (S := kY) (fun z u => z = nI 1 ∧ yI G S u ∧ yH u 0 = yh) (fun u => siteW G S u ++ ([(na, aN (kcI G) 3 f)] ++ wr))) [.ref (yh), .ref (na), .int (nI (x))].toArray s 4930 29100 (kA G)) (F0 m 304 ls []) := by
                                    intro y304 hY hh H locs hV hS ls hl
                                    refine lv_iconst (v := nI 1) hx hb dL_holds_304 (by decide) ?_
                                    refine lv_goto (tgt := 309) hx hb dL_holds_305 (by decide) ?_
                                    refine lv_istore (lv' := [(4, .int (nI (1))), (11, .int (nI (pSt S k2 ro pl))), (10, .int (nI (pl))), (9, .int (nI (ov2))), (8, .int (nI (ro))), (7, .int (nI (pOrig S k2))), (6, .int (nI (pRows S k2))), (5, .int (nI (k2))), (3, .int (mnyN S.2.2 5)), (0, .ref (yh)), (1, .ref (na)), (2, .int (nI (x)))]) hx hb dL_holds_309 hl (by decide) rfl (fun ls hl => ?_)
                                    refine lv_iload hx hb dL_holds_311 (lv_at hl 3 rfl) ?_
                                    refine kn_if_ne (tgt := 321) hx hb (by omega) dL_holds_313 (by decide) (fun c313 => ?_) (fun c313 => ?_)
                                    · refine lv_iconst (v := nI 1) hx hb dL_holds_321 (by decide) ?_
                                      refine lv_goto (tgt := 326) hx hb dL_holds_322 (by decide) ?_
                                      refine lv_istore (lv' := [(9, .int (nI (1))), (4, .int (nI (1))), (11, .int (nI (pSt S k2 ro pl))), (10, .int (nI (pl))), (8, .int (nI (ro))), (7, .int (nI (pOrig S k2))), (6, .int (nI (pRows S k2))), (5, .int (nI (k2))), (3, .int (mnyN S.2.2 5)), (0, .ref (yh)), (1, .ref (na)), (2, .int (nI (x)))]) hx hb dL_holds_326 hl (by decide) rfl (fun ls hl => ?_)
                                      refine lv_iinc (lv' := [(10, .int (nI (pl + 1))), (9, .int (nI (1))), (4, .int (nI (1))), (11, .int (nI (pSt S k2 ro pl))), (8, .int (nI (ro))), (7, .int (nI (pOrig S k2))), (6, .int (nI (pRows S k2))), (5, .int (nI (k2))), (3, .int (mnyN S.2.2 5)), (0, .ref (yh)), (1, .ref (na)), (2, .int (nI (x)))]) hx hb dL_holds_328 hl (k := 3) rfl (kn_iinc pl 1) (by decide) rfl (fun ls hl => ?_)
                                      refine lv_goto (tgt := 189) hx hb dL_holds_331 (by decide) ?_
                                      refine W.widen (k := 30 + 300 * k2 + 6 * (pl + 1)) (n := 200 + 1800 * k2 + 36 * (pl + 1)) (by omega) (by omega) ?_
                                      exact ihk189 (pl + 1) y304 1 (by omega) hY hh (by omega) (by omega) (by omega) (by omega) _ _ hV hS ls (lv_sub hl [0, 1, 4, 2, 5, 6, 7, 8, 9, 10, 11] rfl)
                                    · refine lv_iload hx hb dL_holds_316 (lv_at hl 1 rfl) ?_
                                      refine kn_if_ne (tgt := 325) hx hb (by omega) dL_holds_318 (by decide) (fun c318 => ?_) (fun c318 => ?_)
                                      · refine lv_iconst (v := nI 0) hx hb dL_holds_325 (by decide) ?_
                                        refine lv_istore (lv' := [(9, .int (nI (0))), (4, .int (nI (1))), (11, .int (nI (pSt S k2 ro pl))), (10, .int (nI (pl))), (8, .int (nI (ro))), (7, .int (nI (pOrig S k2))), (6, .int (nI (pRows S k2))), (5, .int (nI (k2))), (3, .int (mnyN S.2.2 5)), (0, .ref (yh)), (1, .ref (na)), (2, .int (nI (x)))]) hx hb dL_holds_326 hl (by decide) rfl (fun ls hl => ?_)
                                        refine lv_iinc (lv' := [(10, .int (nI (pl + 1))), (9, .int (nI (0))), (4, .int (nI (1))), (11, .int (nI (pSt S k2 ro pl))), (8, .int (nI (ro))), (7, .int (nI (pOrig S k2))), (6, .int (nI (pRows S k2))), (5, .int (nI (k2))), (3, .int (mnyN S.2.2 5)), (0, .ref (yh)), (1, .ref (na)), (2, .int (nI (x)))]) hx hb dL_holds_328 hl (k := 3) rfl (kn_iinc pl 1) (by decide) rfl (fun ls hl => ?_)
                                        refine lv_goto (tgt := 189) hx hb dL_holds_331 (by decide) ?_
                                        refine W.widen (k := 30 + 300 * k2 + 6 * (pl + 1)) (n := 200 + 1800 * k2 + 36 * (pl + 1)) (by omega) (by omega) ?_
                                        exact ihk189 (pl + 1) y304 0 (by omega) hY hh (by omega) (by omega) (by omega) (by omega) _ _ hV hS ls (lv_sub hl [0, 1, 4, 2, 5, 6, 7, 8, 9, 10, 11] rfl)
                                      · refine lv_iconst (v := nI 1) hx hb dL_holds_321 (by decide) ?_
                                        refine lv_goto (tgt := 326) hx hb dL_holds_322 (by decide) ?_
                                        refine lv_istore (lv' := [(9, .int (nI (1))), (4, .int (nI (1))), (11, .int (nI (pSt S k2 ro pl))), (10, .int (nI (pl))), (8, .int (nI (ro))), (7, .int (nI (pOrig S k2))), (6, .int (nI (pRows S k2))), (5, .int (nI (k2))), (3, .int (mnyN S.2.2 5)), (0, .ref (yh)), (1, .ref (na)), (2, .int (nI (x)))]) hx hb dL_holds_326 hl (by decide) rfl (fun ls hl => ?_)
                                        refine lv_iinc (lv' := [(10, .int (nI (pl + 1))), (9, .int (nI (1))), (4, .int (nI (1))), (11, .int (nI (pSt S k2 ro pl))), (8, .int (nI (ro))), (7, .int (nI (pOrig S k2))), (6, .int (nI (pRows S k2))), (5, .int (nI (k2))), (3, .int (mnyN S.2.2 5)), (0, .ref (yh)), (1, .ref (na)), (2, .int (nI (x)))]) hx hb dL_holds_328 hl (k := 3) rfl (kn_iinc pl 1) (by decide) rfl (fun ls hl => ?_)
                                        refine lv_goto (tgt := 189) hx hb dL_holds_331 (by decide) ?_
                                        refine W.widen (k := 30 + 300 * k2 + 6 * (pl + 1)) (n := 200 + 1800 * k2 + 36 * (pl + 1)) (by omega) (by omega) ?_
                                        exact ihk189 (pl + 1) y304 1 (by omega) hY hh (by omega) (by omega) (by omega) (by omega) _ _ hV hS ls (lv_sub hl [0, 1, 4, 2, 5, 6, 7, 8, 9, 10, 11] rfl)
                                  refine lv_iload hx hb dL_holds_274 (lv_at hl 5 rfl) ?_
                                  refine lv_if_lt (tgt := 304) hx hb dL_holds_276 (by decide) (fun z => absurd z (nI_pos (by omega))) (fun _ => ?_)
                                  refine lv_iload hx hb dL_holds_279 (lv_at hl 1 rfl) ?_
                                  refine lv_iconst (v := nI 3) hx hb dL_holds_281 (by decide) ?_
                                  refine kn_rem hx hb (by omega) (by omega) (by omega) dL_holds_282 ?_
                                  refine lv_iload_n hx hb dL_holds_283 rfl (lv_at hl 11 rfl) ?_
                                  refine lv_iconst (v := nI 3) hx hb dL_holds_284 (by decide) ?_
                                  refine kn_rem hx hb (by omega) (by omega) (by omega) dL_holds_285 ?_
                                  refine kn_ne (tgt := 304) hx hb (by omega) (by omega) dL_holds_286 (by decide) (fun c286 => ?_) (fun c286 => ?_)
                                  · refine W.widen (k := 30 + 300 * k2 + 6 * pl + 2 + 2 + 2) (n := 200 + 1800 * k2 + 36 * pl + 12 + 12 + 12) (by omega) (by omega) ?_
                                    exact k304 y274 hY hh _ _ hV hS ls (lv_sub hl [0, 1, 2, 3, 4, 5, 6, 7, 8, 9, 10, 11] rfl)
                                  · refine lv_aload_n hx hb dL_holds_289 rfl (lv_at hl 9 rfl) ?_
                                    refine lv_iload hx hb dL_holds_290 (lv_at hl 5 rfl) ?_
                                    refine lv_iload hx hb dL_holds_292 (lv_at hl 3 rfl) ?_
                                    refine lv_iload hx hb dL_holds_294 (lv_at hl 1 rfl) ?_
                                    have hro2 : ro < pRows S (pOrig S k2) := by rw [pOrig_al.1]; exact hro c203
                                    refine kc_i (vx_runSW (As := [.ref (yh), .int (nI (pOrig S k2)), .int (nI (ro)), .int (nI (pl))]) (rest := []) hF (c_L_stitch l G S y274 yh ([(na, aN (kcI G) 3 f)] ++ wr) (nI (pOrig S k2)) (nI ro) (nI pl) ((0, (nI (pSt S k2 ro pl)), S)) (by rw [ok_stitch hn16 hor hro2 (by rw [pOrig_al.1]; exact hr40) (by omega), pSt_al (hpat _ hor).1 hok pOrig_al hro2]) hlt hh hI hY) (vx_cwSW 4 hts gL_holds_L_stitch rfl rfl rfl (by decide +kernel) ⟨Nat.le_of_ble_eq_true rfl, Nat.le_of_ble_eq_true rfl⟩) (kPreS hE hS hV) rfl rfl hl.1 rfl (lv_room (Nat.le_of_ble_eq_true rfl)) dL_holds_296 ⟨(show 30 + 300 * k2 + 6 * pl + 2 + 2 + 2 ≤ 4930 by omega), (show 200 + 1800 * k2 + 36 * pl + 12 + 12 + 12 ≤ 29100 by omega)⟩) hS (fun r_54 u_53 H locs hp_52 hV hS => ?_)
                                    obtain ⟨hp_520, hY, hh⟩ := hp_52
                                    have hY : yI G S u_53 := hY
                                    have hp_520 : (nI (pSt S k2 ro pl)) = r_54 := (hp_520.trans (vI_0 ((nI (pSt S k2 ro pl))) S)).symm
                                    subst hp_520
                                    have hV : kV G (siteW G S u_53 ++ ([(na, aN (kcI G) 3 f)] ++ wr)) _ := hV
                                    refine lv_iload hx hb dL_holds_299 (lv_at hl 0 rfl) ?_
                                    refine lv_icmp_ne (tgt := 308) hx hb dL_holds_301 (by decide) (fun z => absurd rfl z) (fun _ => ?_)
                                    exact k304 u_53 hY hh _ _ hV hS ls (lv_sub hl [0, 1, 2, 3, 4, 5, 6, 7, 8, 9, 10, 11] rfl)
                                refine lv_iload hx hb dL_holds_249 (lv_at hl 1 rfl) ?_
                                refine lv_iconst (v := nI 4) hx hb dL_holds_251 (by decide) ?_
                                refine kn_rem hx hb (by omega) (by omega) (by omega) dL_holds_252 ?_
                                refine lv_iload_n hx hb dL_holds_253 rfl (lv_at hl 11 rfl) ?_
                                refine lv_iconst (v := nI 4) hx hb dL_holds_254 (by decide) ?_
                                refine kn_rem hx hb (by omega) (by omega) (by omega) dL_holds_255 ?_
                                refine kn_ne (tgt := 274) hx hb (by omega) (by omega) dL_holds_256 (by decide) (fun c256 => ?_) (fun c256 => ?_)
                                · refine W.widen (k := 30 + 300 * k2 + 6 * pl + 2 + 2) (n := 200 + 1800 * k2 + 36 * pl + 12 + 12) (by omega) (by omega) ?_
                                  exact k274 u_50 hY hh _ _ hV hS ls (lv_sub hl [0, 1, 2, 3, 4, 5, 6, 7, 8, 9, 10, 11] rfl)
                                · refine lv_aload_n hx hb dL_holds_259 rfl (lv_at hl 9 rfl) ?_
                                  refine lv_iload hx hb dL_holds_260 (lv_at hl 7 rfl) ?_
                                  refine lv_iload hx hb dL_holds_262 (lv_at hl 3 rfl) ?_
                                  refine lv_iload hx hb dL_holds_264 (lv_at hl 1 rfl) ?_
                                  refine kc_i (vx_runSW (As := [.ref (yh), .int (nI (k2)), .int (nI (ro)), .int (nI (pl))]) (rest := []) hF (c_L_byWork l G S u_50 yh ([(na, aN (kcI G) 3 f)] ++ wr) (nI k2) (nI ro) (nI pl) ((0, (nI (pSt S k2 ro pl)), S)) (ok_stitch hn16 c37 (hro c203) hr40 (by omega)) hlt hh hI hY) (vx_cwSW 4 hts gL_holds_L_byWork rfl rfl rfl (by decide +kernel) ⟨Nat.le_of_ble_eq_true rfl, Nat.le_of_ble_eq_true rfl⟩) (kPreS hE hS hV) rfl rfl hl.1 rfl (lv_room (Nat.le_of_ble_eq_true rfl)) dL_holds_266 ⟨(show 30 + 300 * k2 + 6 * pl + 2 + 2 ≤ 4930 by omega), (show 200 + 1800 * k2 + 36 * pl + 12 + 12 ≤ 29100 by omega)⟩) hS (fun r_57 u_56 H locs hp_55 hV hS => ?_)
                                  obtain ⟨hp_550, hY, hh⟩ := hp_55
                                  have hY : yI G S u_56 := hY
                                  have hp_550 : (nI (pSt S k2 ro pl)) = r_57 := (hp_550.trans (vI_0 ((nI (pSt S k2 ro pl))) S)).symm
                                  subst hp_550
                                  have hV : kV G (siteW G S u_56 ++ ([(na, aN (kcI G) 3 f)] ++ wr)) _ := hV
                                  refine lv_iload hx hb dL_holds_269 (lv_at hl 0 rfl) ?_
                                  refine lv_icmp_ne (tgt := 308) hx hb dL_holds_271 (by decide) (fun z => absurd rfl z) (fun _ => ?_)
                                  exact k274 u_56 hY hh _ _ hV hS ls (lv_sub hl [0, 1, 2, 3, 4, 5, 6, 7, 8, 9, 10, 11] rfl)
                              refine lv_iload hx hb dL_holds_239 (lv_at hl 2 rfl) ?_
                              refine kn_if_eq (tgt := 249) hx hb (by omega) dL_holds_241 (by decide) (fun c241 => ?_) (fun c241 => ?_)
                              · exact k249  _ _ hV hS ls (lv_sub hl [0, 1, 2, 3, 4, 5, 6, 7, 8, 9, 10, 11] rfl)
                              · refine lv_iload hx hb dL_holds_244 (lv_at hl 0 rfl) ?_
                                refine kn_if_ne (tgt := 308) hx hb (by omega) dL_holds_246 (by decide) (fun z => absurd (pSt_over.mpr (Nat.le_of_lt ((hovi c203).mp (by omega)))) z) (fun c246 => ?_)
                                exact k249  _ _ hV hS ls (lv_sub hl [0, 1, 2, 3, 4, 5, 6, 7, 8, 9, 10, 11] rfl)
                            refine lv_iload hx hb dL_holds_229 (lv_at hl 1 rfl) ?_
                            refine kn_if_gt (tgt := 239) hx hb (by omega) dL_holds_231 (by decide) (fun c231 => ?_) (fun c231 => ?_)
                            · exact k239  _ _ hV hS ls (lv_sub hl [0, 1, 2, 3, 4, 5, 6, 7, 8, 9, 10, 11] rfl)
                            · refine lv_iload hx hb dL_holds_234 (lv_at hl 0 rfl) ?_
                              refine kn_if_le (tgt := 308) hx hb (by omega) dL_holds_236 (by decide) (fun z => absurd z (by have h9 := pSt_0 (r := ro) hok; rw [c231]; omega)) (fun c236 => ?_)
                              exact k239  _ _ hV hS ls (lv_sub hl [0, 1, 2, 3, 4, 5, 6, 7, 8, 9, 10, 11] rfl)
                    refine W.widen (k := 30 + 300 * k2 + 6 * 0) (n := 200 + 1800 * k2 + 36 * 0) (by omega) (by omega) ?_
                    exact k189 ((41 - 0) + 1) 0 u_47 ov (by omega) hY hh (by omega) (by omega) (by omega) (Nat.lt_succ_self _) _ _ hV hS ls (lv_sub hl [0, 1, 2, 3, 4, 5, 6, 7, 8, 9, 10] rfl)
                  refine lv_iload hx hb dL_holds_174 (lv_at hl 3 rfl) ?_
                  refine kn_if_ne (tgt := 183) hx hb (by omega) dL_holds_176 (by decide) (fun c176 => ?_) (fun c176 => ?_)
                  · refine lv_iconst (v := nI 0) hx hb dL_holds_183 (by decide) ?_
                    exact k184 0 (by decide) (by omega) (by omega) _ _ hV hS ls (lv_sub hl [0, 1, 2, 3, 4, 5, 6, 7, 8] rfl)
                  · refine lv_iconst (v := nI 1) hx hb dL_holds_179 (by decide) ?_
                    refine lv_goto (tgt := 184) hx hb dL_holds_180 (by decide) ?_
                    exact k184 1 (by decide) (by omega) (by omega) _ _ hV hS ls (lv_sub hl [0, 1, 2, 3, 4, 5, 6, 7, 8] rfl)
                refine lv_iload hx hb dL_holds_159 (lv_at hl 2 rfl) ?_
                refine kn_if_ne (tgt := 168) hx hb (by omega) dL_holds_161 (by decide) (fun c161 => ?_) (fun c161 => ?_)
                · refine lv_iload_n hx hb dL_holds_168 rfl (lv_at hl 7 rfl) ?_
                  refine lv_iload hx hb dL_holds_169 (lv_at hl 2 rfl) ?_
                  refine kn_rem hx hb (by omega) (by omega) (by omega) dL_holds_171 ?_
                  exact k172 (x % (pRows S k2)) (fun z => Nat.mod_lt _ z) _ _ hV hS ls (lv_sub hl [0, 1, 2, 3, 4, 5, 6, 7] rfl)
                · refine lv_iconst (v := nI 0) hx hb dL_holds_164 (by decide) ?_
                  refine lv_goto (tgt := 172) hx hb dL_holds_165 (by decide) ?_
                  exact k172 0 (fun z => absurd z (by omega)) _ _ hV hS ls (lv_sub hl [0, 1, 2, 3, 4, 5, 6, 7] rfl)
        refine W.widen (k := 10 + 300 * 0) (n := 60 + 1800 * 0) (by omega) (by omega) ?_
        exact k32 ((S.1 1 0 - 0) + 1) 0 y8a (by omega) hY hh (Nat.lt_succ_self _) _ _ hV hS ls (lv_sub hl [0, 1, 2, 3, 4, 5] rfl)
      · refine lv_iload_n hx hb dL_holds_14 rfl (lv_at hl 2 rfl) ?_
        refine lv_aload_n hx hb dL_holds_15 rfl (lv_at hl 3 rfl) ?_
        refine lv_iload hx hb dL_holds_16 (lv_at hl 0 rfl) ?_
        refine kc_i (vx_runSW (As := [.ref (yh), .int (nI (k))]) (rest := [.int (mnyN S.2.2 k)]) hF (c_L_money l G S y8a yh ([(na, aN (kcI G) 3 f)] ++ wr) (nI k) ((0, (S.2.2 k), S)) (ok_money c11) hlt hh hI hY) (vx_cwSW 2 hts gL_holds_L_money rfl rfl rfl (by decide +kernel) ⟨Nat.le_of_ble_eq_true rfl, Nat.le_of_ble_eq_true rfl⟩) (kPreS hE hS hV) rfl rfl hl.1 rfl (lv_room (Nat.le_of_ble_eq_true rfl)) dL_holds_18 ⟨(show k + 1 ≤ 4930 by omega), (show 6 * k + 6 ≤ 29100 by omega)⟩) hS (fun r_60 u_59 H locs hp_58 hV hS => ?_)
        obtain ⟨hp_580, hY, hh⟩ := hp_58
        have hY : yI G S u_59 := hY
        have hp_580 : (S.2.2 k) = r_60 := (hp_580.trans (vI_0 ((S.2.2 k)) S)).symm
        subst hp_580
        have hV : kV G (siteW G S u_59 ++ ([(na, aN (kcI G) 3 f)] ++ wr)) _ := hV
        refine lv_iadd hx hb dL_holds_21 ?_
        refine lv_istore_n (lv' := [(3, .int ((mnyN S.2.2 k) + (S.2.2 k))), (5, .int (nI (k))), (4, .int (nI (1))), (0, .ref (yh)), (1, .ref (na)), (2, .int (nI (x)))]) hx hb dL_holds_22 rfl hl (by decide) rfl (fun ls hl => ?_)
        refine lv_iinc (lv' := [(5, .int (nI (k + 1))), (3, .int ((mnyN S.2.2 k) + (S.2.2 k))), (4, .int (nI (1))), (0, .ref (yh)), (1, .ref (na)), (2, .int (nI (x)))]) hx hb dL_holds_23 hl (k := 1) rfl (kn_iinc k 1) (by decide) rfl (fun ls hl => ?_)
        refine lv_goto (tgt := 8) hx hb dL_holds_26 (by decide) ?_
        refine W.widen (k := (k + 1)) (n := 6 * (k + 1)) (by omega) (by omega) ?_
        exact ihk8 (k + 1) u_59 (by omega) hY hh (by omega) _ _ hV hS ls (lv_sub hl [0, 2, 1, 3, 4, 5] rfl)
  refine W.widen (k := 0) (n := 6 * 0) (by omega) (by omega) ?_
  exact k8 ((5 - 0) + 1) 0 y (by omega) hY hh (Nat.lt_succ_self _) _ _ hV hS ls (lv_sub hl [0, 1, 2, 3, 4, 5] rfl)
