/-! AN ACT: which call it is, by x; its answer and the state then -/
def aPa (S : kS) (x : Nat) : Nat := if S.1 1 0 = 0 then 0 else x / 32 / 5 % S.1 1 0
def aLo (S : kS) (x : Nat) : Nat := if S.1 15 0 = 0 then 0 else x / 32 / 7 % S.1 15 0
def aPr (S : kS) (x : Nat) : Nat := if S.1 19 0 = 0 then 0 else x / 32 % S.1 19 0
def aSw (S : kS) (x : Nat) : Nat := if S.1 15 0 = 0 then 0 else x / 32 % S.1 15 0
def aOw (S : kS) (h : Nat → Nat) (x : Nat) : Nat := if S.1 15 0 = 0 then x / 32 % 5 else h (aLo S x)
noncomputable def a0 (S : kS) (x : Nat) : kR := opBegin S (nI (x / 32 % 5)) (nI (1 + x / 32 / 5 % 3)) (nI (x / 32 / 15 % 3 * 50))
noncomputable def a3 (S : kS) (x : Nat) : kR := opLine S (nI (aPa S x)) (nI (x / 32 % 3)) (nI (x / 32 / 3 % 2 + (if x / 32 % 3 = 0 then 1 else 0))) (if 0 < x / 32 / 6 % 4 then nI 0 else zI (((x / 32 / 24 % 7 : Nat) : Int) - ((3 : Nat) : Int))) (nI (1 + x / 32 / 11 % (if x / 32 % 5 = 0 then 20 else 2)))
noncomputable def a9 (S : kS) (x : Nat) : kR := opAnew S (nI (aPa S x)) (nI (5 + x / 32 / 11 % 16))
noncomputable def a10 (S : kS) (x : Nat) : kR := opPublish S (nI (aPa S x))
noncomputable def a14 (S : kS) (x : Nat) : kR := opBuy S (nI (aPa S x)) (nI (x / 32 % 5))
noncomputable def a18 (S : kS) (x : Nat) : kR := opRule S (nI (aPa S x))
noncomputable def a20 (S : kS) (x : Nat) : kR := opLot S (nI (x / 32 % 5)) (nI (5 + x / 32 / 5 % 16)) (nI (1 + x / 32 / 80 % (if x / 32 % 3 = 0 then 3000 else 200)))
noncomputable def a23 (S : kS) (x : Nat) : kR := opSwap S (nI (aLo S x)) (nI (aSw S x))
noncomputable def a24 (S : kS) (h : Nat → Nat) (x : Nat) : kR := opProject S (nI (aOw S h x)) (nI (aPa S x)) (nI (aLo S x))
noncomputable def a27 (S : kS) (x : Nat) : kR := opTake S (nI (aPr S x)) (nI (aLo S x))
noncomputable def a28 (S : kS) (x : Nat) : kR := opKnit S (nI (aPr S x)) (nI (1 + x / 32 / 12 % (if x / 32 % 3 = 0 then 40 else 4)))
noncomputable def actR (S : kS) (h : Nat → Nat) (x : Nat) : Int32 × kS :=
  if x % 32 < 3 then (vIAS (a0 S x), (a0 S x).2.2)
  else if x % 32 < 9 then (vIAS (a3 S x), (a3 S x).2.2)
  else if x % 32 < 10 then (vIAS (a9 S x), (a9 S x).2.2)
  else if x % 32 < 14 then (vIS (a10 S x), (a10 S x).2.2)
  else if x % 32 < 18 then (vIS (a14 S x), (a14 S x).2.2)
  else if x % 32 < 20 then (vIS (a18 S x), (a18 S x).2.2)
  else if x % 32 < 23 then (vIAS (a20 S x), (a20 S x).2.2)
  else if x % 32 < 24 then (vIS (a23 S x), (a23 S x).2.2)
  else if x % 32 < 27 then (vIS (a24 S h x), (a24 S h x).2.2)
  else if x % 32 < 28 then (vIS (a27 S x), (a27 S x).2.2)
  else (vIA (a28 S x), (a28 S x).2.2)
theorem aLo_lt {S : kS} {x : Nat} (h : S.1 15 0 ≤ 20) : aLo S x < 20 := by
  unfold aLo; split
  · omega
  · exact Nat.lt_of_lt_of_le (Nat.mod_lt _ (by omega)) h
theorem act_a0 {S : kS} {h : Nat → Nat} {x : Nat} (hk : 0 ≤ x % 32 ∧ x % 32 < 3) : actR S h x = (vIAS (a0 S x), (a0 S x).2.2) := by unfold actR; rw [if_pos (show x % 32 < 3 by omega)]
theorem act_a3 {S : kS} {h : Nat → Nat} {x : Nat} (hk : 3 ≤ x % 32 ∧ x % 32 < 9) : actR S h x = (vIAS (a3 S x), (a3 S x).2.2) := by unfold actR; rw [if_neg (show ¬ x % 32 < 3 by omega), if_pos (show x % 32 < 9 by omega)]
theorem act_a9 {S : kS} {h : Nat → Nat} {x : Nat} (hk : 9 ≤ x % 32 ∧ x % 32 < 10) : actR S h x = (vIAS (a9 S x), (a9 S x).2.2) := by unfold actR; rw [if_neg (show ¬ x % 32 < 3 by omega), if_neg (show ¬ x % 32 < 9 by omega), if_pos (show x % 32 < 10 by omega)]
theorem act_a10 {S : kS} {h : Nat → Nat} {x : Nat} (hk : 10 ≤ x % 32 ∧ x % 32 < 14) : actR S h x = (vIS (a10 S x), (a10 S x).2.2) := by unfold actR; rw [if_neg (show ¬ x % 32 < 3 by omega), if_neg (show ¬ x % 32 < 9 by omega), if_neg (show ¬ x % 32 < 10 by omega), if_pos (show x % 32 < 14 by omega)]
theorem act_a14 {S : kS} {h : Nat → Nat} {x : Nat} (hk : 14 ≤ x % 32 ∧ x % 32 < 18) : actR S h x = (vIS (a14 S x), (a14 S x).2.2) := by unfold actR; rw [if_neg (show ¬ x % 32 < 3 by omega), if_neg (show ¬ x % 32 < 9 by omega), if_neg (show ¬ x % 32 < 10 by omega), if_neg (show ¬ x % 32 < 14 by omega), if_pos (show x % 32 < 18 by omega)]
theorem act_a18 {S : kS} {h : Nat → Nat} {x : Nat} (hk : 18 ≤ x % 32 ∧ x % 32 < 20) : actR S h x = (vIS (a18 S x), (a18 S x).2.2) := by unfold actR; rw [if_neg (show ¬ x % 32 < 3 by omega), if_neg (show ¬ x % 32 < 9 by omega), if_neg (show ¬ x % 32 < 10 by omega), if_neg (show ¬ x % 32 < 14 by omega), if_neg (show ¬ x % 32 < 18 by omega), if_pos (show x % 32 < 20 by omega)]
theorem act_a20 {S : kS} {h : Nat → Nat} {x : Nat} (hk : 20 ≤ x % 32 ∧ x % 32 < 23) : actR S h x = (vIAS (a20 S x), (a20 S x).2.2) := by unfold actR; rw [if_neg (show ¬ x % 32 < 3 by omega), if_neg (show ¬ x % 32 < 9 by omega), if_neg (show ¬ x % 32 < 10 by omega), if_neg (show ¬ x % 32 < 14 by omega), if_neg (show ¬ x % 32 < 18 by omega), if_neg (show ¬ x % 32 < 20 by omega), if_pos (show x % 32 < 23 by omega)]
theorem act_a23 {S : kS} {h : Nat → Nat} {x : Nat} (hk : 23 ≤ x % 32 ∧ x % 32 < 24) : actR S h x = (vIS (a23 S x), (a23 S x).2.2) := by unfold actR; rw [if_neg (show ¬ x % 32 < 3 by omega), if_neg (show ¬ x % 32 < 9 by omega), if_neg (show ¬ x % 32 < 10 by omega), if_neg (show ¬ x % 32 < 14 by omega), if_neg (show ¬ x % 32 < 18 by omega), if_neg (show ¬ x % 32 < 20 by omega), if_neg (show ¬ x % 32 < 23 by omega), if_pos (show x % 32 < 24 by omega)]
theorem act_a24 {S : kS} {h : Nat → Nat} {x : Nat} (hk : 24 ≤ x % 32 ∧ x % 32 < 27) : actR S h x = (vIS (a24 S h x), (a24 S h x).2.2) := by unfold actR; rw [if_neg (show ¬ x % 32 < 3 by omega), if_neg (show ¬ x % 32 < 9 by omega), if_neg (show ¬ x % 32 < 10 by omega), if_neg (show ¬ x % 32 < 14 by omega), if_neg (show ¬ x % 32 < 18 by omega), if_neg (show ¬ x % 32 < 20 by omega), if_neg (show ¬ x % 32 < 23 by omega), if_neg (show ¬ x % 32 < 24 by omega), if_pos (show x % 32 < 27 by omega)]
theorem act_a27 {S : kS} {h : Nat → Nat} {x : Nat} (hk : 27 ≤ x % 32 ∧ x % 32 < 28) : actR S h x = (vIS (a27 S x), (a27 S x).2.2) := by unfold actR; rw [if_neg (show ¬ x % 32 < 3 by omega), if_neg (show ¬ x % 32 < 9 by omega), if_neg (show ¬ x % 32 < 10 by omega), if_neg (show ¬ x % 32 < 14 by omega), if_neg (show ¬ x % 32 < 18 by omega), if_neg (show ¬ x % 32 < 20 by omega), if_neg (show ¬ x % 32 < 23 by omega), if_neg (show ¬ x % 32 < 24 by omega), if_neg (show ¬ x % 32 < 27 by omega), if_pos (show x % 32 < 28 by omega)]
theorem act_a28 {S : kS} {h : Nat → Nat} {x : Nat} (hk : 28 ≤ x % 32 ∧ x % 32 < 32) : actR S h x = (vIA (a28 S x), (a28 S x).2.2) := by unfold actR; rw [if_neg (show ¬ x % 32 < 3 by omega), if_neg (show ¬ x % 32 < 9 by omega), if_neg (show ¬ x % 32 < 10 by omega), if_neg (show ¬ x % 32 < 14 by omega), if_neg (show ¬ x % 32 < 18 by omega), if_neg (show ¬ x % 32 < 20 by omega), if_neg (show ¬ x % 32 < 23 by omega), if_neg (show ¬ x % 32 < 24 by omega), if_neg (show ¬ x % 32 < 27 by omega), if_neg (show ¬ x % 32 < 28 by omega)]
set_option maxHeartbeats 4000000 in
set_option maxRecDepth 100000 in
theorem c_L_act (l : Launch) (G : kG) (S : kS) (y : kY) (yh : Nat) (f : Nat → Nat) (h : Nat → Nat) (na : Nat) (ha : Nat) (wr : va_W) (x : Nat) (hn : nOk S f) (hx9 : x < 2 ^ 31) (hlt : l.stackTraces = false) (hh : yH y 0 = yh) (hI : kInv S) (hY : yI G S y) : Met l yL_act wsL_act ({ frames := 10, cells := 18, slots := 1772, locals := 263 } : Room) (kPc G [.ref (yh), .ref (na), .ref (ha), .int (nI (x))] (siteW G S y ++ ([(na, aN (kcI G) 3 f)] ++ ([(ha, aN (kcI G) 20 h)] ++ wr)))) (kQi G (S := kY) (fun z u => z = (actR S h x).1 ∧ yI G (actR S h x).2 u ∧ yH u 0 = yh) (fun u => siteW G (actR S h x).2 u ++ ([(na, aN (kcI G) 3 f)] ++ ([(ha, aN (kcI G) 20 h)] ++ wr)))) 18 1772 (kA G) := by
  refine Met.ofW (cc := cL_act) (maxL := 9) (ret := (some .int)) (by decide) rfl ?_
  intro pp ee s m args below meth cc0 s₁ Bd0 hml hv
  obtain ⟨rfl, hE, hV⟩ := hv
  have hK := hE.1
  have hx := Bd0.exec
  have hb := Bd0.bytes
  have hrt := Bd0.returns
  have hts := atoms_spec (ws := wsL_act) Bd0.pre
  have hown : s.vm.findClass RL = some m.cls := findClass_of_methodNamed Bd0.named
  have hlocks := Bd0.notSynchronized
  have hF : CallFix pp m cc0 cL_act 9 s _ wsL_act RL := ⟨hx, hb, hml, hown, hts⟩
  have hS : va_S (kA G) s.heap s.heap [] := va_S.rf
  have hB0 := hE.2.1
  have hl := lv_entry ([.ref (yh), .ref (na), .ref (ha), .int (nI (x))]) (n := 9) (Nat.le_of_ble_eq_true rfl)
  rw [lg_entry_eq]
  generalize (lg_sl ([.ref (yh), .ref (na), .ref (ha), .int (nI (x))]) ++ List.replicate (9 - (lg_sl ([.ref (yh), .ref (na), .ref (ha), .int (nI (x))])).length) Slot.unset).toArray = ls at hl ⊢
  have hl : lv_has ls 9 [(0, .ref (yh)), (1, .ref (na)), (2, .ref (ha)), (3, .int (nI (x)))] := hl
  obtain ⟨⟨hn16, hl20, hp12, -⟩, -⟩ := id hI
  obtain ⟨hn0, hn1, hn2⟩ := id hn
  refine lv_iload_n hx hb dL_act_0 rfl (lv_at hl 3 rfl) ?_
  refine lv_bipush (v := nI 32) hx hb dL_act_1 (by decide) ?_
  refine kn_div hx hb (by omega) (by omega) (by omega) dL_act_3 ?_
  refine lv_istore (lv' := [(4, .int (nI (x / 32))), (0, .ref (yh)), (1, .ref (na)), (2, .ref (ha)), (3, .int (nI (x)))]) hx hb dL_act_4 hl (by decide) rfl (fun ls hl => ?_)
  refine lv_iload hx hb dL_act_6 (lv_at hl 0 rfl) ?_
  refine lv_iconst (v := nI 5) hx hb dL_act_8 (by decide) ?_
  refine kn_rem hx hb (by omega) (by omega) (by omega) dL_act_9 ?_
  refine lv_istore (lv' := [(5, .int (nI ((x / 32) % 5))), (4, .int (nI (x / 32))), (0, .ref (yh)), (1, .ref (na)), (2, .ref (ha)), (3, .int (nI (x)))]) hx hb dL_act_10 hl (by decide) rfl (fun ls hl => ?_)
  have k30 : ∀ (pa : Nat) (hpa : pa = aPa S x) (H : Heap) (locs : List Loc), kV G (siteW G S y ++ ([(na, aN (kcI G) 3 f)] ++ ([(ha, aN (kcI G) 20 h)] ++ wr))) H → va_S (kA G) s.heap H locs → ∀ (ls : Array Slot), lv_has ls 9 [(5, .int (nI ((x / 32) % 5))), (4, .int (nI (x / 32))), (0, .ref (yh)), (1, .ref (na)), (2, .ref (ha)), (3, .int (nI (x)))] → W pp l ee (headSpec wsL_act ({ frames := 10, cells := 18, slots := 1772, locals := 263 } : Room)).room s m [.ref (yh), .ref (na), .ref (ha), .int (nI (x))].toArray below meth cc0 H locs 0 0 (MQ below (kQi G (S := kY) (fun z u => z = (actR S h x).1 ∧ yI G (actR S h x).2 u ∧ yH u 0 = yh) (fun u => siteW G (actR S h x).2 u ++ ([(na, aN (kcI G) 3 f)] ++ ([(ha, aN (kcI G) 20 h)] ++ wr)))) [.ref (yh), .ref (na), .ref (ha), .int (nI (x))].toArray s 18 1772 (kA G)) (F0 m 30 ls [.int (nI (pa))]) := by
    intro pa hpa H locs hV hS ls hl
    refine lv_istore (lv' := [(6, .int (nI (pa))), (5, .int (nI ((x / 32) % 5))), (4, .int (nI (x / 32))), (0, .ref (yh)), (1, .ref (na)), (2, .ref (ha)), (3, .int (nI (x)))]) hx hb dL_act_30 hl (by decide) rfl (fun ls hl => ?_)
    have k51 : ∀ (lo : Nat) (hlo : lo = aLo S x) (H : Heap) (locs : List Loc), kV G (siteW G S y ++ ([(na, aN (kcI G) 3 f)] ++ ([(ha, aN (kcI G) 20 h)] ++ wr))) H → va_S (kA G) s.heap H locs → ∀ (ls : Array Slot), lv_has ls 9 [(6, .int (nI (pa))), (5, .int (nI ((x / 32) % 5))), (4, .int (nI (x / 32))), (0, .ref (yh)), (1, .ref (na)), (2, .ref (ha)), (3, .int (nI (x)))] → W pp l ee (headSpec wsL_act ({ frames := 10, cells := 18, slots := 1772, locals := 263 } : Room)).room s m [.ref (yh), .ref (na), .ref (ha), .int (nI (x))].toArray below meth cc0 H locs 0 0 (MQ below (kQi G (S := kY) (fun z u => z = (actR S h x).1 ∧ yI G (actR S h x).2 u ∧ yH u 0 = yh) (fun u => siteW G (actR S h x).2 u ++ ([(na, aN (kcI G) 3 f)] ++ ([(ha, aN (kcI G) 20 h)] ++ wr)))) [.ref (yh), .ref (na), .ref (ha), .int (nI (x))].toArray s 18 1772 (kA G)) (F0 m 51 ls [.int (nI (lo))]) := by
      intro lo hlo H locs hV hS ls hl
      refine lv_istore (lv' := [(7, .int (nI (lo))), (6, .int (nI (pa))), (5, .int (nI ((x / 32) % 5))), (4, .int (nI (x / 32))), (0, .ref (yh)), (1, .ref (na)), (2, .ref (ha)), (3, .int (nI (x)))]) hx hb dL_act_51 hl (by decide) rfl (fun ls hl => ?_)
      have k69 : ∀ (pr : Nat) (hpr : pr = aPr S x) (H : Heap) (locs : List Loc), kV G (siteW G S y ++ ([(na, aN (kcI G) 3 f)] ++ ([(ha, aN (kcI G) 20 h)] ++ wr))) H → va_S (kA G) s.heap H locs → ∀ (ls : Array Slot), lv_has ls 9 [(7, .int (nI (lo))), (6, .int (nI (pa))), (5, .int (nI ((x / 32) % 5))), (4, .int (nI (x / 32))), (0, .ref (yh)), (1, .ref (na)), (2, .ref (ha)), (3, .int (nI (x)))] → W pp l ee (headSpec wsL_act ({ frames := 10, cells := 18, slots := 1772, locals := 263 } : Room)).room s m [.ref (yh), .ref (na), .ref (ha), .int (nI (x))].toArray below meth cc0 H locs 0 0 (MQ below (kQi G (S := kY) (fun z u => z = (actR S h x).1 ∧ yI G (actR S h x).2 u ∧ yH u 0 = yh) (fun u => siteW G (actR S h x).2 u ++ ([(na, aN (kcI G) 3 f)] ++ ([(ha, aN (kcI G) 20 h)] ++ wr)))) [.ref (yh), .ref (na), .ref (ha), .int (nI (x))].toArray s 18 1772 (kA G)) (F0 m 69 ls [.int (nI (pr))]) := by
        intro pr hpr H locs hV hS ls hl
        refine lv_istore (lv' := [(8, .int (nI (pr))), (7, .int (nI (lo))), (6, .int (nI (pa))), (5, .int (nI ((x / 32) % 5))), (4, .int (nI (x / 32))), (0, .ref (yh)), (1, .ref (na)), (2, .ref (ha)), (3, .int (nI (x)))]) hx hb dL_act_69 hl (by decide) rfl (fun ls hl => ?_)
        have hlo20 : lo < 20 := by rw [hlo]; exact aLo_lt hl20
        refine lv_iload_n hx hb dL_act_71 rfl (lv_at hl 8 rfl) ?_
        refine lv_bipush (v := nI 32) hx hb dL_act_72 (by decide) ?_
        refine kn_rem hx hb (by omega) (by omega) (by omega) dL_act_74 ?_
        have k200 : ∀ (hk : 0 ≤ x % 32 ∧ x % 32 < 3) (H : Heap) (locs : List Loc), kV G (siteW G S y ++ ([(na, aN (kcI G) 3 f)] ++ ([(ha, aN (kcI G) 20 h)] ++ wr))) H → va_S (kA G) s.heap H locs → ∀ (ls : Array Slot), lv_has ls 9 [(8, .int (nI (pr))), (7, .int (nI (lo))), (6, .int (nI (pa))), (5, .int (nI ((x / 32) % 5))), (4, .int (nI (x / 32))), (0, .ref (yh)), (1, .ref (na)), (2, .ref (ha)), (3, .int (nI (x)))] → W pp l ee (headSpec wsL_act ({ frames := 10, cells := 18, slots := 1772, locals := 263 } : Room)).room s m [.ref (yh), .ref (na), .ref (ha), .int (nI (x))].toArray below meth cc0 H locs 0 0 (MQ below (kQi G (S := kY) (fun z u => z = (actR S h x).1 ∧ yI G (actR S h x).2 u ∧ yH u 0 = yh) (fun u => siteW G (actR S h x).2 u ++ ([(na, aN (kcI G) 3 f)] ++ ([(ha, aN (kcI G) 20 h)] ++ wr)))) [.ref (yh), .ref (na), .ref (ha), .int (nI (x))].toArray s 18 1772 (kA G)) (F0 m 200 ls []) := by
          intro hk H locs hV hS ls hl
          refine lv_aload_n hx hb dL_act_200 rfl (lv_at hl 5 rfl) ?_
          refine lv_iload hx hb dL_act_201 (lv_at hl 3 rfl) ?_
          refine lv_iconst (v := nI 1) hx hb dL_act_203 (by decide) ?_
          refine lv_iload hx hb dL_act_204 (lv_at hl 4 rfl) ?_
          refine lv_iconst (v := nI 5) hx hb dL_act_206 (by decide) ?_
          refine kn_div hx hb (by omega) (by omega) (by omega) dL_act_207 ?_
          refine lv_iconst (v := nI 3) hx hb dL_act_208 (by decide) ?_
          refine kn_rem hx hb (by omega) (by omega) (by omega) dL_act_209 ?_
          refine kn_add hx hb dL_act_210 ?_
          refine lv_iload hx hb dL_act_211 (lv_at hl 4 rfl) ?_
          refine lv_bipush (v := nI 15) hx hb dL_act_213 (by decide) ?_
          refine kn_div hx hb (by omega) (by omega) (by omega) dL_act_215 ?_
          refine lv_iconst (v := nI 3) hx hb dL_act_216 (by decide) ?_
          refine kn_rem hx hb (by omega) (by omega) (by omega) dL_act_217 ?_
          refine lv_bipush (v := nI 50) hx hb dL_act_218 (by decide) ?_
          refine kn_mul hx hb dL_act_220 ?_
          refine kc_i (vx_runSW (As := [.ref (yh), .int (nI ((x / 32) % 5)), .int (nI (1 + (((x / 32) / 5) % 3))), .int (nI ((((x / 32) / 15) % 3) * 50))]) (rest := []) hF (c_L_begins l G S y yh ([(na, aN (kcI G) 3 f)] ++ ([(ha, aN (kcI G) 20 h)] ++ wr)) (nI ((x / 32) % 5)) (nI (1 + (((x / 32) / 5) % 3))) (nI ((((x / 32) / 15) % 3) * 50)) ((opBegin S (nI ((x / 32) % 5)) (nI (1 + (((x / 32) / 5) % 3))) (nI ((((x / 32) / 15) % 3) * 50)))) rfl hlt hh hI hY) (vx_cwSW 4 hts gL_act_L_begins rfl rfl rfl (by decide +kernel) ⟨Nat.le_of_ble_eq_true rfl, Nat.le_of_ble_eq_true rfl⟩) (kPreS hE hS hV) rfl rfl hl.1 rfl (lv_room (Nat.le_of_ble_eq_true rfl)) dL_act_221 ⟨Nat.le_of_ble_eq_true rfl, Nat.le_of_ble_eq_true rfl⟩) hS (fun r_3 u_2 H locs hp_1 hV hS => ?_)
          obtain ⟨hp_10, hY, hh⟩ := hp_1
          have hY : yI G ((opBegin S (nI ((x / 32) % 5)) (nI (1 + (((x / 32) / 5) % 3))) (nI ((((x / 32) / 15) % 3) * 50))).2.2) u_2 := hY
          subst hp_10
          have hV : kV G (siteW G ((opBegin S (nI ((x / 32) % 5)) (nI (1 + (((x / 32) / 5) % 3))) (nI ((((x / 32) / 15) % 3) * 50))).2.2) u_2 ++ ([(na, aN (kcI G) 3 f)] ++ ([(ha, aN (kcI G) 20 h)] ++ wr))) _ := hV
          have e9 : actR S h x = (vIAS (opBegin S (nI ((x / 32) % 5)) (nI (1 + (((x / 32) / 5) % 3))) (nI ((((x / 32) / 15) % 3) * 50))), (opBegin S (nI ((x / 32) % 5)) (nI (1 + (((x / 32) / 5) % 3))) (nI ((((x / 32) / 15) % 3) * 50))).2.2) := by
            rw [act_a0 hk]; unfold a0
            rfl
          refine W.widen (k := 18) (n := 1772) (by decide) (by decide) ?_
          exact W.iret (v := (vIAS (opBegin S (nI ((x / 32) % 5)) (nI (1 + (((x / 32) / 5) % 3))) (nI ((((x / 32) / 15) % 3) * 50))))) hx hb hrt (fun t ht hW => ⟨⟨_, u_2, rfl, ⟨by rw [e9], by rw [e9]; exact hY, hh⟩, kV_eq ht (show kV G (siteW G (actR S h x).2 u_2 ++ _) _ by rw [e9]; exact hV)⟩, hS.F ht⟩) hS.2.2 dL_act_224
        have k225 : ∀ (hk : 3 ≤ x % 32 ∧ x % 32 < 9) (H : Heap) (locs : List Loc), kV G (siteW G S y ++ ([(na, aN (kcI G) 3 f)] ++ ([(ha, aN (kcI G) 20 h)] ++ wr))) H → va_S (kA G) s.heap H locs → ∀ (ls : Array Slot), lv_has ls 9 [(8, .int (nI (pr))), (7, .int (nI (lo))), (6, .int (nI (pa))), (5, .int (nI ((x / 32) % 5))), (4, .int (nI (x / 32))), (0, .ref (yh)), (1, .ref (na)), (2, .ref (ha)), (3, .int (nI (x)))] → W pp l ee (headSpec wsL_act ({ frames := 10, cells := 18, slots := 1772, locals := 263 } : Room)).room s m [.ref (yh), .ref (na), .ref (ha), .int (nI (x))].toArray below meth cc0 H locs 0 0 (MQ below (kQi G (S := kY) (fun z u => z = (actR S h x).1 ∧ yI G (actR S h x).2 u ∧ yH u 0 = yh) (fun u => siteW G (actR S h x).2 u ++ ([(na, aN (kcI G) 3 f)] ++ ([(ha, aN (kcI G) 20 h)] ++ wr)))) [.ref (yh), .ref (na), .ref (ha), .int (nI (x))].toArray s 18 1772 (kA G)) (F0 m 225 ls []) := by
          intro hk H locs hV hS ls hl
          refine lv_aload_n hx hb dL_act_225 rfl (lv_at hl 5 rfl) ?_
          refine lv_iload hx hb dL_act_226 (lv_at hl 2 rfl) ?_
          refine lv_iload hx hb dL_act_228 (lv_at hl 4 rfl) ?_
          refine lv_iconst (v := nI 3) hx hb dL_act_230 (by decide) ?_
          refine kn_rem hx hb (by omega) (by omega) (by omega) dL_act_231 ?_
          refine lv_iload hx hb dL_act_232 (lv_at hl 4 rfl) ?_
          refine lv_iconst (v := nI 3) hx hb dL_act_234 (by decide) ?_
          refine kn_div hx hb (by omega) (by omega) (by omega) dL_act_235 ?_
          refine lv_iconst (v := nI 2) hx hb dL_act_236 (by decide) ?_
          refine kn_rem hx hb (by omega) (by omega) (by omega) dL_act_237 ?_
          have k250 : ∀ (p9 : Nat) (hp9 : p9 = (if x / 32 % 3 = 0 then 1 else 0)) (H : Heap) (locs : List Loc), kV G (siteW G S y ++ ([(na, aN (kcI G) 3 f)] ++ ([(ha, aN (kcI G) 20 h)] ++ wr))) H → va_S (kA G) s.heap H locs → ∀ (ls : Array Slot), lv_has ls 9 [(8, .int (nI (pr))), (7, .int (nI (lo))), (6, .int (nI (pa))), (5, .int (nI ((x / 32) % 5))), (4, .int (nI (x / 32))), (0, .ref (yh)), (1, .ref (na)), (2, .ref (ha)), (3, .int (nI (x)))] → W pp l ee (headSpec wsL_act ({ frames := 10, cells := 18, slots := 1772, locals := 263 } : Room)).room s m [.ref (yh), .ref (na), .ref (ha), .int (nI (x))].toArray below meth cc0 H locs 0 0 (MQ below (kQi G (S := kY) (fun z u => z = (actR S h x).1 ∧ yI G (actR S h x).2 u ∧ yH u 0 = yh) (fun u => siteW G (actR S h x).2 u ++ ([(na, aN (kcI G) 3 f)] ++ ([(ha, aN (kcI G) 20 h)] ++ wr)))) [.ref (yh), .ref (na), .ref (ha), .int (nI (x))].toArray s 18 1772 (kA G)) (F0 m 250 ls [.int (nI (p9)), .int (nI (((x / 32) / 3) % 2)), .int (nI ((x / 32) % 3)), .int (nI (pa)), .ref (yh)]) := by
            intro p9 hp9 H locs hV hS ls hl
            refine kn_add hx hb dL_act_250 ?_
            have k275 : ∀ (z9 : Int32) (hz9 : z9 = (if 0 < x / 32 / 6 % 4 then nI 0 else zI (((x / 32 / 24 % 7 : Nat) : Int) - ((3 : Nat) : Int)))) (H : Heap) (locs : List Loc), kV G (siteW G S y ++ ([(na, aN (kcI G) 3 f)] ++ ([(ha, aN (kcI G) 20 h)] ++ wr))) H → va_S (kA G) s.heap H locs → ∀ (ls : Array Slot), lv_has ls 9 [(8, .int (nI (pr))), (7, .int (nI (lo))), (6, .int (nI (pa))), (5, .int (nI ((x / 32) % 5))), (4, .int (nI (x / 32))), (0, .ref (yh)), (1, .ref (na)), (2, .ref (ha)), (3, .int (nI (x)))] → W pp l ee (headSpec wsL_act ({ frames := 10, cells := 18, slots := 1772, locals := 263 } : Room)).room s m [.ref (yh), .ref (na), .ref (ha), .int (nI (x))].toArray below meth cc0 H locs 0 0 (MQ below (kQi G (S := kY) (fun z u => z = (actR S h x).1 ∧ yI G (actR S h x).2 u ∧ yH u 0 = yh) (fun u => siteW G (actR S h x).2 u ++ ([(na, aN (kcI G) 3 f)] ++ ([(ha, aN (kcI G) 20 h)] ++ wr)))) [.ref (yh), .ref (na), .ref (ha), .int (nI (x))].toArray s 18 1772 (kA G)) (F0 m 275 ls [.int (z9), .int (nI ((((x / 32) / 3) % 2) + p9)), .int (nI ((x / 32) % 3)), .int (nI (pa)), .ref (yh)]) := by
              intro z9 hz9 H locs hV hS ls hl
              refine lv_iconst (v := nI 1) hx hb dL_act_275 (by decide) ?_
              refine lv_iload hx hb dL_act_276 (lv_at hl 4 rfl) ?_
              refine lv_bipush (v := nI 11) hx hb dL_act_278 (by decide) ?_
              refine kn_div hx hb (by omega) (by omega) (by omega) dL_act_280 ?_
              have k294 : ∀ (t9 : Nat) (ht9 : t9 = (if x / 32 % 5 = 0 then 20 else 2)) (ht0 : 0 < t9 ∧ t9 < 4000) (H : Heap) (locs : List Loc), kV G (siteW G S y ++ ([(na, aN (kcI G) 3 f)] ++ ([(ha, aN (kcI G) 20 h)] ++ wr))) H → va_S (kA G) s.heap H locs → ∀ (ls : Array Slot), lv_has ls 9 [(8, .int (nI (pr))), (7, .int (nI (lo))), (6, .int (nI (pa))), (5, .int (nI ((x / 32) % 5))), (4, .int (nI (x / 32))), (0, .ref (yh)), (1, .ref (na)), (2, .ref (ha)), (3, .int (nI (x)))] → W pp l ee (headSpec wsL_act ({ frames := 10, cells := 18, slots := 1772, locals := 263 } : Room)).room s m [.ref (yh), .ref (na), .ref (ha), .int (nI (x))].toArray below meth cc0 H locs 0 0 (MQ below (kQi G (S := kY) (fun z u => z = (actR S h x).1 ∧ yI G (actR S h x).2 u ∧ yH u 0 = yh) (fun u => siteW G (actR S h x).2 u ++ ([(na, aN (kcI G) 3 f)] ++ ([(ha, aN (kcI G) 20 h)] ++ wr)))) [.ref (yh), .ref (na), .ref (ha), .int (nI (x))].toArray s 18 1772 (kA G)) (F0 m 294 ls [.int (nI (t9)), .int (nI ((x / 32) / 11)), .int (nI (1)), .int (z9), .int (nI ((((x / 32) / 3) % 2) + p9)), .int (nI ((x / 32) % 3)), .int (nI (pa)), .ref (yh)]) := by
                intro t9 ht9 ht0 H locs hV hS ls hl
                refine kn_rem hx hb (by omega) (by omega) (by omega) dL_act_294 ?_
                refine kn_add hx hb dL_act_295 ?_
                refine kc_i (vx_runSW (As := [.ref (yh), .int (nI (pa)), .int (nI ((x / 32) % 3)), .int (nI ((((x / 32) / 3) % 2) + p9)), .int (z9), .int (nI (1 + (((x / 32) / 11) % t9)))]) (rest := []) hF (c_L_lines l G S y yh ([(na, aN (kcI G) 3 f)] ++ ([(ha, aN (kcI G) 20 h)] ++ wr)) (nI pa) (nI ((x / 32) % 3)) (nI ((((x / 32) / 3) % 2) + p9)) (z9) (nI (1 + (((x / 32) / 11) % t9))) ((opLine S (nI pa) (nI ((x / 32) % 3)) (nI ((((x / 32) / 3) % 2) + p9)) (z9) (nI (1 + (((x / 32) / 11) % t9))))) rfl hlt hh hI hY) (vx_cwSW 6 hts gL_act_L_lines rfl rfl rfl (by decide +kernel) ⟨Nat.le_of_ble_eq_true rfl, Nat.le_of_ble_eq_true rfl⟩) (kPreS hE hS hV) rfl rfl hl.1 rfl (lv_room (Nat.le_of_ble_eq_true rfl)) dL_act_296 ⟨Nat.le_of_ble_eq_true rfl, Nat.le_of_ble_eq_true rfl⟩) hS (fun r_6 u_5 H locs hp_4 hV hS => ?_)
                obtain ⟨hp_40, hY, hh⟩ := hp_4
                have hY : yI G ((opLine S (nI pa) (nI ((x / 32) % 3)) (nI ((((x / 32) / 3) % 2) + p9)) (z9) (nI (1 + (((x / 32) / 11) % t9)))).2.2) u_5 := hY
                subst hp_40
                have hV : kV G (siteW G ((opLine S (nI pa) (nI ((x / 32) % 3)) (nI ((((x / 32) / 3) % 2) + p9)) (z9) (nI (1 + (((x / 32) / 11) % t9)))).2.2) u_5 ++ ([(na, aN (kcI G) 3 f)] ++ ([(ha, aN (kcI G) 20 h)] ++ wr))) _ := hV
                have e9 : actR S h x = (vIAS (opLine S (nI pa) (nI ((x / 32) % 3)) (nI ((((x / 32) / 3) % 2) + p9)) (z9) (nI (1 + (((x / 32) / 11) % t9)))), (opLine S (nI pa) (nI ((x / 32) % 3)) (nI ((((x / 32) / 3) % 2) + p9)) (z9) (nI (1 + (((x / 32) / 11) % t9)))).2.2) := by
                  rw [act_a3 hk]; unfold a3
                  rw [hp9, hz9, ht9, hpa]
                refine W.widen (k := 18) (n := 1772) (by decide) (by decide) ?_
                exact W.iret (v := (vIAS (opLine S (nI pa) (nI ((x / 32) % 3)) (nI ((((x / 32) / 3) % 2) + p9)) (z9) (nI (1 + (((x / 32) / 11) % t9)))))) hx hb hrt (fun t ht hW => ⟨⟨_, u_5, rfl, ⟨by rw [e9], by rw [e9]; exact hY, hh⟩, kV_eq ht (show kV G (siteW G (actR S h x).2 u_5 ++ _) _ by rw [e9]; exact hV)⟩, hS.F ht⟩) hS.2.2 dL_act_299
              refine lv_iload hx hb dL_act_281 (lv_at hl 4 rfl) ?_
              refine lv_iconst (v := nI 5) hx hb dL_act_283 (by decide) ?_
              refine kn_rem hx hb (by omega) (by omega) (by omega) dL_act_284 ?_
              refine kn_if_ne (tgt := 293) hx hb (by omega) dL_act_285 (by decide) (fun c285 => ?_) (fun c285 => ?_)
              · refine lv_iconst (v := nI 2) hx hb dL_act_293 (by decide) ?_
                exact k294 2 (if_neg c285).symm ⟨by decide, by decide⟩ _ _ hV hS ls (lv_sub hl [0, 1, 2, 3, 4, 5, 6, 7, 8] rfl)
              · refine lv_bipush (v := nI 20) hx hb dL_act_288 (by decide) ?_
                refine lv_goto (tgt := 294) hx hb dL_act_290 (by decide) ?_
                exact k294 20 (if_pos c285).symm ⟨by decide, by decide⟩ _ _ hV hS ls (lv_sub hl [0, 1, 2, 3, 4, 5, 6, 7, 8] rfl)
            refine lv_iload hx hb dL_act_251 (lv_at hl 4 rfl) ?_
            refine lv_bipush (v := nI 6) hx hb dL_act_253 (by decide) ?_
            refine kn_div hx hb (by omega) (by omega) (by omega) dL_act_255 ?_
            refine lv_iconst (v := nI 4) hx hb dL_act_256 (by decide) ?_
            refine kn_rem hx hb (by omega) (by omega) (by omega) dL_act_257 ?_
            refine kn_if_le (tgt := 265) hx hb (by omega) dL_act_258 (by decide) (fun c258 => ?_) (fun c258 => ?_)
            · refine lv_iload hx hb dL_act_265 (lv_at hl 4 rfl) ?_
              refine lv_bipush (v := nI 24) hx hb dL_act_267 (by decide) ?_
              refine kn_div hx hb (by omega) (by omega) (by omega) dL_act_269 ?_
              refine lv_bipush (v := nI 7) hx hb dL_act_270 (by decide) ?_
              refine kn_rem hx hb (by omega) (by omega) (by omega) dL_act_272 ?_
              refine lv_iconst (v := nI 3) hx hb dL_act_273 (by decide) ?_
              refine W.eq (g2 := F0 m 274 ls [.int (zI (((3 : Nat) : Int))), .int (zI (((((x / 32) / 24) % 7 : Nat) : Int))), .int (nI ((((x / 32) / 3) % 2) + p9)), .int (nI ((x / 32) % 3)), .int (nI (pa)), .ref (yh)]) rfl ?_
              refine kz_sub hx hb dL_act_274 ?_
              exact k275 (zI (((((x / 32) / 24) % 7 : Nat) : Int) - ((3 : Nat) : Int))) (if_neg (by omega)).symm _ _ hV hS ls (lv_sub hl [0, 1, 2, 3, 4, 5, 6, 7, 8] rfl)
            · refine lv_iconst (v := nI 0) hx hb dL_act_261 (by decide) ?_
              refine lv_goto (tgt := 275) hx hb dL_act_262 (by decide) ?_
              exact k275 (nI 0) (if_pos c258).symm _ _ hV hS ls (lv_sub hl [0, 1, 2, 3, 4, 5, 6, 7, 8] rfl)
          refine lv_iload hx hb dL_act_238 (lv_at hl 4 rfl) ?_
          refine lv_iconst (v := nI 3) hx hb dL_act_240 (by decide) ?_
          refine kn_rem hx hb (by omega) (by omega) (by omega) dL_act_241 ?_
          refine kn_if_ne (tgt := 249) hx hb (by omega) dL_act_242 (by decide) (fun c242 => ?_) (fun c242 => ?_)
          · refine lv_iconst (v := nI 0) hx hb dL_act_249 (by decide) ?_
            exact k250 0 (if_neg c242).symm _ _ hV hS ls (lv_sub hl [0, 1, 2, 3, 4, 5, 6, 7, 8] rfl)
          · refine lv_iconst (v := nI 1) hx hb dL_act_245 (by decide) ?_
            refine lv_goto (tgt := 250) hx hb dL_act_246 (by decide) ?_
            exact k250 1 (if_pos c242).symm _ _ hV hS ls (lv_sub hl [0, 1, 2, 3, 4, 5, 6, 7, 8] rfl)
        have k300 : ∀ (hk : 9 ≤ x % 32 ∧ x % 32 < 10) (H : Heap) (locs : List Loc), kV G (siteW G S y ++ ([(na, aN (kcI G) 3 f)] ++ ([(ha, aN (kcI G) 20 h)] ++ wr))) H → va_S (kA G) s.heap H locs → ∀ (ls : Array Slot), lv_has ls 9 [(8, .int (nI (pr))), (7, .int (nI (lo))), (6, .int (nI (pa))), (5, .int (nI ((x / 32) % 5))), (4, .int (nI (x / 32))), (0, .ref (yh)), (1, .ref (na)), (2, .ref (ha)), (3, .int (nI (x)))] → W pp l ee (headSpec wsL_act ({ frames := 10, cells := 18, slots := 1772, locals := 263 } : Room)).room s m [.ref (yh), .ref (na), .ref (ha), .int (nI (x))].toArray below meth cc0 H locs 0 0 (MQ below (kQi G (S := kY) (fun z u => z = (actR S h x).1 ∧ yI G (actR S h x).2 u ∧ yH u 0 = yh) (fun u => siteW G (actR S h x).2 u ++ ([(na, aN (kcI G) 3 f)] ++ ([(ha, aN (kcI G) 20 h)] ++ wr)))) [.ref (yh), .ref (na), .ref (ha), .int (nI (x))].toArray s 18 1772 (kA G)) (F0 m 300 ls []) := by
          intro hk H locs hV hS ls hl
          refine lv_aload_n hx hb dL_act_300 rfl (lv_at hl 5 rfl) ?_
          refine lv_iload hx hb dL_act_301 (lv_at hl 2 rfl) ?_
          refine lv_iconst (v := nI 5) hx hb dL_act_303 (by decide) ?_
          refine lv_iload hx hb dL_act_304 (lv_at hl 4 rfl) ?_
          refine lv_bipush (v := nI 11) hx hb dL_act_306 (by decide) ?_
          refine kn_div hx hb (by omega) (by omega) (by omega) dL_act_308 ?_
          refine lv_bipush (v := nI 16) hx hb dL_act_309 (by decide) ?_
          refine kn_rem hx hb (by omega) (by omega) (by omega) dL_act_311 ?_
          refine kn_add hx hb dL_act_312 ?_
          refine kc_i (vx_runSW (As := [.ref (yh), .int (nI (pa)), .int (nI (5 + (((x / 32) / 11) % 16)))]) (rest := []) hF (c_L_anews l G S y yh ([(na, aN (kcI G) 3 f)] ++ ([(ha, aN (kcI G) 20 h)] ++ wr)) (nI pa) (nI (5 + (((x / 32) / 11) % 16))) ((opAnew S (nI pa) (nI (5 + (((x / 32) / 11) % 16))))) rfl hlt hh hI hY) (vx_cwSW 3 hts gL_act_L_anews rfl rfl rfl (by decide +kernel) ⟨Nat.le_of_ble_eq_true rfl, Nat.le_of_ble_eq_true rfl⟩) (kPreS hE hS hV) rfl rfl hl.1 rfl (lv_room (Nat.le_of_ble_eq_true rfl)) dL_act_313 ⟨Nat.le_of_ble_eq_true rfl, Nat.le_of_ble_eq_true rfl⟩) hS (fun r_9 u_8 H locs hp_7 hV hS => ?_)
          obtain ⟨hp_70, hY, hh⟩ := hp_7
          have hY : yI G ((opAnew S (nI pa) (nI (5 + (((x / 32) / 11) % 16)))).2.2) u_8 := hY
          subst hp_70
          have hV : kV G (siteW G ((opAnew S (nI pa) (nI (5 + (((x / 32) / 11) % 16)))).2.2) u_8 ++ ([(na, aN (kcI G) 3 f)] ++ ([(ha, aN (kcI G) 20 h)] ++ wr))) _ := hV
          have e9 : actR S h x = (vIAS (opAnew S (nI pa) (nI (5 + (((x / 32) / 11) % 16)))), (opAnew S (nI pa) (nI (5 + (((x / 32) / 11) % 16)))).2.2) := by
            rw [act_a9 hk]; unfold a9
            rw [hpa]
          exact W.iret (v := (vIAS (opAnew S (nI pa) (nI (5 + (((x / 32) / 11) % 16)))))) hx hb hrt (fun t ht hW => ⟨⟨_, u_8, rfl, ⟨by rw [e9], by rw [e9]; exact hY, hh⟩, kV_eq ht (show kV G (siteW G (actR S h x).2 u_8 ++ _) _ by rw [e9]; exact hV)⟩, hS.F ht⟩) hS.2.2 dL_act_316
        have k317 : ∀ (hk : 10 ≤ x % 32 ∧ x % 32 < 14) (H : Heap) (locs : List Loc), kV G (siteW G S y ++ ([(na, aN (kcI G) 3 f)] ++ ([(ha, aN (kcI G) 20 h)] ++ wr))) H → va_S (kA G) s.heap H locs → ∀ (ls : Array Slot), lv_has ls 9 [(8, .int (nI (pr))), (7, .int (nI (lo))), (6, .int (nI (pa))), (5, .int (nI ((x / 32) % 5))), (4, .int (nI (x / 32))), (0, .ref (yh)), (1, .ref (na)), (2, .ref (ha)), (3, .int (nI (x)))] → W pp l ee (headSpec wsL_act ({ frames := 10, cells := 18, slots := 1772, locals := 263 } : Room)).room s m [.ref (yh), .ref (na), .ref (ha), .int (nI (x))].toArray below meth cc0 H locs 0 0 (MQ below (kQi G (S := kY) (fun z u => z = (actR S h x).1 ∧ yI G (actR S h x).2 u ∧ yH u 0 = yh) (fun u => siteW G (actR S h x).2 u ++ ([(na, aN (kcI G) 3 f)] ++ ([(ha, aN (kcI G) 20 h)] ++ wr)))) [.ref (yh), .ref (na), .ref (ha), .int (nI (x))].toArray s 18 1772 (kA G)) (F0 m 317 ls []) := by
          intro hk H locs hV hS ls hl
          refine lv_aload_n hx hb dL_act_317 rfl (lv_at hl 5 rfl) ?_
          refine lv_iload hx hb dL_act_318 (lv_at hl 2 rfl) ?_
          refine kc_i (vx_runSW (As := [.ref (yh), .int (nI (pa))]) (rest := []) hF (c_L_publishes l G S y yh ([(na, aN (kcI G) 3 f)] ++ ([(ha, aN (kcI G) 20 h)] ++ wr)) (nI pa) ((opPublish S (nI pa))) rfl hlt hh hI hY) (vx_cwSW 2 hts gL_act_L_publishes rfl rfl rfl (by decide +kernel) ⟨Nat.le_of_ble_eq_true rfl, Nat.le_of_ble_eq_true rfl⟩) (kPreS hE hS hV) rfl rfl hl.1 rfl (lv_room (Nat.le_of_ble_eq_true rfl)) dL_act_320 ⟨Nat.le_of_ble_eq_true rfl, Nat.le_of_ble_eq_true rfl⟩) hS (fun r_12 u_11 H locs hp_10 hV hS => ?_)
          obtain ⟨hp_100, hY, hh⟩ := hp_10
          have hY : yI G ((opPublish S (nI pa)).2.2) u_11 := hY
          subst hp_100
          have hV : kV G (siteW G ((opPublish S (nI pa)).2.2) u_11 ++ ([(na, aN (kcI G) 3 f)] ++ ([(ha, aN (kcI G) 20 h)] ++ wr))) _ := hV
          have e9 : actR S h x = (vIS (opPublish S (nI pa)), (opPublish S (nI pa)).2.2) := by
            rw [act_a10 hk]; unfold a10
            rw [hpa]
          refine W.widen (k := 18) (n := 1772) (by decide) (by decide) ?_
          exact W.iret (v := (vIS (opPublish S (nI pa)))) hx hb hrt (fun t ht hW => ⟨⟨_, u_11, rfl, ⟨by rw [e9], by rw [e9]; exact hY, hh⟩, kV_eq ht (show kV G (siteW G (actR S h x).2 u_11 ++ _) _ by rw [e9]; exact hV)⟩, hS.F ht⟩) hS.2.2 dL_act_323
        have k324 : ∀ (hk : 14 ≤ x % 32 ∧ x % 32 < 18) (H : Heap) (locs : List Loc), kV G (siteW G S y ++ ([(na, aN (kcI G) 3 f)] ++ ([(ha, aN (kcI G) 20 h)] ++ wr))) H → va_S (kA G) s.heap H locs → ∀ (ls : Array Slot), lv_has ls 9 [(8, .int (nI (pr))), (7, .int (nI (lo))), (6, .int (nI (pa))), (5, .int (nI ((x / 32) % 5))), (4, .int (nI (x / 32))), (0, .ref (yh)), (1, .ref (na)), (2, .ref (ha)), (3, .int (nI (x)))] → W pp l ee (headSpec wsL_act ({ frames := 10, cells := 18, slots := 1772, locals := 263 } : Room)).room s m [.ref (yh), .ref (na), .ref (ha), .int (nI (x))].toArray below meth cc0 H locs 0 0 (MQ below (kQi G (S := kY) (fun z u => z = (actR S h x).1 ∧ yI G (actR S h x).2 u ∧ yH u 0 = yh) (fun u => siteW G (actR S h x).2 u ++ ([(na, aN (kcI G) 3 f)] ++ ([(ha, aN (kcI G) 20 h)] ++ wr)))) [.ref (yh), .ref (na), .ref (ha), .int (nI (x))].toArray s 18 1772 (kA G)) (F0 m 324 ls []) := by
          intro hk H locs hV hS ls hl
          refine lv_aload_n hx hb dL_act_324 rfl (lv_at hl 5 rfl) ?_
          refine lv_iload hx hb dL_act_325 (lv_at hl 2 rfl) ?_
          refine lv_iload hx hb dL_act_327 (lv_at hl 3 rfl) ?_
          refine kc_i (vx_runSW (As := [.ref (yh), .int (nI (pa)), .int (nI ((x / 32) % 5))]) (rest := []) hF (c_L_buys l G S y yh ([(na, aN (kcI G) 3 f)] ++ ([(ha, aN (kcI G) 20 h)] ++ wr)) (nI pa) (nI ((x / 32) % 5)) ((opBuy S (nI pa) (nI ((x / 32) % 5)))) rfl hlt hh hI hY) (vx_cwSW 3 hts gL_act_L_buys rfl rfl rfl (by decide +kernel) ⟨Nat.le_of_ble_eq_true rfl, Nat.le_of_ble_eq_true rfl⟩) (kPreS hE hS hV) rfl rfl hl.1 rfl (lv_room (Nat.le_of_ble_eq_true rfl)) dL_act_329 ⟨Nat.le_of_ble_eq_true rfl, Nat.le_of_ble_eq_true rfl⟩) hS (fun r_15 u_14 H locs hp_13 hV hS => ?_)
          obtain ⟨hp_130, hY, hh⟩ := hp_13
          have hY : yI G ((opBuy S (nI pa) (nI ((x / 32) % 5))).2.2) u_14 := hY
          subst hp_130
          have hV : kV G (siteW G ((opBuy S (nI pa) (nI ((x / 32) % 5))).2.2) u_14 ++ ([(na, aN (kcI G) 3 f)] ++ ([(ha, aN (kcI G) 20 h)] ++ wr))) _ := hV
          have e9 : actR S h x = (vIS (opBuy S (nI pa) (nI ((x / 32) % 5))), (opBuy S (nI pa) (nI ((x / 32) % 5))).2.2) := by
            rw [act_a14 hk]; unfold a14
            rw [hpa]
          refine W.widen (k := 18) (n := 1772) (by decide) (by decide) ?_
          exact W.iret (v := (vIS (opBuy S (nI pa) (nI ((x / 32) % 5))))) hx hb hrt (fun t ht hW => ⟨⟨_, u_14, rfl, ⟨by rw [e9], by rw [e9]; exact hY, hh⟩, kV_eq ht (show kV G (siteW G (actR S h x).2 u_14 ++ _) _ by rw [e9]; exact hV)⟩, hS.F ht⟩) hS.2.2 dL_act_332
        have k333 : ∀ (hk : 18 ≤ x % 32 ∧ x % 32 < 20) (H : Heap) (locs : List Loc), kV G (siteW G S y ++ ([(na, aN (kcI G) 3 f)] ++ ([(ha, aN (kcI G) 20 h)] ++ wr))) H → va_S (kA G) s.heap H locs → ∀ (ls : Array Slot), lv_has ls 9 [(8, .int (nI (pr))), (7, .int (nI (lo))), (6, .int (nI (pa))), (5, .int (nI ((x / 32) % 5))), (4, .int (nI (x / 32))), (0, .ref (yh)), (1, .ref (na)), (2, .ref (ha)), (3, .int (nI (x)))] → W pp l ee (headSpec wsL_act ({ frames := 10, cells := 18, slots := 1772, locals := 263 } : Room)).room s m [.ref (yh), .ref (na), .ref (ha), .int (nI (x))].toArray below meth cc0 H locs 0 0 (MQ below (kQi G (S := kY) (fun z u => z = (actR S h x).1 ∧ yI G (actR S h x).2 u ∧ yH u 0 = yh) (fun u => siteW G (actR S h x).2 u ++ ([(na, aN (kcI G) 3 f)] ++ ([(ha, aN (kcI G) 20 h)] ++ wr)))) [.ref (yh), .ref (na), .ref (ha), .int (nI (x))].toArray s 18 1772 (kA G)) (F0 m 333 ls []) := by
          intro hk H locs hV hS ls hl
          refine lv_aload_n hx hb dL_act_333 rfl (lv_at hl 5 rfl) ?_
          refine lv_iload hx hb dL_act_334 (lv_at hl 2 rfl) ?_
          refine kc_i (vx_runSW (As := [.ref (yh), .int (nI (pa))]) (rest := []) hF (c_L_rules l G S y yh ([(na, aN (kcI G) 3 f)] ++ ([(ha, aN (kcI G) 20 h)] ++ wr)) (nI pa) ((opRule S (nI pa))) rfl hlt hh hI hY) (vx_cwSW 2 hts gL_act_L_rules rfl rfl rfl (by decide +kernel) ⟨Nat.le_of_ble_eq_true rfl, Nat.le_of_ble_eq_true rfl⟩) (kPreS hE hS hV) rfl rfl hl.1 rfl (lv_room (Nat.le_of_ble_eq_true rfl)) dL_act_336 ⟨Nat.le_of_ble_eq_true rfl, Nat.le_of_ble_eq_true rfl⟩) hS (fun r_18 u_17 H locs hp_16 hV hS => ?_)
          obtain ⟨hp_160, hY, hh⟩ := hp_16
          have hY : yI G ((opRule S (nI pa)).2.2) u_17 := hY
          subst hp_160
          have hV : kV G (siteW G ((opRule S (nI pa)).2.2) u_17 ++ ([(na, aN (kcI G) 3 f)] ++ ([(ha, aN (kcI G) 20 h)] ++ wr))) _ := hV
          have e9 : actR S h x = (vIS (opRule S (nI pa)), (opRule S (nI pa)).2.2) := by
            rw [act_a18 hk]; unfold a18
            rw [hpa]
          refine W.widen (k := 18) (n := 1772) (by decide) (by decide) ?_
          exact W.iret (v := (vIS (opRule S (nI pa)))) hx hb hrt (fun t ht hW => ⟨⟨_, u_17, rfl, ⟨by rw [e9], by rw [e9]; exact hY, hh⟩, kV_eq ht (show kV G (siteW G (actR S h x).2 u_17 ++ _) _ by rw [e9]; exact hV)⟩, hS.F ht⟩) hS.2.2 dL_act_339
        have k340 : ∀ (hk : 20 ≤ x % 32 ∧ x % 32 < 23) (H : Heap) (locs : List Loc), kV G (siteW G S y ++ ([(na, aN (kcI G) 3 f)] ++ ([(ha, aN (kcI G) 20 h)] ++ wr))) H → va_S (kA G) s.heap H locs → ∀ (ls : Array Slot), lv_has ls 9 [(8, .int (nI (pr))), (7, .int (nI (lo))), (6, .int (nI (pa))), (5, .int (nI ((x / 32) % 5))), (4, .int (nI (x / 32))), (0, .ref (yh)), (1, .ref (na)), (2, .ref (ha)), (3, .int (nI (x)))] → W pp l ee (headSpec wsL_act ({ frames := 10, cells := 18, slots := 1772, locals := 263 } : Room)).room s m [.ref (yh), .ref (na), .ref (ha), .int (nI (x))].toArray below meth cc0 H locs 0 0 (MQ below (kQi G (S := kY) (fun z u => z = (actR S h x).1 ∧ yI G (actR S h x).2 u ∧ yH u 0 = yh) (fun u => siteW G (actR S h x).2 u ++ ([(na, aN (kcI G) 3 f)] ++ ([(ha, aN (kcI G) 20 h)] ++ wr)))) [.ref (yh), .ref (na), .ref (ha), .int (nI (x))].toArray s 18 1772 (kA G)) (F0 m 340 ls []) := by
          intro hk H locs hV hS ls hl
          refine lv_aload_n hx hb dL_act_340 rfl (lv_at hl 5 rfl) ?_
          refine lv_iload hx hb dL_act_341 (lv_at hl 3 rfl) ?_
          refine lv_iconst (v := nI 5) hx hb dL_act_343 (by decide) ?_
          refine lv_iload hx hb dL_act_344 (lv_at hl 4 rfl) ?_
          refine lv_iconst (v := nI 5) hx hb dL_act_346 (by decide) ?_
          refine kn_div hx hb (by omega) (by omega) (by omega) dL_act_347 ?_
          refine lv_bipush (v := nI 16) hx hb dL_act_348 (by decide) ?_
          refine kn_rem hx hb (by omega) (by omega) (by omega) dL_act_350 ?_
          refine kn_add hx hb dL_act_351 ?_
          refine lv_iconst (v := nI 1) hx hb dL_act_352 (by decide) ?_
          refine lv_iload hx hb dL_act_353 (lv_at hl 4 rfl) ?_
          refine lv_bipush (v := nI 80) hx hb dL_act_355 (by decide) ?_
          refine kn_div hx hb (by omega) (by omega) (by omega) dL_act_357 ?_
          have k374 : ∀ (t9 : Nat) (ht9 : t9 = (if x / 32 % 3 = 0 then 3000 else 200)) (ht0 : 0 < t9 ∧ t9 < 4000) (H : Heap) (locs : List Loc), kV G (siteW G S y ++ ([(na, aN (kcI G) 3 f)] ++ ([(ha, aN (kcI G) 20 h)] ++ wr))) H → va_S (kA G) s.heap H locs → ∀ (ls : Array Slot), lv_has ls 9 [(8, .int (nI (pr))), (7, .int (nI (lo))), (6, .int (nI (pa))), (5, .int (nI ((x / 32) % 5))), (4, .int (nI (x / 32))), (0, .ref (yh)), (1, .ref (na)), (2, .ref (ha)), (3, .int (nI (x)))] → W pp l ee (headSpec wsL_act ({ frames := 10, cells := 18, slots := 1772, locals := 263 } : Room)).room s m [.ref (yh), .ref (na), .ref (ha), .int (nI (x))].toArray below meth cc0 H locs 0 0 (MQ below (kQi G (S := kY) (fun z u => z = (actR S h x).1 ∧ yI G (actR S h x).2 u ∧ yH u 0 = yh) (fun u => siteW G (actR S h x).2 u ++ ([(na, aN (kcI G) 3 f)] ++ ([(ha, aN (kcI G) 20 h)] ++ wr)))) [.ref (yh), .ref (na), .ref (ha), .int (nI (x))].toArray s 18 1772 (kA G)) (F0 m 374 ls [.int (nI (t9)), .int (nI ((x / 32) / 80)), .int (nI (1)), .int (nI (5 + (((x / 32) / 5) % 16))), .int (nI ((x / 32) % 5)), .ref (yh)]) := by
            intro t9 ht9 ht0 H locs hV hS ls hl
            refine kn_rem hx hb (by omega) (by omega) (by omega) dL_act_374 ?_
            refine kn_add hx hb dL_act_375 ?_
            refine kc_i (vx_runSW (As := [.ref (yh), .int (nI ((x / 32) % 5)), .int (nI (5 + (((x / 32) / 5) % 16))), .int (nI (1 + (((x / 32) / 80) % t9)))]) (rest := []) hF (c_L_lots l G S y yh ([(na, aN (kcI G) 3 f)] ++ ([(ha, aN (kcI G) 20 h)] ++ wr)) (nI ((x / 32) % 5)) (nI (5 + (((x / 32) / 5) % 16))) (nI (1 + (((x / 32) / 80) % t9))) ((opLot S (nI ((x / 32) % 5)) (nI (5 + (((x / 32) / 5) % 16))) (nI (1 + (((x / 32) / 80) % t9))))) rfl hlt hh hI hY) (vx_cwSW 4 hts gL_act_L_lots rfl rfl rfl (by decide +kernel) ⟨Nat.le_of_ble_eq_true rfl, Nat.le_of_ble_eq_true rfl⟩) (kPreS hE hS hV) rfl rfl hl.1 rfl (lv_room (Nat.le_of_ble_eq_true rfl)) dL_act_376 ⟨Nat.le_of_ble_eq_true rfl, Nat.le_of_ble_eq_true rfl⟩) hS (fun r_21 u_20 H locs hp_19 hV hS => ?_)
            obtain ⟨hp_190, hY, hh⟩ := hp_19
            have hY : yI G ((opLot S (nI ((x / 32) % 5)) (nI (5 + (((x / 32) / 5) % 16))) (nI (1 + (((x / 32) / 80) % t9)))).2.2) u_20 := hY
            subst hp_190
            have hV : kV G (siteW G ((opLot S (nI ((x / 32) % 5)) (nI (5 + (((x / 32) / 5) % 16))) (nI (1 + (((x / 32) / 80) % t9)))).2.2) u_20 ++ ([(na, aN (kcI G) 3 f)] ++ ([(ha, aN (kcI G) 20 h)] ++ wr))) _ := hV
            have e9 : actR S h x = (vIAS (opLot S (nI ((x / 32) % 5)) (nI (5 + (((x / 32) / 5) % 16))) (nI (1 + (((x / 32) / 80) % t9)))), (opLot S (nI ((x / 32) % 5)) (nI (5 + (((x / 32) / 5) % 16))) (nI (1 + (((x / 32) / 80) % t9)))).2.2) := by
              rw [act_a20 hk]; unfold a20
              rw [ht9]
            refine W.widen (k := 18) (n := 1772) (by decide) (by decide) ?_
            exact W.iret (v := (vIAS (opLot S (nI ((x / 32) % 5)) (nI (5 + (((x / 32) / 5) % 16))) (nI (1 + (((x / 32) / 80) % t9)))))) hx hb hrt (fun t ht hW => ⟨⟨_, u_20, rfl, ⟨by rw [e9], by rw [e9]; exact hY, hh⟩, kV_eq ht (show kV G (siteW G (actR S h x).2 u_20 ++ _) _ by rw [e9]; exact hV)⟩, hS.F ht⟩) hS.2.2 dL_act_379
          refine lv_iload hx hb dL_act_358 (lv_at hl 4 rfl) ?_
          refine lv_iconst (v := nI 3) hx hb dL_act_360 (by decide) ?_
          refine kn_rem hx hb (by omega) (by omega) (by omega) dL_act_361 ?_
          refine kn_if_ne (tgt := 371) hx hb (by omega) dL_act_362 (by decide) (fun c362 => ?_) (fun c362 => ?_)
          · refine lv_sipush (v := nI 200) hx hb dL_act_371 (by decide) ?_
            exact k374 200 (if_neg c362).symm ⟨by decide, by decide⟩ _ _ hV hS ls (lv_sub hl [0, 1, 2, 3, 4, 5, 6, 7, 8] rfl)
          · refine lv_sipush (v := nI 3000) hx hb dL_act_365 (by decide) ?_
            refine lv_goto (tgt := 374) hx hb dL_act_368 (by decide) ?_
            exact k374 3000 (if_pos c362).symm ⟨by decide, by decide⟩ _ _ hV hS ls (lv_sub hl [0, 1, 2, 3, 4, 5, 6, 7, 8] rfl)
        have k380 : ∀ (hk : 23 ≤ x % 32 ∧ x % 32 < 24) (H : Heap) (locs : List Loc), kV G (siteW G S y ++ ([(na, aN (kcI G) 3 f)] ++ ([(ha, aN (kcI G) 20 h)] ++ wr))) H → va_S (kA G) s.heap H locs → ∀ (ls : Array Slot), lv_has ls 9 [(8, .int (nI (pr))), (7, .int (nI (lo))), (6, .int (nI (pa))), (5, .int (nI ((x / 32) % 5))), (4, .int (nI (x / 32))), (0, .ref (yh)), (1, .ref (na)), (2, .ref (ha)), (3, .int (nI (x)))] → W pp l ee (headSpec wsL_act ({ frames := 10, cells := 18, slots := 1772, locals := 263 } : Room)).room s m [.ref (yh), .ref (na), .ref (ha), .int (nI (x))].toArray below meth cc0 H locs 0 0 (MQ below (kQi G (S := kY) (fun z u => z = (actR S h x).1 ∧ yI G (actR S h x).2 u ∧ yH u 0 = yh) (fun u => siteW G (actR S h x).2 u ++ ([(na, aN (kcI G) 3 f)] ++ ([(ha, aN (kcI G) 20 h)] ++ wr)))) [.ref (yh), .ref (na), .ref (ha), .int (nI (x))].toArray s 18 1772 (kA G)) (F0 m 380 ls []) := by
          intro hk H locs hV hS ls hl
          refine lv_aload_n hx hb dL_act_380 rfl (lv_at hl 5 rfl) ?_
          refine lv_iload hx hb dL_act_381 (lv_at hl 1 rfl) ?_
          have k399 : ∀ (sw : Nat) (hsw : sw = aSw S x) (H : Heap) (locs : List Loc), kV G (siteW G S y ++ ([(na, aN (kcI G) 3 f)] ++ ([(ha, aN (kcI G) 20 h)] ++ wr))) H → va_S (kA G) s.heap H locs → ∀ (ls : Array Slot), lv_has ls 9 [(8, .int (nI (pr))), (7, .int (nI (lo))), (6, .int (nI (pa))), (5, .int (nI ((x / 32) % 5))), (4, .int (nI (x / 32))), (0, .ref (yh)), (1, .ref (na)), (2, .ref (ha)), (3, .int (nI (x)))] → W pp l ee (headSpec wsL_act ({ frames := 10, cells := 18, slots := 1772, locals := 263 } : Room)).room s m [.ref (yh), .ref (na), .ref (ha), .int (nI (x))].toArray below meth cc0 H locs 0 0 (MQ below (kQi G (S := kY) (fun z u => z = (actR S h x).1 ∧ yI G (actR S h x).2 u ∧ yH u 0 = yh) (fun u => siteW G (actR S h x).2 u ++ ([(na, aN (kcI G) 3 f)] ++ ([(ha, aN (kcI G) 20 h)] ++ wr)))) [.ref (yh), .ref (na), .ref (ha), .int (nI (x))].toArray s 18 1772 (kA G)) (F0 m 399 ls [.int (nI (sw)), .int (nI (lo)), .ref (yh)]) := by
            intro sw hsw H locs hV hS ls hl
            refine kc_i (vx_runSW (As := [.ref (yh), .int (nI (lo)), .int (nI (sw))]) (rest := []) hF (c_L_swaps l G S y yh ([(na, aN (kcI G) 3 f)] ++ ([(ha, aN (kcI G) 20 h)] ++ wr)) (nI lo) (nI sw) ((opSwap S (nI lo) (nI sw))) rfl hlt hh hI hY) (vx_cwSW 3 hts gL_act_L_swaps rfl rfl rfl (by decide +kernel) ⟨Nat.le_of_ble_eq_true rfl, Nat.le_of_ble_eq_true rfl⟩) (kPreS hE hS hV) rfl rfl hl.1 rfl (lv_room (Nat.le_of_ble_eq_true rfl)) dL_act_399 ⟨Nat.le_of_ble_eq_true rfl, Nat.le_of_ble_eq_true rfl⟩) hS (fun r_24 u_23 H locs hp_22 hV hS => ?_)
            obtain ⟨hp_220, hY, hh⟩ := hp_22
            have hY : yI G ((opSwap S (nI lo) (nI sw)).2.2) u_23 := hY
            subst hp_220
            have hV : kV G (siteW G ((opSwap S (nI lo) (nI sw)).2.2) u_23 ++ ([(na, aN (kcI G) 3 f)] ++ ([(ha, aN (kcI G) 20 h)] ++ wr))) _ := hV
            have e9 : actR S h x = (vIS (opSwap S (nI lo) (nI sw)), (opSwap S (nI lo) (nI sw)).2.2) := by
              rw [act_a23 hk]; unfold a23
              rw [hsw, hlo]
            refine W.widen (k := 18) (n := 1772) (by decide) (by decide) ?_
            exact W.iret (v := (vIS (opSwap S (nI lo) (nI sw)))) hx hb hrt (fun t ht hW => ⟨⟨_, u_23, rfl, ⟨by rw [e9], by rw [e9]; exact hY, hh⟩, kV_eq ht (show kV G (siteW G (actR S h x).2 u_23 ++ _) _ by rw [e9]; exact hV)⟩, hS.F ht⟩) hS.2.2 dL_act_402
          refine lv_aload_n hx hb dL_act_383 rfl (lv_at hl 6 rfl) ?_
          refine lv_iconst (v := nI 1) hx hb dL_act_384 (by decide) ?_
          have hV9 : kV G ([(na, aN (kcI G) 3 f)] ++ (siteW G S y ++ ([(ha, aN (kcI G) 20 h)] ++ wr))) _ := kV_wc hV (fun e => by simp only [wc_app]; omega)
          refine kn_iald (G := G) (n := 3) (g := f) (j := 1) hx hb hK hV9 0 rfl (by decide) (by decide) dL_act_385 ?_
          rw [show f 1 = S.1 15 0 from hn1]
          refine kn_if_ne (tgt := 393) hx hb (by omega) dL_act_386 (by decide) (fun c386 => ?_) (fun c386 => ?_)
          · refine lv_iload hx hb dL_act_393 (lv_at hl 4 rfl) ?_
            refine lv_aload_n hx hb dL_act_395 rfl (lv_at hl 6 rfl) ?_
            refine lv_iconst (v := nI 1) hx hb dL_act_396 (by decide) ?_
            have hV9 : kV G ([(na, aN (kcI G) 3 f)] ++ (siteW G S y ++ ([(ha, aN (kcI G) 20 h)] ++ wr))) _ := kV_wc hV (fun e => by simp only [wc_app]; omega)
            refine kn_iald (G := G) (n := 3) (g := f) (j := 1) hx hb hK hV9 0 rfl (by decide) (by decide) dL_act_397 ?_
            rw [show f 1 = S.1 15 0 from hn1]
            refine kn_rem hx hb (by omega) (by omega) (by omega) dL_act_398 ?_
            exact k399 ((x / 32) % (S.1 15 0)) (by unfold aSw; rw [if_neg c386]) _ _ hV hS ls (lv_sub hl [0, 1, 2, 3, 4, 5, 6, 7, 8] rfl)
          · refine lv_iconst (v := nI 0) hx hb dL_act_389 (by decide) ?_
            refine lv_goto (tgt := 399) hx hb dL_act_390 (by decide) ?_
            exact k399 0 (by unfold aSw; rw [if_pos c386]) _ _ hV hS ls (lv_sub hl [0, 1, 2, 3, 4, 5, 6, 7, 8] rfl)
        have k403 : ∀ (hk : 24 ≤ x % 32 ∧ x % 32 < 27) (H : Heap) (locs : List Loc), kV G (siteW G S y ++ ([(na, aN (kcI G) 3 f)] ++ ([(ha, aN (kcI G) 20 h)] ++ wr))) H → va_S (kA G) s.heap H locs → ∀ (ls : Array Slot), lv_has ls 9 [(8, .int (nI (pr))), (7, .int (nI (lo))), (6, .int (nI (pa))), (5, .int (nI ((x / 32) % 5))), (4, .int (nI (x / 32))), (0, .ref (yh)), (1, .ref (na)), (2, .ref (ha)), (3, .int (nI (x)))] → W pp l ee (headSpec wsL_act ({ frames := 10, cells := 18, slots := 1772, locals := 263 } : Room)).room s m [.ref (yh), .ref (na), .ref (ha), .int (nI (x))].toArray below meth cc0 H locs 0 0 (MQ below (kQi G (S := kY) (fun z u => z = (actR S h x).1 ∧ yI G (actR S h x).2 u ∧ yH u 0 = yh) (fun u => siteW G (actR S h x).2 u ++ ([(na, aN (kcI G) 3 f)] ++ ([(ha, aN (kcI G) 20 h)] ++ wr)))) [.ref (yh), .ref (na), .ref (ha), .int (nI (x))].toArray s 18 1772 (kA G)) (F0 m 403 ls []) := by
          intro hk H locs hV hS ls hl
          refine lv_aload_n hx hb dL_act_403 rfl (lv_at hl 5 rfl) ?_
          have k419 : ∀ (ow : Nat) (how : ow = aOw S h x) (H : Heap) (locs : List Loc), kV G (siteW G S y ++ ([(na, aN (kcI G) 3 f)] ++ ([(ha, aN (kcI G) 20 h)] ++ wr))) H → va_S (kA G) s.heap H locs → ∀ (ls : Array Slot), lv_has ls 9 [(8, .int (nI (pr))), (7, .int (nI (lo))), (6, .int (nI (pa))), (5, .int (nI ((x / 32) % 5))), (4, .int (nI (x / 32))), (0, .ref (yh)), (1, .ref (na)), (2, .ref (ha)), (3, .int (nI (x)))] → W pp l ee (headSpec wsL_act ({ frames := 10, cells := 18, slots := 1772, locals := 263 } : Room)).room s m [.ref (yh), .ref (na), .ref (ha), .int (nI (x))].toArray below meth cc0 H locs 0 0 (MQ below (kQi G (S := kY) (fun z u => z = (actR S h x).1 ∧ yI G (actR S h x).2 u ∧ yH u 0 = yh) (fun u => siteW G (actR S h x).2 u ++ ([(na, aN (kcI G) 3 f)] ++ ([(ha, aN (kcI G) 20 h)] ++ wr)))) [.ref (yh), .ref (na), .ref (ha), .int (nI (x))].toArray s 18 1772 (kA G)) (F0 m 419 ls [.int (nI (ow)), .ref (yh)]) := by
            intro ow how H locs hV hS ls hl
            refine lv_iload hx hb dL_act_419 (lv_at hl 2 rfl) ?_
            refine lv_iload hx hb dL_act_421 (lv_at hl 1 rfl) ?_
            refine kc_i (vx_runSW (As := [.ref (yh), .int (nI (ow)), .int (nI (pa)), .int (nI (lo))]) (rest := []) hF (c_L_projects l G S y yh ([(na, aN (kcI G) 3 f)] ++ ([(ha, aN (kcI G) 20 h)] ++ wr)) (nI ow) (nI pa) (nI lo) ((opProject S (nI ow) (nI pa) (nI lo))) rfl hlt hh hI hY) (vx_cwSW 4 hts gL_act_L_projects rfl rfl rfl (by decide +kernel) ⟨Nat.le_of_ble_eq_true rfl, Nat.le_of_ble_eq_true rfl⟩) (kPreS hE hS hV) rfl rfl hl.1 rfl (lv_room (Nat.le_of_ble_eq_true rfl)) dL_act_423 ⟨Nat.le_of_ble_eq_true rfl, Nat.le_of_ble_eq_true rfl⟩) hS (fun r_27 u_26 H locs hp_25 hV hS => ?_)
            obtain ⟨hp_250, hY, hh⟩ := hp_25
            have hY : yI G ((opProject S (nI ow) (nI pa) (nI lo)).2.2) u_26 := hY
            subst hp_250
            have hV : kV G (siteW G ((opProject S (nI ow) (nI pa) (nI lo)).2.2) u_26 ++ ([(na, aN (kcI G) 3 f)] ++ ([(ha, aN (kcI G) 20 h)] ++ wr))) _ := hV
            have e9 : actR S h x = (vIS (opProject S (nI ow) (nI pa) (nI lo)), (opProject S (nI ow) (nI pa) (nI lo)).2.2) := by
              rw [act_a24 hk]; unfold a24
              rw [how, hpa, hlo]
            refine W.widen (k := 18) (n := 1772) (by decide) (by decide) ?_
            exact W.iret (v := (vIS (opProject S (nI ow) (nI pa) (nI lo)))) hx hb hrt (fun t ht hW => ⟨⟨_, u_26, rfl, ⟨by rw [e9], by rw [e9]; exact hY, hh⟩, kV_eq ht (show kV G (siteW G (actR S h x).2 u_26 ++ _) _ by rw [e9]; exact hV)⟩, hS.F ht⟩) hS.2.2 dL_act_426
          refine lv_aload_n hx hb dL_act_404 rfl (lv_at hl 6 rfl) ?_
          refine lv_iconst (v := nI 1) hx hb dL_act_405 (by decide) ?_
          have hV9 : kV G ([(na, aN (kcI G) 3 f)] ++ (siteW G S y ++ ([(ha, aN (kcI G) 20 h)] ++ wr))) _ := kV_wc hV (fun e => by simp only [wc_app]; omega)
          refine kn_iald (G := G) (n := 3) (g := f) (j := 1) hx hb hK hV9 0 rfl (by decide) (by decide) dL_act_406 ?_
          rw [show f 1 = S.1 15 0 from hn1]
          refine kn_if_ne (tgt := 415) hx hb (by omega) dL_act_407 (by decide) (fun c407 => ?_) (fun c407 => ?_)
          · refine lv_aload_n hx hb dL_act_415 rfl (lv_at hl 7 rfl) ?_
            refine lv_iload hx hb dL_act_416 (lv_at hl 1 rfl) ?_
            have hV9 : kV G ([(ha, aN (kcI G) 20 h)] ++ (siteW G S y ++ ([(na, aN (kcI G) 3 f)] ++ wr))) _ := kV_wc hV (fun e => by simp only [wc_app]; omega)
            refine kn_iald (G := G) (n := 20) (g := h) (j := lo) hx hb hK hV9 0 rfl (by omega) (by decide) dL_act_418 ?_
            exact k419 (h lo) (by unfold aOw; rw [if_neg c407, hlo]) _ _ hV hS ls (lv_sub hl [0, 1, 2, 3, 4, 5, 6, 7, 8] rfl)
          · refine lv_iload hx hb dL_act_410 (lv_at hl 3 rfl) ?_
            refine lv_goto (tgt := 419) hx hb dL_act_412 (by decide) ?_
            exact k419 ((x / 32) % 5) (by unfold aOw; rw [if_pos c407]) _ _ hV hS ls (lv_sub hl [0, 1, 2, 3, 4, 5, 6, 7, 8] rfl)
        have k427 : ∀ (hk : 27 ≤ x % 32 ∧ x % 32 < 28) (H : Heap) (locs : List Loc), kV G (siteW G S y ++ ([(na, aN (kcI G) 3 f)] ++ ([(ha, aN (kcI G) 20 h)] ++ wr))) H → va_S (kA G) s.heap H locs → ∀ (ls : Array Slot), lv_has ls 9 [(8, .int (nI (pr))), (7, .int (nI (lo))), (6, .int (nI (pa))), (5, .int (nI ((x / 32) % 5))), (4, .int (nI (x / 32))), (0, .ref (yh)), (1, .ref (na)), (2, .ref (ha)), (3, .int (nI (x)))] → W pp l ee (headSpec wsL_act ({ frames := 10, cells := 18, slots := 1772, locals := 263 } : Room)).room s m [.ref (yh), .ref (na), .ref (ha), .int (nI (x))].toArray below meth cc0 H locs 0 0 (MQ below (kQi G (S := kY) (fun z u => z = (actR S h x).1 ∧ yI G (actR S h x).2 u ∧ yH u 0 = yh) (fun u => siteW G (actR S h x).2 u ++ ([(na, aN (kcI G) 3 f)] ++ ([(ha, aN (kcI G) 20 h)] ++ wr)))) [.ref (yh), .ref (na), .ref (ha), .int (nI (x))].toArray s 18 1772 (kA G)) (F0 m 427 ls []) := by
          intro hk H locs hV hS ls hl
          refine lv_aload_n hx hb dL_act_427 rfl (lv_at hl 5 rfl) ?_
          refine lv_iload hx hb dL_act_428 (lv_at hl 0 rfl) ?_
          refine lv_iload hx hb dL_act_430 (lv_at hl 1 rfl) ?_
          refine kc_i (vx_runSW (As := [.ref (yh), .int (nI (pr)), .int (nI (lo))]) (rest := []) hF (c_L_takes l G S y yh ([(na, aN (kcI G) 3 f)] ++ ([(ha, aN (kcI G) 20 h)] ++ wr)) (nI pr) (nI lo) ((opTake S (nI pr) (nI lo))) rfl hlt hh hI hY) (vx_cwSW 3 hts gL_act_L_takes rfl rfl rfl (by decide +kernel) ⟨Nat.le_of_ble_eq_true rfl, Nat.le_of_ble_eq_true rfl⟩) (kPreS hE hS hV) rfl rfl hl.1 rfl (lv_room (Nat.le_of_ble_eq_true rfl)) dL_act_432 ⟨Nat.le_of_ble_eq_true rfl, Nat.le_of_ble_eq_true rfl⟩) hS (fun r_30 u_29 H locs hp_28 hV hS => ?_)
          obtain ⟨hp_280, hY, hh⟩ := hp_28
          have hY : yI G ((opTake S (nI pr) (nI lo)).2.2) u_29 := hY
          subst hp_280
          have hV : kV G (siteW G ((opTake S (nI pr) (nI lo)).2.2) u_29 ++ ([(na, aN (kcI G) 3 f)] ++ ([(ha, aN (kcI G) 20 h)] ++ wr))) _ := hV
          have e9 : actR S h x = (vIS (opTake S (nI pr) (nI lo)), (opTake S (nI pr) (nI lo)).2.2) := by
            rw [act_a27 hk]; unfold a27
            rw [hpr, hlo]
          refine W.widen (k := 18) (n := 1772) (by decide) (by decide) ?_
          exact W.iret (v := (vIS (opTake S (nI pr) (nI lo)))) hx hb hrt (fun t ht hW => ⟨⟨_, u_29, rfl, ⟨by rw [e9], by rw [e9]; exact hY, hh⟩, kV_eq ht (show kV G (siteW G (actR S h x).2 u_29 ++ _) _ by rw [e9]; exact hV)⟩, hS.F ht⟩) hS.2.2 dL_act_435
        have k436 : ∀ (hk : 28 ≤ x % 32 ∧ x % 32 < 32) (H : Heap) (locs : List Loc), kV G (siteW G S y ++ ([(na, aN (kcI G) 3 f)] ++ ([(ha, aN (kcI G) 20 h)] ++ wr))) H → va_S (kA G) s.heap H locs → ∀ (ls : Array Slot), lv_has ls 9 [(8, .int (nI (pr))), (7, .int (nI (lo))), (6, .int (nI (pa))), (5, .int (nI ((x / 32) % 5))), (4, .int (nI (x / 32))), (0, .ref (yh)), (1, .ref (na)), (2, .ref (ha)), (3, .int (nI (x)))] → W pp l ee (headSpec wsL_act ({ frames := 10, cells := 18, slots := 1772, locals := 263 } : Room)).room s m [.ref (yh), .ref (na), .ref (ha), .int (nI (x))].toArray below meth cc0 H locs 0 0 (MQ below (kQi G (S := kY) (fun z u => z = (actR S h x).1 ∧ yI G (actR S h x).2 u ∧ yH u 0 = yh) (fun u => siteW G (actR S h x).2 u ++ ([(na, aN (kcI G) 3 f)] ++ ([(ha, aN (kcI G) 20 h)] ++ wr)))) [.ref (yh), .ref (na), .ref (ha), .int (nI (x))].toArray s 18 1772 (kA G)) (F0 m 436 ls []) := by
          intro hk H locs hV hS ls hl
          refine lv_aload_n hx hb dL_act_436 rfl (lv_at hl 5 rfl) ?_
          refine lv_iload hx hb dL_act_437 (lv_at hl 0 rfl) ?_
          refine lv_iconst (v := nI 1) hx hb dL_act_439 (by decide) ?_
          refine lv_iload hx hb dL_act_440 (lv_at hl 4 rfl) ?_
          refine lv_bipush (v := nI 12) hx hb dL_act_442 (by decide) ?_
          refine kn_div hx hb (by omega) (by omega) (by omega) dL_act_444 ?_
          have k458 : ∀ (t9 : Nat) (ht9 : t9 = (if x / 32 % 3 = 0 then 40 else 4)) (ht0 : 0 < t9 ∧ t9 < 4000) (H : Heap) (locs : List Loc), kV G (siteW G S y ++ ([(na, aN (kcI G) 3 f)] ++ ([(ha, aN (kcI G) 20 h)] ++ wr))) H → va_S (kA G) s.heap H locs → ∀ (ls : Array Slot), lv_has ls 9 [(8, .int (nI (pr))), (7, .int (nI (lo))), (6, .int (nI (pa))), (5, .int (nI ((x / 32) % 5))), (4, .int (nI (x / 32))), (0, .ref (yh)), (1, .ref (na)), (2, .ref (ha)), (3, .int (nI (x)))] → W pp l ee (headSpec wsL_act ({ frames := 10, cells := 18, slots := 1772, locals := 263 } : Room)).room s m [.ref (yh), .ref (na), .ref (ha), .int (nI (x))].toArray below meth cc0 H locs 0 0 (MQ below (kQi G (S := kY) (fun z u => z = (actR S h x).1 ∧ yI G (actR S h x).2 u ∧ yH u 0 = yh) (fun u => siteW G (actR S h x).2 u ++ ([(na, aN (kcI G) 3 f)] ++ ([(ha, aN (kcI G) 20 h)] ++ wr)))) [.ref (yh), .ref (na), .ref (ha), .int (nI (x))].toArray s 18 1772 (kA G)) (F0 m 458 ls [.int (nI (t9)), .int (nI ((x / 32) / 12)), .int (nI (1)), .int (nI (pr)), .ref (yh)]) := by
            intro t9 ht9 ht0 H locs hV hS ls hl
            refine kn_rem hx hb (by omega) (by omega) (by omega) dL_act_458 ?_
            refine kn_add hx hb dL_act_459 ?_
            refine kc_i (vx_runSW (As := [.ref (yh), .int (nI (pr)), .int (nI (1 + (((x / 32) / 12) % t9)))]) (rest := []) hF (c_L_knits l G S y yh ([(na, aN (kcI G) 3 f)] ++ ([(ha, aN (kcI G) 20 h)] ++ wr)) (nI pr) (nI (1 + (((x / 32) / 12) % t9))) ((opKnit S (nI pr) (nI (1 + (((x / 32) / 12) % t9))))) rfl hlt hh hI hY) (vx_cwSW 3 hts gL_act_L_knits rfl rfl rfl (by decide +kernel) ⟨Nat.le_of_ble_eq_true rfl, Nat.le_of_ble_eq_true rfl⟩) (kPreS hE hS hV) rfl rfl hl.1 rfl (lv_room (Nat.le_of_ble_eq_true rfl)) dL_act_460 ⟨Nat.le_of_ble_eq_true rfl, Nat.le_of_ble_eq_true rfl⟩) hS (fun r_33 u_32 H locs hp_31 hV hS => ?_)
            obtain ⟨hp_310, hY, hh⟩ := hp_31
            have hY : yI G ((opKnit S (nI pr) (nI (1 + (((x / 32) / 12) % t9)))).2.2) u_32 := hY
            subst hp_310
            have hV : kV G (siteW G ((opKnit S (nI pr) (nI (1 + (((x / 32) / 12) % t9)))).2.2) u_32 ++ ([(na, aN (kcI G) 3 f)] ++ ([(ha, aN (kcI G) 20 h)] ++ wr))) _ := hV
            have e9 : actR S h x = (vIA (opKnit S (nI pr) (nI (1 + (((x / 32) / 12) % t9)))), (opKnit S (nI pr) (nI (1 + (((x / 32) / 12) % t9)))).2.2) := by
              rw [act_a28 hk]; unfold a28
              rw [hpr, ht9]
            refine W.widen (k := 18) (n := 1772) (by decide) (by decide) ?_
            exact W.iret (v := (vIA (opKnit S (nI pr) (nI (1 + (((x / 32) / 12) % t9)))))) hx hb hrt (fun t ht hW => ⟨⟨_, u_32, rfl, ⟨by rw [e9], by rw [e9]; exact hY, hh⟩, kV_eq ht (show kV G (siteW G (actR S h x).2 u_32 ++ _) _ by rw [e9]; exact hV)⟩, hS.F ht⟩) hS.2.2 dL_act_463
          refine lv_iload hx hb dL_act_445 (lv_at hl 4 rfl) ?_
          refine lv_iconst (v := nI 3) hx hb dL_act_447 (by decide) ?_
          refine kn_rem hx hb (by omega) (by omega) (by omega) dL_act_448 ?_
          refine kn_if_ne (tgt := 457) hx hb (by omega) dL_act_449 (by decide) (fun c449 => ?_) (fun c449 => ?_)
          · refine lv_iconst (v := nI 4) hx hb dL_act_457 (by decide) ?_
            exact k458 4 (if_neg c449).symm ⟨by decide, by decide⟩ _ _ hV hS ls (lv_sub hl [0, 1, 2, 3, 4, 5, 6, 7, 8] rfl)
          · refine lv_bipush (v := nI 40) hx hb dL_act_452 (by decide) ?_
            refine lv_goto (tgt := 458) hx hb dL_act_454 (by decide) ?_
            exact k458 40 (if_pos c449).symm ⟨by decide, by decide⟩ _ _ hV hS ls (lv_sub hl [0, 1, 2, 3, 4, 5, 6, 7, 8] rfl)
        rcases (show x % 32 = 0 ∨ x % 32 = 1 ∨ x % 32 = 2 ∨ x % 32 = 3 ∨ x % 32 = 4 ∨ x % 32 = 5 ∨ x % 32 = 6 ∨ x % 32 = 7 ∨ x % 32 = 8 ∨ x % 32 = 9 ∨ x % 32 = 10 ∨ x % 32 = 11 ∨ x % 32 = 12 ∨ x % 32 = 13 ∨ x % 32 = 14 ∨ x % 32 = 15 ∨ x % 32 = 16 ∨ x % 32 = 17 ∨ x % 32 = 18 ∨ x % 32 = 19 ∨ x % 32 = 20 ∨ x % 32 = 21 ∨ x % 32 = 22 ∨ x % 32 = 23 ∨ x % 32 = 24 ∨ x % 32 = 25 ∨ x % 32 = 26 ∨ x % 32 = 27 ∨ x % 32 = 28 ∨ x % 32 = 29 ∨ x % 32 = 30 ∨ x % 32 = 31 by omega) with hk | hk | hk | hk | hk | hk | hk | hk | hk | hk | hk | hk | hk | hk | hk | hk | hk | hk | hk | hk | hk | hk | hk | hk | hk | hk | hk | hk | hk | hk | hk | hk
        · rw [hk]
          have e9 : (nI 0).toInt = 0 := i_nI (by decide)
          refine lv_tableIn (off := 125) (tgt := 200) hx hb dL_act_75 (by rw [e9]; decide) (by rw [e9]; decide) (by rw [e9]; rfl) (by decide) ?_
          exact k200 ⟨by omega, by omega⟩ _ _ hV hS ls (lv_sub hl [0, 1, 2, 3, 4, 5, 6, 7, 8] rfl)
        · rw [hk]
          have e9 : (nI 1).toInt = 1 := i_nI (by decide)
          refine lv_tableIn (off := 125) (tgt := 200) hx hb dL_act_75 (by rw [e9]; decide) (by rw [e9]; decide) (by rw [e9]; rfl) (by decide) ?_
          exact k200 ⟨by omega, by omega⟩ _ _ hV hS ls (lv_sub hl [0, 1, 2, 3, 4, 5, 6, 7, 8] rfl)
        · rw [hk]
          have e9 : (nI 2).toInt = 2 := i_nI (by decide)
          refine lv_tableIn (off := 125) (tgt := 200) hx hb dL_act_75 (by rw [e9]; decide) (by rw [e9]; decide) (by rw [e9]; rfl) (by decide) ?_
          exact k200 ⟨by omega, by omega⟩ _ _ hV hS ls (lv_sub hl [0, 1, 2, 3, 4, 5, 6, 7, 8] rfl)
        · rw [hk]
          have e9 : (nI 3).toInt = 3 := i_nI (by decide)
          refine lv_tableIn (off := 150) (tgt := 225) hx hb dL_act_75 (by rw [e9]; decide) (by rw [e9]; decide) (by rw [e9]; rfl) (by decide) ?_
          exact k225 ⟨by omega, by omega⟩ _ _ hV hS ls (lv_sub hl [0, 1, 2, 3, 4, 5, 6, 7, 8] rfl)
        · rw [hk]
          have e9 : (nI 4).toInt = 4 := i_nI (by decide)
          refine lv_tableIn (off := 150) (tgt := 225) hx hb dL_act_75 (by rw [e9]; decide) (by rw [e9]; decide) (by rw [e9]; rfl) (by decide) ?_
          exact k225 ⟨by omega, by omega⟩ _ _ hV hS ls (lv_sub hl [0, 1, 2, 3, 4, 5, 6, 7, 8] rfl)
        · rw [hk]
          have e9 : (nI 5).toInt = 5 := i_nI (by decide)
          refine lv_tableIn (off := 150) (tgt := 225) hx hb dL_act_75 (by rw [e9]; decide) (by rw [e9]; decide) (by rw [e9]; rfl) (by decide) ?_
          exact k225 ⟨by omega, by omega⟩ _ _ hV hS ls (lv_sub hl [0, 1, 2, 3, 4, 5, 6, 7, 8] rfl)
        · rw [hk]
          have e9 : (nI 6).toInt = 6 := i_nI (by decide)
          refine lv_tableIn (off := 150) (tgt := 225) hx hb dL_act_75 (by rw [e9]; decide) (by rw [e9]; decide) (by rw [e9]; rfl) (by decide) ?_
          exact k225 ⟨by omega, by omega⟩ _ _ hV hS ls (lv_sub hl [0, 1, 2, 3, 4, 5, 6, 7, 8] rfl)
        · rw [hk]
          have e9 : (nI 7).toInt = 7 := i_nI (by decide)
          refine lv_tableIn (off := 150) (tgt := 225) hx hb dL_act_75 (by rw [e9]; decide) (by rw [e9]; decide) (by rw [e9]; rfl) (by decide) ?_
          exact k225 ⟨by omega, by omega⟩ _ _ hV hS ls (lv_sub hl [0, 1, 2, 3, 4, 5, 6, 7, 8] rfl)
        · rw [hk]
          have e9 : (nI 8).toInt = 8 := i_nI (by decide)
          refine lv_tableIn (off := 150) (tgt := 225) hx hb dL_act_75 (by rw [e9]; decide) (by rw [e9]; decide) (by rw [e9]; rfl) (by decide) ?_
          exact k225 ⟨by omega, by omega⟩ _ _ hV hS ls (lv_sub hl [0, 1, 2, 3, 4, 5, 6, 7, 8] rfl)
        · rw [hk]
          have e9 : (nI 9).toInt = 9 := i_nI (by decide)
          refine lv_tableIn (off := 225) (tgt := 300) hx hb dL_act_75 (by rw [e9]; decide) (by rw [e9]; decide) (by rw [e9]; rfl) (by decide) ?_
          exact k300 ⟨by omega, by omega⟩ _ _ hV hS ls (lv_sub hl [0, 1, 2, 3, 4, 5, 6, 7, 8] rfl)
        · rw [hk]
          have e9 : (nI 10).toInt = 10 := i_nI (by decide)
          refine lv_tableIn (off := 242) (tgt := 317) hx hb dL_act_75 (by rw [e9]; decide) (by rw [e9]; decide) (by rw [e9]; rfl) (by decide) ?_
          exact k317 ⟨by omega, by omega⟩ _ _ hV hS ls (lv_sub hl [0, 1, 2, 3, 4, 5, 6, 7, 8] rfl)
        · rw [hk]
          have e9 : (nI 11).toInt = 11 := i_nI (by decide)
          refine lv_tableIn (off := 242) (tgt := 317) hx hb dL_act_75 (by rw [e9]; decide) (by rw [e9]; decide) (by rw [e9]; rfl) (by decide) ?_
          exact k317 ⟨by omega, by omega⟩ _ _ hV hS ls (lv_sub hl [0, 1, 2, 3, 4, 5, 6, 7, 8] rfl)
        · rw [hk]
          have e9 : (nI 12).toInt = 12 := i_nI (by decide)
          refine lv_tableIn (off := 242) (tgt := 317) hx hb dL_act_75 (by rw [e9]; decide) (by rw [e9]; decide) (by rw [e9]; rfl) (by decide) ?_
          exact k317 ⟨by omega, by omega⟩ _ _ hV hS ls (lv_sub hl [0, 1, 2, 3, 4, 5, 6, 7, 8] rfl)
        · rw [hk]
          have e9 : (nI 13).toInt = 13 := i_nI (by decide)
          refine lv_tableIn (off := 242) (tgt := 317) hx hb dL_act_75 (by rw [e9]; decide) (by rw [e9]; decide) (by rw [e9]; rfl) (by decide) ?_
          exact k317 ⟨by omega, by omega⟩ _ _ hV hS ls (lv_sub hl [0, 1, 2, 3, 4, 5, 6, 7, 8] rfl)
        · rw [hk]
          have e9 : (nI 14).toInt = 14 := i_nI (by decide)
          refine lv_tableIn (off := 249) (tgt := 324) hx hb dL_act_75 (by rw [e9]; decide) (by rw [e9]; decide) (by rw [e9]; rfl) (by decide) ?_
          exact k324 ⟨by omega, by omega⟩ _ _ hV hS ls (lv_sub hl [0, 1, 2, 3, 4, 5, 6, 7, 8] rfl)
        · rw [hk]
          have e9 : (nI 15).toInt = 15 := i_nI (by decide)
          refine lv_tableIn (off := 249) (tgt := 324) hx hb dL_act_75 (by rw [e9]; decide) (by rw [e9]; decide) (by rw [e9]; rfl) (by decide) ?_
          exact k324 ⟨by omega, by omega⟩ _ _ hV hS ls (lv_sub hl [0, 1, 2, 3, 4, 5, 6, 7, 8] rfl)
        · rw [hk]
          have e9 : (nI 16).toInt = 16 := i_nI (by decide)
          refine lv_tableIn (off := 249) (tgt := 324) hx hb dL_act_75 (by rw [e9]; decide) (by rw [e9]; decide) (by rw [e9]; rfl) (by decide) ?_
          exact k324 ⟨by omega, by omega⟩ _ _ hV hS ls (lv_sub hl [0, 1, 2, 3, 4, 5, 6, 7, 8] rfl)
        · rw [hk]
          have e9 : (nI 17).toInt = 17 := i_nI (by decide)
          refine lv_tableIn (off := 249) (tgt := 324) hx hb dL_act_75 (by rw [e9]; decide) (by rw [e9]; decide) (by rw [e9]; rfl) (by decide) ?_
          exact k324 ⟨by omega, by omega⟩ _ _ hV hS ls (lv_sub hl [0, 1, 2, 3, 4, 5, 6, 7, 8] rfl)
        · rw [hk]
          have e9 : (nI 18).toInt = 18 := i_nI (by decide)
          refine lv_tableIn (off := 258) (tgt := 333) hx hb dL_act_75 (by rw [e9]; decide) (by rw [e9]; decide) (by rw [e9]; rfl) (by decide) ?_
          exact k333 ⟨by omega, by omega⟩ _ _ hV hS ls (lv_sub hl [0, 1, 2, 3, 4, 5, 6, 7, 8] rfl)
        · rw [hk]
          have e9 : (nI 19).toInt = 19 := i_nI (by decide)
          refine lv_tableIn (off := 258) (tgt := 333) hx hb dL_act_75 (by rw [e9]; decide) (by rw [e9]; decide) (by rw [e9]; rfl) (by decide) ?_
          exact k333 ⟨by omega, by omega⟩ _ _ hV hS ls (lv_sub hl [0, 1, 2, 3, 4, 5, 6, 7, 8] rfl)
        · rw [hk]
          have e9 : (nI 20).toInt = 20 := i_nI (by decide)
          refine lv_tableIn (off := 265) (tgt := 340) hx hb dL_act_75 (by rw [e9]; decide) (by rw [e9]; decide) (by rw [e9]; rfl) (by decide) ?_
          exact k340 ⟨by omega, by omega⟩ _ _ hV hS ls (lv_sub hl [0, 1, 2, 3, 4, 5, 6, 7, 8] rfl)
        · rw [hk]
          have e9 : (nI 21).toInt = 21 := i_nI (by decide)
          refine lv_tableIn (off := 265) (tgt := 340) hx hb dL_act_75 (by rw [e9]; decide) (by rw [e9]; decide) (by rw [e9]; rfl) (by decide) ?_
          exact k340 ⟨by omega, by omega⟩ _ _ hV hS ls (lv_sub hl [0, 1, 2, 3, 4, 5, 6, 7, 8] rfl)
        · rw [hk]
          have e9 : (nI 22).toInt = 22 := i_nI (by decide)
          refine lv_tableIn (off := 265) (tgt := 340) hx hb dL_act_75 (by rw [e9]; decide) (by rw [e9]; decide) (by rw [e9]; rfl) (by decide) ?_
          exact k340 ⟨by omega, by omega⟩ _ _ hV hS ls (lv_sub hl [0, 1, 2, 3, 4, 5, 6, 7, 8] rfl)
        · rw [hk]
          have e9 : (nI 23).toInt = 23 := i_nI (by decide)
          refine lv_tableIn (off := 305) (tgt := 380) hx hb dL_act_75 (by rw [e9]; decide) (by rw [e9]; decide) (by rw [e9]; rfl) (by decide) ?_
          exact k380 ⟨by omega, by omega⟩ _ _ hV hS ls (lv_sub hl [0, 1, 2, 3, 4, 5, 6, 7, 8] rfl)
        · rw [hk]
          have e9 : (nI 24).toInt = 24 := i_nI (by decide)
          refine lv_tableIn (off := 328) (tgt := 403) hx hb dL_act_75 (by rw [e9]; decide) (by rw [e9]; decide) (by rw [e9]; rfl) (by decide) ?_
          exact k403 ⟨by omega, by omega⟩ _ _ hV hS ls (lv_sub hl [0, 1, 2, 3, 4, 5, 6, 7, 8] rfl)
        · rw [hk]
          have e9 : (nI 25).toInt = 25 := i_nI (by decide)
          refine lv_tableIn (off := 328) (tgt := 403) hx hb dL_act_75 (by rw [e9]; decide) (by rw [e9]; decide) (by rw [e9]; rfl) (by decide) ?_
          exact k403 ⟨by omega, by omega⟩ _ _ hV hS ls (lv_sub hl [0, 1, 2, 3, 4, 5, 6, 7, 8] rfl)
        · rw [hk]
          have e9 : (nI 26).toInt = 26 := i_nI (by decide)
          refine lv_tableIn (off := 328) (tgt := 403) hx hb dL_act_75 (by rw [e9]; decide) (by rw [e9]; decide) (by rw [e9]; rfl) (by decide) ?_
          exact k403 ⟨by omega, by omega⟩ _ _ hV hS ls (lv_sub hl [0, 1, 2, 3, 4, 5, 6, 7, 8] rfl)
        · rw [hk]
          have e9 : (nI 27).toInt = 27 := i_nI (by decide)
          refine lv_tableIn (off := 352) (tgt := 427) hx hb dL_act_75 (by rw [e9]; decide) (by rw [e9]; decide) (by rw [e9]; rfl) (by decide) ?_
          exact k427 ⟨by omega, by omega⟩ _ _ hV hS ls (lv_sub hl [0, 1, 2, 3, 4, 5, 6, 7, 8] rfl)
        · rw [hk]
          have e9 : (nI 28).toInt = 28 := i_nI (by decide)
          refine lv_tableOut (tgt := 436) hx hb dL_act_75 (Or.inr (by rw [e9]; decide)) (by decide) ?_
          exact k436 ⟨by omega, by omega⟩ _ _ hV hS ls (lv_sub hl [0, 1, 2, 3, 4, 5, 6, 7, 8] rfl)
        · rw [hk]
          have e9 : (nI 29).toInt = 29 := i_nI (by decide)
          refine lv_tableOut (tgt := 436) hx hb dL_act_75 (Or.inr (by rw [e9]; decide)) (by decide) ?_
          exact k436 ⟨by omega, by omega⟩ _ _ hV hS ls (lv_sub hl [0, 1, 2, 3, 4, 5, 6, 7, 8] rfl)
        · rw [hk]
          have e9 : (nI 30).toInt = 30 := i_nI (by decide)
          refine lv_tableOut (tgt := 436) hx hb dL_act_75 (Or.inr (by rw [e9]; decide)) (by decide) ?_
          exact k436 ⟨by omega, by omega⟩ _ _ hV hS ls (lv_sub hl [0, 1, 2, 3, 4, 5, 6, 7, 8] rfl)
        · rw [hk]
          have e9 : (nI 31).toInt = 31 := i_nI (by decide)
          refine lv_tableOut (tgt := 436) hx hb dL_act_75 (Or.inr (by rw [e9]; decide)) (by decide) ?_
          exact k436 ⟨by omega, by omega⟩ _ _ hV hS ls (lv_sub hl [0, 1, 2, 3, 4, 5, 6, 7, 8] rfl)
      refine lv_aload_n hx hb dL_act_53 rfl (lv_at hl 5 rfl) ?_
      refine lv_iconst (v := nI 2) hx hb dL_act_54 (by decide) ?_
      have hV9 : kV G ([(na, aN (kcI G) 3 f)] ++ (siteW G S y ++ ([(ha, aN (kcI G) 20 h)] ++ wr))) _ := kV_wc hV (fun e => by simp only [wc_app]; omega)
      refine kn_iald (G := G) (n := 3) (g := f) (j := 2) hx hb hK hV9 0 rfl (by decide) (by decide) dL_act_55 ?_
      rw [show f 2 = S.1 19 0 from hn2]
      refine kn_if_ne (tgt := 63) hx hb (by omega) dL_act_56 (by decide) (fun c56 => ?_) (fun c56 => ?_)
      · refine lv_iload hx hb dL_act_63 (lv_at hl 3 rfl) ?_
        refine lv_aload_n hx hb dL_act_65 rfl (lv_at hl 5 rfl) ?_
        refine lv_iconst (v := nI 2) hx hb dL_act_66 (by decide) ?_
        have hV9 : kV G ([(na, aN (kcI G) 3 f)] ++ (siteW G S y ++ ([(ha, aN (kcI G) 20 h)] ++ wr))) _ := kV_wc hV (fun e => by simp only [wc_app]; omega)
        refine kn_iald (G := G) (n := 3) (g := f) (j := 2) hx hb hK hV9 0 rfl (by decide) (by decide) dL_act_67 ?_
        rw [show f 2 = S.1 19 0 from hn2]
        refine kn_rem hx hb (by omega) (by omega) (by omega) dL_act_68 ?_
        exact k69 ((x / 32) % (S.1 19 0)) (by unfold aPr; rw [if_neg c56]) _ _ hV hS ls (lv_sub hl [0, 1, 2, 3, 4, 5, 6, 7] rfl)
      · refine lv_iconst (v := nI 0) hx hb dL_act_59 (by decide) ?_
        refine lv_goto (tgt := 69) hx hb dL_act_60 (by decide) ?_
        exact k69 0 (by unfold aPr; rw [if_pos c56]) _ _ hV hS ls (lv_sub hl [0, 1, 2, 3, 4, 5, 6, 7] rfl)
    refine lv_aload_n hx hb dL_act_32 rfl (lv_at hl 4 rfl) ?_
    refine lv_iconst (v := nI 1) hx hb dL_act_33 (by decide) ?_
    have hV9 : kV G ([(na, aN (kcI G) 3 f)] ++ (siteW G S y ++ ([(ha, aN (kcI G) 20 h)] ++ wr))) _ := kV_wc hV (fun e => by simp only [wc_app]; omega)
    refine kn_iald (G := G) (n := 3) (g := f) (j := 1) hx hb hK hV9 0 rfl (by decide) (by decide) dL_act_34 ?_
    rw [show f 1 = S.1 15 0 from hn1]
    refine kn_if_ne (tgt := 42) hx hb (by omega) dL_act_35 (by decide) (fun c35 => ?_) (fun c35 => ?_)
    · refine lv_iload hx hb dL_act_42 (lv_at hl 2 rfl) ?_
      refine lv_bipush (v := nI 7) hx hb dL_act_44 (by decide) ?_
      refine kn_div hx hb (by omega) (by omega) (by omega) dL_act_46 ?_
      refine lv_aload_n hx hb dL_act_47 rfl (lv_at hl 4 rfl) ?_
      refine lv_iconst (v := nI 1) hx hb dL_act_48 (by decide) ?_
      have hV9 : kV G ([(na, aN (kcI G) 3 f)] ++ (siteW G S y ++ ([(ha, aN (kcI G) 20 h)] ++ wr))) _ := kV_wc hV (fun e => by simp only [wc_app]; omega)
      refine kn_iald (G := G) (n := 3) (g := f) (j := 1) hx hb hK hV9 0 rfl (by decide) (by decide) dL_act_49 ?_
      rw [show f 1 = S.1 15 0 from hn1]
      refine kn_rem hx hb (by omega) (by omega) (by omega) dL_act_50 ?_
      exact k51 (((x / 32) / 7) % (S.1 15 0)) (by unfold aLo; rw [if_neg c35]) _ _ hV hS ls (lv_sub hl [0, 1, 2, 3, 4, 5, 6] rfl)
    · refine lv_iconst (v := nI 0) hx hb dL_act_38 (by decide) ?_
      refine lv_goto (tgt := 51) hx hb dL_act_39 (by decide) ?_
      exact k51 0 (by unfold aLo; rw [if_pos c35]) _ _ hV hS ls (lv_sub hl [0, 1, 2, 3, 4, 5, 6] rfl)
  refine lv_aload_n hx hb dL_act_12 rfl (lv_at hl 3 rfl) ?_
  refine lv_iconst (v := nI 0) hx hb dL_act_13 (by decide) ?_
  have hV9 : kV G ([(na, aN (kcI G) 3 f)] ++ (siteW G S y ++ ([(ha, aN (kcI G) 20 h)] ++ wr))) _ := kV_wc hV (fun e => by simp only [wc_app]; omega)
  refine kn_iald (G := G) (n := 3) (g := f) (j := 0) hx hb hK hV9 0 rfl (by decide) (by decide) dL_act_14 ?_
  rw [show f 0 = S.1 1 0 from hn0]
  refine kn_if_ne (tgt := 22) hx hb (by omega) dL_act_15 (by decide) (fun c15 => ?_) (fun c15 => ?_)
  · refine lv_iload hx hb dL_act_22 (lv_at hl 1 rfl) ?_
    refine lv_iconst (v := nI 5) hx hb dL_act_24 (by decide) ?_
    refine kn_div hx hb (by omega) (by omega) (by omega) dL_act_25 ?_
    refine lv_aload_n hx hb dL_act_26 rfl (lv_at hl 3 rfl) ?_
    refine lv_iconst (v := nI 0) hx hb dL_act_27 (by decide) ?_
    have hV9 : kV G ([(na, aN (kcI G) 3 f)] ++ (siteW G S y ++ ([(ha, aN (kcI G) 20 h)] ++ wr))) _ := kV_wc hV (fun e => by simp only [wc_app]; omega)
    refine kn_iald (G := G) (n := 3) (g := f) (j := 0) hx hb hK hV9 0 rfl (by decide) (by decide) dL_act_28 ?_
    rw [show f 0 = S.1 1 0 from hn0]
    refine kn_rem hx hb (by omega) (by omega) (by omega) dL_act_29 ?_
    exact k30 (((x / 32) / 5) % (S.1 1 0)) (by unfold aPa; rw [if_neg c15]) _ _ hV hS ls (lv_sub hl [0, 1, 2, 3, 4, 5] rfl)
  · refine lv_iconst (v := nI 0) hx hb dL_act_18 (by decide) ?_
    refine lv_goto (tgt := 30) hx hb dL_act_19 (by decide) ?_
    exact k30 0 (by unfold aPa; rw [if_pos c15]) _ _ hV hS ls (lv_sub hl [0, 1, 2, 3, 4, 5] rfl)
