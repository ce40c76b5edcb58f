/-! each call keeps the bounds; a call's first number is at most 3 -/
theorem kI_S0 : kInv S0 :=
  ⟨⟨Nat.zero_le _, Nat.zero_le _, Nat.zero_le _, Nat.zero_le _⟩, fun p h => absurd h (Nat.not_lt_zero _), fun p _ _ => ⟨rfl, rfl, rfl⟩, fun a h => absurd h (Nat.not_lt_zero _), fun a h => absurd h (Nat.not_lt_zero _), fun j _ _ => rfl, fun p q h => absurd h (Nat.not_lt_zero _), fun o h => absurd h (Nat.not_lt_zero _)⟩
theorem kI_Begin {S : kS} (h : kInv S) (o w c : Int32) : kInv (opBegin S o w c).2.2 := by
  unfold opBegin
  by_cases c1 : isIn o 5
  · rw [kif_f (not_not_intro c1)]
    by_cases c2 : inI w (nI 1) (nI 20) ∧ inI c (nI 0) (nI 1000)
    · rw [kif_f (not_not_intro c2)]
      by_cases c3 : S.1 1 0 = 16
      · rw [kif_t c3]; exact h
      · rw [kif_f c3]
        obtain ⟨j, hj, rfl⟩ := c1
        obtain ⟨a1, ha1, ha2, rfl⟩ := rng_nI c2.1 (by decide) (by decide)
        obtain ⟨a2, hb1, hb2, rfl⟩ := rng_nI c2.2 (by decide) (by decide)
        have hn := h.1.1
        show kInv (addS S (tn (nI j)) (tn (nI a1)) (tn (nI a2)))
        rw [tn_nI (by omega), tn_nI (by omega), tn_nI (by omega)]
        exact kInv_addS h (by omega) hj ⟨ha1, ha2⟩ hb2
    · rw [kif_t c2]; exact h
  · rw [kif_t c1]; exact h
theorem kI_Line {S : kS} (h : kInv S) (p k u z t : Int32) : kInv (opLine S p k u z t).2.2 := by
  unfold opLine
  by_cases c1 : isIn p (S.1 1 0)
  · rw [kif_f (not_not_intro c1)]
    by_cases c2 : lineArgs k u z t
    · rw [kif_f (not_not_intro c2)]
      by_cases c3 : lineCan S (tn p) (tn t)
      · rw [kif_f (not_not_intro c3)]
        obtain ⟨j, hj, rfl⟩ := c1
        obtain ⟨b1, b2, b3, b4, b5⟩ := c2
        obtain ⟨a1, ha1, ha2, rfl⟩ := rng_nI b1 (by decide) (by decide)
        obtain ⟨a2, hb1, hb2, rfl⟩ := rng_nI b2 (by decide) (by decide)
        obtain ⟨a3, hc1, hc2, rfl⟩ := z_rng b4
        obtain ⟨a4, hd1, hd2, rfl⟩ := rng_nI b5 (by decide) (by decide)
        have hn := h.1.1
        have e0 : tn (nI j) = j := tn_nI (by omega)
        have e1 : tn (nI a1) = a1 := tn_nI (by omega)
        have e2 : tn (nI a2) = a2 := tn_nI (by omega)
        have e4 : tn (nI a4) = a4 := tn_nI (by omega)
        rw [e0, e4] at c3
        rw [e1, e2] at b3
        show kInv (putS S (tn (nI j)) (tn (nI a1)) (tn (nI a2)) (tz (zI a3)) (tn (nI a4)))
        rw [e0, e1, e2, e4, tz_zI hc1 hc2]
        exact kInv_putS h hj c3.1 c3.2.1 ha2 hb2 b3 ⟨hc1, hc2⟩ hd1 (by omega) c3.2.2
      · rw [kif_t c3]; exact h
    · rw [kif_t c2]; exact h
  · rw [kif_t c1]; exact h
theorem kI_Anew {S : kS} (h : kInv S) (p g : Int32) : kInv (opAnew S p g).2.2 := by
  unfold opAnew
  by_cases c1 : isIn p (S.1 1 0)
  · rw [kif_f (not_not_intro c1)]
    by_cases c2 : inI g (nI 5) (nI 20)
    · rw [kif_f (not_not_intro c2)]
      by_cases c3 : anewCan S (tn p) (tn g)
      · rw [kif_f (not_not_intro c3)]
        obtain ⟨j, hj, rfl⟩ := c1
        obtain ⟨a1, ha1, ha2, rfl⟩ := rng_nI c2 (by decide) (by decide)
        have hn := h.1.1
        have e0 : tn (nI j) = j := tn_nI (by omega)
        have e1 : tn (nI a1) = a1 := tn_nI (by omega)
        rw [e0, e1] at c3
        show kInv (anewN S (tn (nI j)) (tn (nI a1)) (S.1 5 (tn (nI j))))
        rw [e0, e1]
        exact kInv_anewN h hj ⟨ha1, ha2⟩ c3.2.2 c3.2.1 _ (Nat.le_refl _)
      · rw [kif_t c3]; exact h
    · rw [kif_t c2]; exact h
  · rw [kif_t c1]; exact h
theorem kI_Publish {S : kS} (h : kInv S) (p : Int32) : kInv (opPublish S p).2.2 := by
  unfold opPublish
  by_cases c1 : isIn p (S.1 1 0)
  · rw [kif_f (not_not_intro c1)]
    by_cases c2 : S.1 10 (tn p) = 99 ∧ 0 < S.1 5 (tn p)
    · rw [kif_f (not_not_intro c2)]
      obtain ⟨j, hj, rfl⟩ := c1
      have hn := h.1.1
      have e0 : tn (nI j) = j := tn_nI (by omega)
      rw [e0] at c2
      show kInv (pubS S (tn (nI j)))
      rw [e0]
      exact kInv_pubS h hj c2.1 c2.2
    · rw [kif_t c2]; exact h
  · rw [kif_t c1]; exact h
theorem kI_Buy {S : kS} (h : kInv S) (p j : Int32) : kInv (opBuy S p j).2.2 := by
  unfold opBuy
  by_cases c1 : isIn p (S.1 1 0) ∧ isIn j 5
  · rw [kif_f (not_not_intro c1)]
    by_cases c2 : buyCan S (tn p) (tn j)
    · rw [kif_f (not_not_intro c2)]
      obtain ⟨⟨a0, h0, rfl⟩, a1, h1, rfl⟩ := c1
      have hn := h.1.1
      show kInv (buyS S (tn (nI a0)) (tn (nI a1)))
      rw [tn_nI (by omega), tn_nI (by omega)]
      exact kInv_buyS h h0 h1
    · rw [kif_t c2]; exact h
  · rw [kif_t c1]; exact h
theorem kI_Rule {S : kS} (h : kInv S) (p : Int32) : kInv (opRule S p).2.2 := by
  unfold opRule
  by_cases c1 : isIn p (S.1 1 0)
  · rw [kif_f (not_not_intro c1)]
    by_cases c2 : ruleCan S (tn p)
    · rw [kif_f (not_not_intro c2)]
      obtain ⟨a0, h0, rfl⟩ := c1
      have hn := h.1.1
      show kInv (ruleS S (tn (nI a0)))
      rw [tn_nI (by omega)]
      exact kInv_ruleS h h0
    · rw [kif_t c2]; exact h
  · rw [kif_t c1]; exact h
theorem kI_Lot {S : kS} (h : kInv S) (x g y : Int32) : kInv (opLot S x g y).2.2 := by
  unfold opLot
  by_cases c1 : isIn x 5
  · rw [kif_f (not_not_intro c1)]
    by_cases c2 : inI g (nI 5) (nI 20) ∧ inI y (nI 1) (nI 100000)
    · rw [kif_f (not_not_intro c2)]
      by_cases c3 : S.1 15 0 = 20
      · rw [kif_t c3]; exact h
      · rw [kif_f c3]
        obtain ⟨j, hj, rfl⟩ := c1
        obtain ⟨a1, ha1, ha2, rfl⟩ := rng_nI c2.1 (by decide) (by decide)
        obtain ⟨a2, hb1, hb2, rfl⟩ := rng_nI c2.2 (by decide) (by decide)
        have hn := h.1.2.1
        show kInv (lotS S (tn (nI j)) (tn (nI a1)) (tn (nI a2)))
        rw [tn_nI (by omega), tn_nI (by omega), tn_nI (by omega)]
        exact kInv_lotS h (by omega) hj ⟨ha1, ha2⟩ hb2
    · rw [kif_t c2]; exact h
  · rw [kif_t c1]; exact h
theorem kI_Swap {S : kS} (h : kInv S) (a b : Int32) : kInv (opSwap S a b).2.2 := by
  unfold opSwap
  by_cases c1 : isIn a (S.1 15 0) ∧ isIn b (S.1 15 0)
  · rw [kif_f (not_not_intro c1)]
    by_cases c2 : S.1 16 (tn a) = S.1 16 (tn b)
    · rw [kif_t c2]; exact h
    · rw [kif_f c2]
      obtain ⟨⟨a0, h0, rfl⟩, a1, h1, rfl⟩ := c1
      have hn := h.1.2.1
      show kInv (swapS S (tn (nI a0)) (tn (nI a1)))
      rw [tn_nI (by omega), tn_nI (by omega)]
      exact kInv_swapS h h0 h1
  · rw [kif_t c1]; exact h
theorem kI_Project {S : kS} (h : kInv S) (x p a : Int32) : kInv (opProject S x p a).2.2 := by
  unfold opProject
  by_cases c1 : isIn x 5 ∧ isIn p (S.1 1 0) ∧ isIn a (S.1 15 0)
  · rw [kif_f (not_not_intro c1)]
    by_cases c2 : projCan S (tn x) (tn p) (tn a)
    · rw [kif_f (not_not_intro c2)]
      obtain ⟨⟨a0, h0, rfl⟩, ⟨a1, h1, rfl⟩, a2, h2, rfl⟩ := c1
      have hn := h.1.1
      have hn2 := h.1.2.1
      have e0 : tn (nI a0) = a0 := tn_nI (by omega)
      have e1 : tn (nI a1) = a1 := tn_nI (by omega)
      have e2 : tn (nI a2) = a2 := tn_nI (by omega)
      rw [e0, e1, e2] at c2
      show kInv (projS S (tn (nI a0)) (tn (nI a1)) (tn (nI a2)))
      rw [e0, e1, e2]
      exact kInv_projS h h0 h1 h2 c2
    · rw [kif_t c2]; exact h
  · rw [kif_t c1]; exact h
theorem kI_Take {S : kS} (h : kInv S) (j a : Int32) : kInv (opTake S j a).2.2 := by
  unfold opTake
  by_cases c1 : isIn j (S.1 19 0) ∧ isIn a (S.1 15 0)
  · rw [kif_f (not_not_intro c1)]
    by_cases c2 : S.1 16 (tn a) = S.1 20 (tn j)
    · rw [kif_f (not_not_intro c2)]
      obtain ⟨⟨a0, h0, rfl⟩, a1, h1, rfl⟩ := c1
      have hn := h.1.2.1
      have e1 : tn (nI a1) = a1 := tn_nI (by omega)
      show kInv (st S 22 (tn (nI a0)) (tn (nI a1)))
      rw [e1]
      exact kInv_take h h1
    · rw [kif_t c2]; exact h
  · rw [kif_t c1]; exact h
theorem kI_Knit {S : kS} (h : kInv S) (j n : Int32) : kInv (opKnit S j n).2.2 := by
  unfold opKnit
  by_cases c1 : isIn j (S.1 19 0)
  · rw [kif_f (not_not_intro c1)]
    by_cases c2 : inI n (nI 1) (nI 40)
    · rw [kif_f (not_not_intro c2)]
      obtain ⟨a0, h0, rfl⟩ := c1
      have hn := h.1.2.2.1
      have e0 : tn (nI a0) = a0 := tn_nI (by omega)
      show kInv (knitN S (tn (nI a0)) (tn n)).2
      rw [e0]
      exact kInv_knitN _ h h0
    · rw [kif_t c2]; exact h
  · rw [kif_t c1]; exact h
theorem kI_Original {S : kS} (h : kInv S) (p : Int32) : kInv (opOriginal S p).2.2 := by
  unfold opOriginal kif
  (repeat' split) <;> exact h
theorem kI_Rows {S : kS} (h : kInv S) (p : Int32) : kInv (opRows S p).2.2 := by
  unfold opRows kif
  (repeat' split) <;> exact h
theorem kI_Stitch {S : kS} (h : kInv S) (p r c : Int32) : kInv (opStitch S p r c).2.2 := by
  unfold opStitch kif
  (repeat' split) <;> exact h
theorem kI_Need {S : kS} (h : kInv S) (p g : Int32) : kInv (opNeed S p g).2.2 := by
  unfold opNeed kif
  (repeat' split) <;> exact h
theorem kI_Money {S : kS} (h : kInv S) (x : Int32) : kInv (opMoney S x).2.2 := by
  unfold opMoney kif
  (repeat' split) <;> exact h
theorem kI_Left {S : kS} (h : kInv S) (a : Int32) : kInv (opLeft S a).2.2 := by
  unfold opLeft kif
  (repeat' split) <;> exact h
theorem kI_Progress {S : kS} (h : kInv S) (j : Int32) : kInv (opProgress S j).2.2 := by
  unfold opProgress kif
  (repeat' split) <;> exact h
theorem o1_Original (S : kS) (p : Int32) : (opOriginal S p).1 < 2 ^ 31 := by
  unfold opOriginal kif
  (repeat' split) <;> exact Nat.le_of_ble_eq_true rfl
theorem o1_Rows (S : kS) (p : Int32) : (opRows S p).1 < 2 ^ 31 := by
  unfold opRows kif
  (repeat' split) <;> exact Nat.le_of_ble_eq_true rfl
theorem o1_Stitch (S : kS) (p r c : Int32) : (opStitch S p r c).1 < 2 ^ 31 := by
  unfold opStitch kif
  (repeat' split) <;> exact Nat.le_of_ble_eq_true rfl
theorem o1_Need (S : kS) (p g : Int32) : (opNeed S p g).1 < 2 ^ 31 := by
  unfold opNeed kif
  (repeat' split) <;> exact Nat.le_of_ble_eq_true rfl
theorem o1_Money (S : kS) (x : Int32) : (opMoney S x).1 < 2 ^ 31 := by
  unfold opMoney kif
  (repeat' split) <;> exact Nat.le_of_ble_eq_true rfl
theorem o1_Left (S : kS) (a : Int32) : (opLeft S a).1 < 2 ^ 31 := by
  unfold opLeft kif
  (repeat' split) <;> exact Nat.le_of_ble_eq_true rfl
theorem o1_Progress (S : kS) (j : Int32) : (opProgress S j).1 < 2 ^ 31 := by
  unfold opProgress kif
  (repeat' split) <;> exact Nat.le_of_ble_eq_true rfl
theorem o1_Begin (S : kS) (o w c : Int32) : (opBegin S o w c).1 < 2 ^ 31 := by
  unfold opBegin kif
  (repeat' split) <;> exact Nat.le_of_ble_eq_true rfl
theorem o1_Line (S : kS) (p k u z t : Int32) : (opLine S p k u z t).1 < 2 ^ 31 := by
  unfold opLine kif
  (repeat' split) <;> exact Nat.le_of_ble_eq_true rfl
theorem o1_Anew (S : kS) (p g : Int32) : (opAnew S p g).1 < 2 ^ 31 := by
  unfold opAnew kif
  (repeat' split) <;> exact Nat.le_of_ble_eq_true rfl
theorem o1_Publish (S : kS) (p : Int32) : (opPublish S p).1 < 2 ^ 31 := by
  unfold opPublish kif
  (repeat' split) <;> exact Nat.le_of_ble_eq_true rfl
theorem o1_Buy (S : kS) (p j : Int32) : (opBuy S p j).1 < 2 ^ 31 := by
  unfold opBuy kif
  (repeat' split) <;> exact Nat.le_of_ble_eq_true rfl
theorem o1_Rule (S : kS) (p : Int32) : (opRule S p).1 < 2 ^ 31 := by
  unfold opRule kif
  (repeat' split) <;> exact Nat.le_of_ble_eq_true rfl
theorem o1_Lot (S : kS) (x g y : Int32) : (opLot S x g y).1 < 2 ^ 31 := by
  unfold opLot kif
  (repeat' split) <;> exact Nat.le_of_ble_eq_true rfl
theorem o1_Swap (S : kS) (a b : Int32) : (opSwap S a b).1 < 2 ^ 31 := by
  unfold opSwap kif
  (repeat' split) <;> exact Nat.le_of_ble_eq_true rfl
theorem o1_Project (S : kS) (x p a : Int32) : (opProject S x p a).1 < 2 ^ 31 := by
  unfold opProject kif
  (repeat' split) <;> exact Nat.le_of_ble_eq_true rfl
theorem o1_Take (S : kS) (j a : Int32) : (opTake S j a).1 < 2 ^ 31 := by
  unfold opTake kif
  (repeat' split) <;> exact Nat.le_of_ble_eq_true rfl
theorem o1_Knit (S : kS) (j n : Int32) : (opKnit S j n).1 < 2 ^ 31 := by
  unfold opKnit kif
  (repeat' split) <;> exact Nat.le_of_ble_eq_true rfl
