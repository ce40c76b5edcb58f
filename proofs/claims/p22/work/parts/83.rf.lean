/-! CALLS THAT ARE REFUSED, and calls that only ask: what the operation is there -/
theorem nin_neg {z : Int} {n : Nat} (h1 : -2147483648 ≤ z) (h2 : z < 0) (hn : n < 2 ^ 31) : ¬ isIn (zI z) n := by
  rintro ⟨j, hj, e⟩
  have e1 : (zI z).toInt = z := Int32.toInt_ofInt_of_le (by omega) (by omega)
  have e2 := i_nI (n := j) (by omega)
  rw [e, e2] at e1
  omega
theorem nin_ge {k n : Nat} (h : n ≤ k) (hk : k < 2 ^ 31) : ¬ isIn (nI k) n := fun z => by
  have := isIn_nat hk (by omega) z
  omega
theorem nrg_hi {k b : Nat} {lo : Int32} (h : b < k) (hk : k < 2 ^ 31) : ¬ inI (nI k) lo (nI b) := fun z => by
  have z2 := z.2
  rw [i_le, i_nI hk, i_nI (by omega)] at z2
  omega
theorem nrg_lo {z : Int} {a : Nat} {hi : Int32} (h : z < a) (hz : -2147483648 ≤ z) (ha : a < 2 ^ 31) : ¬ inI (zI z) (nI a) hi := fun q => by
  have q1 := q.1
  have e1 : (zI z).toInt = z := Int32.toInt_ofInt_of_le (by omega) (by omega)
  rw [i_le, i_nI ha, e1] at q1
  omega
theorem nrg_lo3 {z : Int} {hi : Int32} (h : z < -3) (hz : -2147483648 ≤ z) : ¬ inI (zI z) (-3) hi := fun q => by
  have q1 := q.1
  have e1 : (zI z).toInt = z := Int32.toInt_ofInt_of_le (by omega) (by omega)
  rw [i_le, e1, show ((-3 : Int32)).toInt = -3 from by decide] at q1
  omega
theorem n0_le {z : Int} (h : z < 0) (hz : -2147483648 ≤ z) : ¬ (0 : Int32) ≤ zI z := fun q => by
  have e1 : (zI z).toInt = z := Int32.toInt_ofInt_of_le (by omega) (by omega)
  rw [i_le, e1, show ((0 : Int32)).toInt = 0 from by decide] at q
  omega
section RF
variable {S : kS} {o w c p k u z t g r x a b j n : Int32} {i : Nat}
theorem rf_begin1 (h : ¬ isIn o 5) : opBegin S o w c = (1, 0, S) := kif_t h
theorem rf_begin2 (h : isIn o 5) (h2 : ¬ (inI w (nI 1) (nI 20) ∧ inI c (nI 0) (nI 1000))) : opBegin S o w c = (2, 0, S) := by unfold opBegin; rw [kif_f (not_not_intro h), kif_t h2]
theorem rf_begin3 (h : isIn o 5) (h2 : inI w (nI 1) (nI 20) ∧ inI c (nI 0) (nI 1000)) (h3 : S.1 1 0 = 16) : opBegin S o w c = (3, 0, S) := by unfold opBegin; rw [kif_f (not_not_intro h), kif_f (not_not_intro h2), kif_t h3]
theorem rf_line1 (h : ¬ isIn p (S.1 1 0)) : opLine S p k u z t = (1, 0, S) := kif_t h
theorem rf_line2 (h : isIn p (S.1 1 0)) (h2 : ¬ lineArgs k u z t) : opLine S p k u z t = (2, 0, S) := by unfold opLine; rw [kif_f (not_not_intro h), kif_t h2]
theorem rf_line3 (h : isIn p (S.1 1 0)) (h2 : lineArgs k u z t) (h3 : ¬ lineCan S (tn p) (tn t)) : opLine S p k u z t = (3, 0, S) := by unfold opLine; rw [kif_f (not_not_intro h), kif_f (not_not_intro h2), kif_t h3]
theorem rf_anew1 (h : ¬ isIn p (S.1 1 0)) : opAnew S p g = (1, 0, S) := kif_t h
theorem rf_anew2 (h : isIn p (S.1 1 0)) (h2 : ¬ inI g (nI 5) (nI 20)) : opAnew S p g = (2, 0, S) := by unfold opAnew; rw [kif_f (not_not_intro h), kif_t h2]
theorem rf_anew3 (h : isIn p (S.1 1 0)) (h2 : inI g (nI 5) (nI 20)) (h3 : ¬ anewCan S (tn p) (tn g)) : opAnew S p g = (3, 0, S) := by unfold opAnew; rw [kif_f (not_not_intro h), kif_f (not_not_intro h2), kif_t h3]
theorem rf_publish1 (h : ¬ isIn p (S.1 1 0)) : opPublish S p = (1, 0, S) := kif_t h
theorem rf_publish2 (h : isIn p (S.1 1 0)) (h2 : ¬ (S.1 10 (tn p) = 99 ∧ 0 < S.1 5 (tn p))) : opPublish S p = (2, 0, S) := by unfold opPublish; rw [kif_f (not_not_intro h), kif_t h2]
theorem rf_original1 (h : ¬ isIn p (S.1 1 0)) : opOriginal S p = (1, 0, S) := kif_t h
theorem rf_rows1 (h : ¬ isIn p (S.1 1 0)) : opRows S p = (1, 0, S) := kif_t h
theorem rf_stitch1 (h : ¬ isIn p (S.1 1 0)) : opStitch S p r c = (1, 0, S) := kif_t (fun q => h q.1)
theorem rf_stitch2 (hi : i < 2 ^ 31) (h : ¬ (isIn r (pRows S i) ∧ 0 ≤ c)) : opStitch S (nI i) r c = (1, 0, S) := kif_t (fun q => h (by rw [tn_nI hi] at q; exact q.2))
theorem rf_need1 (h : ¬ isIn p (S.1 1 0)) : opNeed S p g = (1, 0, S) := kif_t h
theorem rf_need2 (h : isIn p (S.1 1 0)) (h2 : ¬ inI g (nI 5) (nI 20)) : opNeed S p g = (2, 0, S) := by unfold opNeed; rw [kif_f (not_not_intro h), kif_t h2]
theorem rf_buy1 (h : ¬ (isIn p (S.1 1 0) ∧ isIn j 5)) : opBuy S p j = (1, 0, S) := kif_t h
theorem rf_buy2 (h : isIn p (S.1 1 0) ∧ isIn j 5) (h2 : ¬ buyCan S (tn p) (tn j)) : opBuy S p j = (2, 0, S) := by unfold opBuy; rw [kif_f (not_not_intro h), kif_t h2]
theorem rf_rule1 (h : ¬ isIn p (S.1 1 0)) : opRule S p = (1, 0, S) := kif_t h
theorem rf_rule2 (h : isIn p (S.1 1 0)) (h2 : ¬ ruleCan S (tn p)) : opRule S p = (2, 0, S) := by unfold opRule; rw [kif_f (not_not_intro h), kif_t h2]
theorem rf_money1 (h : ¬ isIn x 5) : opMoney S x = (1, 0, S) := kif_t h
theorem rf_lot1 (h : ¬ isIn x 5) : opLot S x g z = (1, 0, S) := kif_t h
theorem rf_lot2 (h : isIn x 5) (h2 : ¬ (inI g (nI 5) (nI 20) ∧ inI z (nI 1) (nI 100000))) : opLot S x g z = (2, 0, S) := by unfold opLot; rw [kif_f (not_not_intro h), kif_t h2]
theorem rf_lot3 (h : isIn x 5) (h2 : inI g (nI 5) (nI 20) ∧ inI z (nI 1) (nI 100000)) (h3 : S.1 15 0 = 20) : opLot S x g z = (3, 0, S) := by unfold opLot; rw [kif_f (not_not_intro h), kif_f (not_not_intro h2), kif_t h3]
theorem rf_swap1 (h : ¬ (isIn a (S.1 15 0) ∧ isIn b (S.1 15 0))) : opSwap S a b = (1, 0, S) := kif_t h
theorem rf_swap2 (h : isIn a (S.1 15 0) ∧ isIn b (S.1 15 0)) (h2 : S.1 16 (tn a) = S.1 16 (tn b)) : opSwap S a b = (2, 0, S) := by unfold opSwap; rw [kif_f (not_not_intro h), kif_t h2]
theorem rf_left1 (h : ¬ isIn a (S.1 15 0)) : opLeft S a = (1, 0, S) := kif_t h
theorem rf_project1 (h : ¬ (isIn x 5 ∧ isIn p (S.1 1 0) ∧ isIn a (S.1 15 0))) : opProject S x p a = (1, 0, S) := kif_t h
theorem rf_project2 (h : isIn x 5 ∧ isIn p (S.1 1 0) ∧ isIn a (S.1 15 0)) (h2 : ¬ projCan S (tn x) (tn p) (tn a)) : opProject S x p a = (2, 0, S) := by unfold opProject; rw [kif_f (not_not_intro h), kif_t h2]
theorem rf_take1 (h : ¬ (isIn j (S.1 19 0) ∧ isIn a (S.1 15 0))) : opTake S j a = (1, 0, S) := kif_t h
theorem rf_knit1 (h : ¬ isIn j (S.1 19 0)) : opKnit S j n = (1, 0, S) := kif_t h
theorem rf_knit2 (h : isIn j (S.1 19 0)) (h2 : ¬ inI n (nI 1) (nI 40)) : opKnit S j n = (2, 0, S) := by unfold opKnit; rw [kif_f (not_not_intro h), kif_t h2]
theorem rf_progress1 (h : ¬ isIn j (S.1 19 0)) : opProgress S j = (1, 0, S) := kif_t h
end RF
section OK
variable {S : kS} {i r c a j : Nat}
theorem ok_rows (hn : S.1 1 0 ≤ 16) (h : i < S.1 1 0) : opRows S (nI i) = (0, nI (pRows S i), S) := by unfold opRows; rw [kif_f (not_not_intro (isIn_nI h)), tn_nI (by omega)]
theorem ok_orig0 (hn : S.1 1 0 ≤ 16) (h : i < S.1 1 0) (hu : S.1 10 i = 99) : opOriginal S (nI i) = (0, zI (-1), S) := by unfold opOriginal; rw [kif_f (not_not_intro (isIn_nI h)), tn_nI (by omega), kif_f (not_not_intro hu), show (-1 : Int32) = zI (-1) from by decide]
theorem ok_orig1 (hn : S.1 1 0 ≤ 16) (h : i < S.1 1 0) (hu : S.1 10 i ≠ 99) : opOriginal S (nI i) = (0, nI (pOrig S i), S) := by unfold opOriginal; rw [kif_f (not_not_intro (isIn_nI h)), tn_nI (by omega), kif_t hu]
theorem ok_stitch (hn : S.1 1 0 ≤ 16) (h : i < S.1 1 0) (hr : r < pRows S i) (hr2 : pRows S i ≤ 40) (hc : c < 2 ^ 31) : opStitch S (nI i) (nI r) (nI c) = (0, nI (pSt S i r c), S) := by
  have h0 : (0 : Int32) ≤ nI c := by rw [i_le, i_nI hc, show ((0 : Int32)).toInt = 0 from by decide]; omega
  unfold opStitch
  rw [kif_f (not_not_intro ⟨isIn_nI h, by rw [tn_nI (by omega)]; exact isIn_nI hr, h0⟩), tn_nI (by omega), tn_nI (by omega), tn_nI hc]
theorem ok_need {g : Nat} (hn : S.1 1 0 ≤ 16) (h : i < S.1 1 0) (hg : 5 ≤ g ∧ g ≤ 20) : opNeed S (nI i) (nI g) = (0, nI (sumN (fun r => g * pYn S i r) (pRows S i)), S) := by
  unfold opNeed
  rw [kif_f (not_not_intro (isIn_nI h)), kif_f (not_not_intro (nI_rng hg.1 hg.2 (by decide))), tn_nI (by omega), tn_nI (by omega)]
theorem ok_money (h : i < 5) : opMoney S (nI i) = (0, S.2.2 i, S) := by unfold opMoney; rw [kif_f (not_not_intro (isIn_nI h)), tn_nI (by omega)]
theorem ok_left (hn : S.1 15 0 ≤ 20) (h : a < S.1 15 0) : opLeft S (nI a) = (0, nI (S.1 18 a), S) := by unfold opLeft; rw [kif_f (not_not_intro (isIn_nI h)), tn_nI (by omega)]
theorem ok_progress (hn : S.1 19 0 ≤ 12) (h : j < S.1 19 0) : opProgress S (nI j) = (0, nI (S.1 23 j), S) := by unfold opProgress; rw [kif_f (not_not_intro (isIn_nI h)), tn_nI (by omega)]
end OK
/-- how many patterns, lots, projects -/
def nOk (S : kS) (f : Nat → Nat) : Prop := f 0 = S.1 1 0 ∧ f 1 = S.1 15 0 ∧ f 2 = S.1 19 0
theorem rows_pos {S : kS} {i : Nat} (h : okP S i) (h0 : pRows S i = 0) : S.1 5 i = 0 := by
  rcases Nat.eq_zero_or_pos (S.1 5 i) with q | q
  · exact q
  · have h1 := (h.2.2.2.2 0 q).2.2.2.1
    have h2 := sumN_le (f := fun k => S.1 9 (6 * i + k)) (show 1 ≤ S.1 5 i from q)
    have h3 : sumN (fun k => S.1 9 (6 * i + k)) 1 = S.1 9 (6 * i + 0) := by rw [sumN_s]; exact Nat.zero_add _
    unfold pRows at h0
    omega
theorem anew_0 {S : kS} {i g : Nat} (h : S.1 5 i = 0) : ¬ anewCan S i g := fun z => by
  have z1 := z.1
  unfold anewRows at z1
  rw [h] at z1
  exact absurd z1 (Nat.lt_irrefl _)
section KNEG
variable {p : Program} {l : Launch} {e : Env} {R : Room} {s : State} {m : MethodId} {args : Array Value} {below : List Frame} {meth : Method} {c : Code} {H : Heap} {locs : List Loc} {cells slots : Nat} {Q : State → Prop}
variable {cc : ByteArray} {pc : Nat} {ls : Array Slot} {rest : List Value}
theorem zI_sub (a b : Int) : zI a - zI b = zI (a - b) := (Int32.ofInt_sub a b).symm
theorem kz_sub (hexec : p.tables.exec = Jvm.exec) (hb : c.code = cc) {a b : Int} (hdg : decode cc pc = .ok (.isub, 1))
    (k : W p l e R s m args below meth c H locs cells slots Q (F0 m (pc + 1) ls (.int (zI (a - b)) :: rest))) : W p l e R s m args below meth c H locs cells slots Q (F0 m pc ls (.int (zI b) :: .int (zI a) :: rest)) :=
  lv_isub hexec hb hdg (by rw [zI_sub]; exact k)
theorem kz_neg (hexec : p.tables.exec = Jvm.exec) (hb : c.code = cc) {b : Int} (hdg : decode cc pc = .ok (.ineg, 1))
    (k : W p l e R s m args below meth c H locs cells slots Q (F0 m (pc + 1) ls (.int (zI (-b)) :: rest))) : W p l e R s m args below meth c H locs cells slots Q (F0 m pc ls (.int (zI b) :: rest)) :=
  lv_ineg hexec hb hdg (by rw [show -zI b = zI (-b) from (Int32.ofInt_neg b).symm]; exact k)
end KNEG
theorem vI_0 (v : Int32) (S : kS) : vI (0, v, S) = v := if_pos rfl
theorem vIA_0 (v : Int32) (S : kS) : vIA (0, v, S) = v := if_pos rfl
theorem vIS_0 (v : Int32) (S : kS) : vIS (0, v, S) = v := if_pos rfl
theorem vIAS_0 (v : Int32) (S : kS) : vIAS (0, v, S) = v := if_pos rfl
theorem vI_1 (v : Int32) (S : kS) : vI (1, v, S) = -2000000001 := rfl
theorem vIA_1 (v : Int32) (S : kS) : vIA (1, v, S) = -2000000001 := rfl
theorem vIS_1 (v : Int32) (S : kS) : vIS (1, v, S) = -2000000001 := rfl
theorem vIAS_1 (v : Int32) (S : kS) : vIAS (1, v, S) = -2000000001 := rfl
theorem vIA_2 (v : Int32) (S : kS) : vIA (2, v, S) = -2000000002 := rfl
theorem vIS_2 (v : Int32) (S : kS) : vIS (2, v, S) = -2000000003 := rfl
theorem vIAS_2 (v : Int32) (S : kS) : vIAS (2, v, S) = -2000000002 := rfl
theorem vIAS_3 (v : Int32) (S : kS) : vIAS (3, v, S) = -2000000003 := rfl
section RFA
variable {S : kS} {i j g : Nat} {k u z t : Int32}
theorem rf_publishA (hn : S.1 1 0 ≤ 16) (h : i < S.1 1 0) (h2 : ¬ (S.1 10 i = 99 ∧ 0 < S.1 5 i)) : opPublish S (nI i) = (2, 0, S) := rf_publish2 (isIn_nI h) (by rw [tn_nI (by omega)]; exact h2)
theorem rf_anewA (hn : S.1 1 0 ≤ 16) (h : i < S.1 1 0) (hg : 5 ≤ g ∧ g ≤ 20) (h2 : ¬ anewCan S i g) : opAnew S (nI i) (nI g) = (3, 0, S) := rf_anew3 (isIn_nI h) (nI_rng hg.1 hg.2 (by decide)) (by rw [tn_nI (by omega), tn_nI (by omega)]; exact h2)
theorem rf_buyA (hn : S.1 1 0 ≤ 16) (h : i < S.1 1 0) (hj : j < 5) (h2 : ¬ buyCan S i j) : opBuy S (nI i) (nI j) = (2, 0, S) := rf_buy2 ⟨isIn_nI h, isIn_nI hj⟩ (by rw [tn_nI (by omega), tn_nI (by omega)]; exact h2)
theorem rf_ruleA (hn : S.1 1 0 ≤ 16) (h : i < S.1 1 0) (h2 : ¬ ruleCan S i) : opRule S (nI i) = (2, 0, S) := rf_rule2 (isIn_nI h) (by rw [tn_nI (by omega)]; exact h2)
theorem rf_lineA (hn : S.1 1 0 ≤ 16) (h : i < S.1 1 0) (h1 : lineArgs k u z t) (h2 : S.1 10 i ≠ 99) : opLine S (nI i) k u z t = (3, 0, S) := rf_line3 (isIn_nI h) h1 (by rw [tn_nI (by omega)]; exact fun q => h2 q.1)
theorem rf_swapA (hn : S.1 15 0 ≤ 20) (h : i < S.1 15 0) : opSwap S (nI i) (nI i) = (2, 0, S) := rf_swap2 ⟨isIn_nI h, isIn_nI h⟩ rfl
theorem rf_projectA {x p a : Nat} (hn : S.1 1 0 ≤ 16) (hl : S.1 15 0 ≤ 20) (hx : x < 5) (hp : p < S.1 1 0) (ha : a < S.1 15 0) (h2 : ¬ projCan S x p a) : opProject S (nI x) (nI p) (nI a) = (2, 0, S) := rf_project2 ⟨isIn_nI hx, isIn_nI hp, isIn_nI ha⟩ (by rw [tn_nI (by omega), tn_nI (by omega), tn_nI (by omega)]; exact h2)
end RFA
theorem nI_ge0 {n : Nat} (h : n < 2 ^ 31) : (0 : Int32) ≤ nI n := by
  rw [i_le, i_nI h, show ((0 : Int32)).toInt = 0 from by decide]; omega
