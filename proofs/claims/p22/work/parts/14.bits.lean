theorem kb_sl : ∀ j, j < 32 → ((nI j &&& 31).toBitVec.smod 32).toNat = j := by decide
theorem nI_or (a b : Nat) : nI a ||| nI b = nI (a ||| b) := by
  apply Int32.toBitVec.inj
  show (nI a).toBitVec ||| (nI b).toBitVec = (nI (a ||| b)).toBitVec
  apply BitVec.eq_of_toNat_eq
  simp [nI, BitVec.toNat_or, Nat.or_mod_two_pow]
section KBIT
variable {p : Program} {l : Launch} {e : Env} {R : Room} {s : State} {m : MethodId} {args : Array Value} {below : List Frame} {meth : Method} {c : Code} {H : Heap} {locs : List Loc} {cells slots : Nat} {Q : State → Prop}
variable {cc : ByteArray} {pc : Nat} {ls : Array Slot} {rest : List Value}
theorem kn_ishr (hexec : p.tables.exec = Jvm.exec) (hb : c.code = cc) {x y : Nat} (hx : x < 2 ^ 31) (hy : y < 32) (hdg : decode cc pc = .ok (.ishr, 1))
    (k : W p l e R s m args below meth c H locs cells slots Q (F0 m (pc + 1) ls (.int (nI (x / 2 ^ y)) :: rest))) : W p l e R s m args below meth c H locs cells slots Q (F0 m pc ls (.int (nI y) :: .int (nI x) :: rest)) :=
  lv_ishr hexec hb hdg (by rw [pk_shrN hx _ y (kb_sl y hy)]; exact k)
theorem kn_iand1 (hexec : p.tables.exec = Jvm.exec) (hb : c.code = cc) {x : Nat} (hx : x < 2 ^ 32) (hdg : decode cc pc = .ok (.iand, 1))
    (k : W p l e R s m args below meth c H locs cells slots Q (F0 m (pc + 1) ls (.int (nI (x % 2)) :: rest))) : W p l e R s m args below meth c H locs cells slots Q (F0 m pc ls (.int (nI 1) :: .int (nI x) :: rest)) :=
  lv_iand hexec hb hdg (by rw [pk_andN hx (m := nI 1) 1 (by decide)]; exact k)
theorem kn_ishl1 (hexec : p.tables.exec = Jvm.exec) (hb : c.code = cc) {y : Nat} (hy : y < 32) (hdg : decode cc pc = .ok (.ishl, 1))
    (k : W p l e R s m args below meth c H locs cells slots Q (F0 m (pc + 1) ls (.int (nI (2 ^ y)) :: rest))) : W p l e R s m args below meth c H locs cells slots Q (F0 m pc ls (.int (nI y) :: .int (nI 1) :: rest)) :=
  lv_ishl hexec hb hdg (by
    rw [pk_shlN (n := 1) _ y (kb_sl y hy) (by rw [Nat.one_mul]; exact Nat.pow_lt_pow_right (by decide) hy), Nat.one_mul]; exact k)
theorem kn_ior (hexec : p.tables.exec = Jvm.exec) (hb : c.code = cc) {x y : Nat} (hdg : decode cc pc = .ok (.ior, 1))
    (k : W p l e R s m args below meth c H locs cells slots Q (F0 m (pc + 1) ls (.int (nI (x ||| y)) :: rest))) : W p l e R s m args below meth c H locs cells slots Q (F0 m pc ls (.int (nI y) :: .int (nI x) :: rest)) :=
  lv_ior hexec hb hdg (by rw [nI_or]; exact k)
end KBIT
theorem bought_iff {S : kS} {p j : Nat} : bought S p j ↔ S.1 13 p / 2 ^ j % 2 = 1 := by
  unfold bought; rw [Nat.testBit_eq_decide_div_mod_eq]; simp
theorem stV_le (k u w c : Nat) : stV k u w c ≤ 2 := by unfold stV; split <;> (try split) <;> decide
theorem pSt_le (S : kS) (p r c : Nat) : pSt S p r c ≤ 2 := stV_le _ _ _ _
theorem putS_5 (S : kS) (p k u : Nat) (z : Int) (t : Nat) : (putS S p k u z t).1 5 p = S.1 5 p + 1 := by simp only [putS, st_1, and_self, if_true]
