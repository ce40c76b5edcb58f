section KZ
variable {p : Program} {l : Launch} {e : Env} {R : Room} {s : State} {m : MethodId} {args : Array Value} {below : List Frame} {meth : Method} {c : Code} {H : Heap} {locs : List Loc} {cells slots : Nat} {Q : State → Prop}
variable {cc : ByteArray} {pc : Nat} {ls : Array Slot} {rest : List Value}
theorem kz_ge (hexec : p.tables.exec = Jvm.exec) (hb : c.code = cc) {z : Int} {n : Nat} {off : Int} {tgt : Nat} (hz : -1000 ≤ z ∧ z ≤ 1000) (hn : n ≤ 1000) (hdg : decode cc pc = .ok (.if_icmp .ge off, 3)) (ht : (pc : Int) + off = (tgt : Int))
    (kt : (n : Int) ≤ z → W p l e R s m args below meth c H locs cells slots Q (F0 m tgt ls rest)) (kf : z < n → W p l e R s m args below meth c H locs cells slots Q (F0 m (pc + 3) ls rest)) : W p l e R s m args below meth c H locs cells slots Q (F0 m pc ls (.int (nI n) :: .int (zI z) :: rest)) :=
  lv_icmp_ge hexec hb hdg ht (fun h => kt ((kz_cmp hz.1 hz.2 hn).2.2.2.mp h)) (fun h => kf (by have := mt (kz_cmp hz.1 hz.2 hn).2.2.2.mpr h; omega))
theorem kz_le (hexec : p.tables.exec = Jvm.exec) (hb : c.code = cc) {z : Int} {n : Nat} {off : Int} {tgt : Nat} (hz : -1000 ≤ z ∧ z ≤ 1000) (hn : n ≤ 1000) (hdg : decode cc pc = .ok (.if_icmp .le off, 3)) (ht : (pc : Int) + off = (tgt : Int))
    (kt : z ≤ n → W p l e R s m args below meth c H locs cells slots Q (F0 m tgt ls rest)) (kf : (n : Int) < z → W p l e R s m args below meth c H locs cells slots Q (F0 m (pc + 3) ls rest)) : W p l e R s m args below meth c H locs cells slots Q (F0 m pc ls (.int (nI n) :: .int (zI z) :: rest)) :=
  lv_icmp_le hexec hb hdg ht (fun h => kt ((kz_cmp hz.1 hz.2 hn).2.1.mp h)) (fun h => kf (by have := mt (kz_cmp hz.1 hz.2 hn).2.1.mpr h; omega))
end KZ
theorem clW_lo {z : Int} (h : z < 1) : clampW z = 1 := if_pos h
theorem clW_hi {z : Int} (h1 : 1 ≤ z) (h : 40 < z) : clampW z = 40 := by unfold clampW; rw [if_neg (by omega), if_pos h]
theorem clW_mid {z : Int} (h1 : 1 ≤ z) (h : z ≤ 40) : nI (clampW z) = zI z := by
  unfold clampW; rw [if_neg (by omega), if_neg (by omega), zI_nI]; congr 1; omega
theorem pG_s1 {S : kS} {p i : Nat} (h : (pG S p i).2.1 = 1) : pG S p (i + 1) = ((pG S p i).1 + 1, S.1 9 ((pG S p i).1 + 1), clampW (((pG S p i).2.2 : Int) + S.2.1 (pG S p i).1)) := if_pos h
theorem pG_s0 {S : kS} {p i : Nat} (h : (pG S p i).2.1 ≠ 1) : pG S p (i + 1) = ((pG S p i).1, (pG S p i).2.1 - 1, clampW (((pG S p i).2.2 : Int) + S.2.1 (pG S p i).1)) := if_neg h
theorem pL_s1 {S : kS} {p i : Nat} (h : (pG S p i).2.1 = 1) : pL S p (i + 1) = pL S p i + 1 := by
  unfold pL; rw [pG_s1 h]
theorem pL_s0 {S : kS} {p i : Nat} (h : (pG S p i).2.1 ≠ 1) : pL S p (i + 1) = pL S p i := by
  unfold pL; rw [pG_s0 h]
theorem pl_s1 {S : kS} {p i : Nat} (h : (pG S p i).2.1 = 1) : (pG S p (i + 1)).2.1 = S.1 9 (pL S p i + 1) := by
  unfold pL; rw [pG_s1 h]
theorem pl_s0 {S : kS} {p i : Nat} (h : (pG S p i).2.1 ≠ 1) : (pG S p (i + 1)).2.1 = (pG S p i).2.1 - 1 := by
  rw [pG_s0 h]
theorem pW_s {S : kS} {p i : Nat} : pW S p (i + 1) = clampW ((pW S p i : Int) + S.2.1 (pL S p i)) := by
  unfold pW pL
  by_cases h : (pG S p i).2.1 = 1
  · rw [pG_s1 h]
  · rw [pG_s0 h]
/-- as far as row i, place j, two charts are alike -/
def pAl (S : kS) (a b i j : Nat) : Prop := pRows S a = pRows S b ∧ (∀ r, r < i → ∀ c, c < 40 → pSt S a r c = pSt S b r c) ∧ ∀ c, c < j → pSt S a i c = pSt S b i c
theorem pAl_0 {S : kS} {a b : Nat} : pAl S a b 0 0 ↔ pRows S a = pRows S b := ⟨fun h => h.1, fun h => ⟨h, fun _ h => absurd h (Nat.not_lt_zero _), fun _ h => absurd h (Nat.not_lt_zero _)⟩⟩
theorem pAl_row {S : kS} {a b i : Nat} : pAl S a b (i + 1) 0 ↔ pAl S a b i 40 :=
  ⟨fun h => ⟨h.1, fun r hr => h.2.1 r (by omega), fun c hc => h.2.1 i (by omega) c hc⟩, fun h => ⟨h.1, fun r hr c hc => by
    rcases Nat.lt_or_ge r i with q | q
    · exact h.2.1 r q c hc
    · have : r = i := by omega
      subst this; exact h.2.2 c hc, fun _ h => absurd h (Nat.not_lt_zero _)⟩⟩
theorem pAl_le {S : kS} {a b i j k : Nat} (hk : j ≤ k) (h : pAl S a b i k) : pAl S a b i j := ⟨h.1, h.2.1, fun c hc => h.2.2 c (by omega)⟩
theorem pAl_s {S : kS} {a b i j : Nat} (h : pAl S a b i j) : pAl S a b i (j + 1) ↔ pSt S a i j = pSt S b i j :=
  ⟨fun q => q.2.2 j (by omega), fun q => ⟨h.1, h.2.1, fun c hc => by
    rcases Nat.lt_or_ge c j with t | t
    · exact h.2.2 c t
    · have : c = j := by omega
      subst this; exact q⟩⟩
theorem pAl_end {S : kS} {a b : Nat} : pAl S a b (pRows S a) 0 ↔ pAlike S a b := ⟨fun h => ⟨h.1, h.2.1⟩, fun h => ⟨h.1, h.2, fun _ h => absurd h (Nat.not_lt_zero _)⟩⟩
theorem pAl_of {S : kS} {a b i : Nat} (hi : i ≤ pRows S a) (h : pAlike S a b) : pAl S a b i 0 := ⟨h.1, fun r hr => h.2 r (by omega), fun _ h => absurd h (Nat.not_lt_zero _)⟩
theorem pOrigN_lt {S : kS} {p n : Nat} (hp : p < n) : ∀ k, k ≤ n → pOrigN S p k < n := by
  intro k
  induction k with
  | zero => intro _; exact hp
  | succ k ih =>
    intro hk
    unfold pOrigN
    by_cases c : S.1 10 k < S.1 10 (pOrigN S p k) ∧ pAlike S k p
    · rw [kif_t c]; omega
    · rw [kif_f c]; exact ih (by omega)
theorem pYn_sum (S : kS) (p r : Nat) : pYn S p r = sumN (fun c => if pSt S p r c = 1 then 2 else 3) (pW S p r) := rfl
theorem kV_eq {G : kG} {ws : va_W} {t : State} {H : Heap} (h : t.heap = H) (hV : kV G ws H) : kV G ws t.heap := by rw [h]; exact hV
