/-! WHAT EACH CALL IS, on the state: which exception (0: none), the answer, the state then -/
def isIn (x : Int32) (n : Nat) : Prop := ∃ j : Nat, j < n ∧ x = nI j
abbrev inI (x lo hi : Int32) : Prop := lo ≤ x ∧ x ≤ hi
def tn (x : Int32) : Nat := x.toNatClampNeg
def tz (x : Int32) : Int := x.toInt
theorem tn_nI {j : Nat} (h : j < 2 ^ 31) : tn (nI j) = j := nI_clamp h
abbrev kR : Type := Nat × Int32 × kS
def addS (S : kS) (o w c : Nat) : kS := st (st (st (st (st S 2 (S.1 1 0) o) 3 (S.1 1 0) w) 4 (S.1 1 0) c) 10 (S.1 1 0) 99) 1 0 (S.1 1 0 + 1)
def putS (S : kS) (p k u : Nat) (z : Int) (t : Nat) : kS := st (st (stz (st (st S 6 (6 * p + S.1 5 p) k) 7 (6 * p + S.1 5 p) u) (6 * p + S.1 5 p) z) 9 (6 * p + S.1 5 p) t) 5 p (S.1 5 p + 1)
noncomputable def opBegin (S : kS) (o w c : Int32) : kR :=
  kif (¬ isIn o 5) (1, 0, S) (kif (¬ (inI w (nI 1) (nI 20) ∧ inI c (nI 0) (nI 1000))) (2, 0, S) (kif (S.1 1 0 = 16) (3, 0, S) (0, nI (S.1 1 0), addS S (tn o) (tn w) (tn c))))
def lineArgs (k u z t : Int32) : Prop := inI k (nI 0) (nI 9) ∧ inI u (nI 0) (nI 9) ∧ 1 ≤ tn k + tn u ∧ inI z (-3) (nI 3) ∧ inI t (nI 1) (nI 20)
def lineCan (S : kS) (p t : Nat) : Prop := S.1 10 p = 99 ∧ S.1 5 p < 6 ∧ pRows S p + t ≤ 40
noncomputable def opLine (S : kS) (p k u z t : Int32) : kR :=
  kif (¬ isIn p (S.1 1 0)) (1, 0, S) (kif (¬ lineArgs k u z t) (2, 0, S) (kif (¬ lineCan S (tn p) (tn t)) (3, 0, S)
    (0, nI (pRows (putS S (tn p) (tn k) (tn u) (tz z) (tn t)) (tn p)), putS S (tn p) (tn k) (tn u) (tz z) (tn t))))
def oftN (t g : Nat) : Nat := if t * g / 10 < 1 then 1 else t * g / 10
def clampF (w : Nat) : Nat := if w < 1 then 1 else if 20 < w then 20 else w
def anewRows (S : kS) (p g : Nat) : Nat := sumN (fun k => oftN (S.1 9 (6 * p + k)) g) (S.1 5 p)
def anewN (S : kS) (p g : Nat) : Nat → kS
  | 0 => addS S (S.1 2 p) (clampF (S.1 3 p * g / 10)) (S.1 4 p)
  | k + 1 => putS (anewN S p g k) (S.1 1 0) (S.1 6 (6 * p + k)) (S.1 7 (6 * p + k)) (S.2.1 (6 * p + k)) (oftN (S.1 9 (6 * p + k)) g)
def anewCan (S : kS) (p g : Nat) : Prop := 0 < anewRows S p g ∧ anewRows S p g ≤ 40 ∧ S.1 1 0 < 16
noncomputable def opAnew (S : kS) (p g : Int32) : kR :=
  kif (¬ isIn p (S.1 1 0)) (1, 0, S) (kif (¬ inI g (nI 5) (nI 20)) (2, 0, S) (kif (¬ anewCan S (tn p) (tn g)) (3, 0, S) (0, nI (S.1 1 0), anewN S (tn p) (tn g) (S.1 5 (tn p)))))
def pubS (S : kS) (p : Nat) : kS := st (st S 10 p (S.1 11 0)) 11 0 (S.1 11 0 + 1)
noncomputable def opPublish (S : kS) (p : Int32) : kR :=
  kif (¬ isIn p (S.1 1 0)) (1, 0, S) (kif (¬ (S.1 10 (tn p) = 99 ∧ 0 < S.1 5 (tn p))) (2, 0, S) (0, nI (pOrig (pubS S (tn p)) (tn p)), pubS S (tn p)))
noncomputable def opOriginal (S : kS) (p : Int32) : kR := kif (¬ isIn p (S.1 1 0)) (1, 0, S) (0, kif (S.1 10 (tn p) ≠ 99) (nI (pOrig S (tn p))) (-1), S)
noncomputable def opRows (S : kS) (p : Int32) : kR := kif (¬ isIn p (S.1 1 0)) (1, 0, S) (0, nI (pRows S (tn p)), S)
noncomputable def opStitch (S : kS) (p r c : Int32) : kR := kif (¬ (isIn p (S.1 1 0) ∧ isIn r (pRows S (tn p)) ∧ 0 ≤ c)) (1, 0, S) (0, nI (pSt S (tn p) (tn r) (tn c)), S)
noncomputable def opNeed (S : kS) (p g : Int32) : kR :=
  kif (¬ isIn p (S.1 1 0)) (1, 0, S) (kif (¬ inI g (nI 5) (nI 20)) (2, 0, S) (0, nI (sumN (fun r => tn g * pYn S (tn p) r) (pRows S (tn p))), S))
def bought (S : kS) (p j : Nat) : Prop := (S.1 13 p).testBit j = true
def buyS (S : kS) (p j : Nat) : kS :=
  stm (stm (st S 13 p (S.1 13 p ||| 2 ^ j)) j (S.2.2 j - nI (S.1 4 p))) (S.1 2 p) ((stm (st S 13 p (S.1 13 p ||| 2 ^ j)) j (S.2.2 j - nI (S.1 4 p))).2.2 (S.1 2 p) + nI (S.1 4 p))
def buyCan (S : kS) (p j : Nat) : Prop := S.1 10 p ≠ 99 ∧ S.1 12 p = 0 ∧ S.1 2 p ≠ j ∧ ¬ bought S p j
noncomputable def opBuy (S : kS) (p j : Int32) : kR :=
  kif (¬ (isIn p (S.1 1 0) ∧ isIn j 5)) (1, 0, S) (kif (¬ buyCan S (tn p) (tn j)) (2, 0, S) (0, (buyS S (tn p) (tn j)).2.2 (S.1 2 (tn p)), buyS S (tn p) (tn j)))
noncomputable def took (S : kS) (p : Nat) : Nat := sumN (fun j => kif (bought S p j) (S.1 4 p) 0) 5
noncomputable def ruleS (S : kS) (p : Nat) : kS :=
  stm (stm (st S 12 p 1) (S.1 2 p) (S.2.2 (S.1 2 p) - nI (took S p))) (S.1 2 (pOrig S p)) ((stm (st S 12 p 1) (S.1 2 p) (S.2.2 (S.1 2 p) - nI (took S p))).2.2 (S.1 2 (pOrig S p)) + nI (took S p))
def ruleCan (S : kS) (p : Nat) : Prop := S.1 10 p ≠ 99 ∧ S.1 12 p = 0 ∧ S.1 2 (pOrig S p) ≠ S.1 2 p
noncomputable def opRule (S : kS) (p : Int32) : kR :=
  kif (¬ isIn p (S.1 1 0)) (1, 0, S) (kif (¬ ruleCan S (tn p)) (2, 0, S) (0, nI (took S (tn p)), ruleS S (tn p)))
noncomputable def opMoney (S : kS) (x : Int32) : kR := kif (¬ isIn x 5) (1, 0, S) (0, S.2.2 (tn x), S)
def lotS (S : kS) (x g y : Nat) : kS := st (st (st (st S 16 (S.1 15 0) x) 17 (S.1 15 0) g) 18 (S.1 15 0) y) 15 0 (S.1 15 0 + 1)
noncomputable def opLot (S : kS) (x g y : Int32) : kR :=
  kif (¬ isIn x 5) (1, 0, S) (kif (¬ (inI g (nI 5) (nI 20) ∧ inI y (nI 1) (nI 100000))) (2, 0, S) (kif (S.1 15 0 = 20) (3, 0, S) (0, nI (S.1 15 0), lotS S (tn x) (tn g) (tn y))))
def swapS (S : kS) (a b : Nat) : kS := st (st S 16 a (S.1 16 b)) 16 b (S.1 16 a)
noncomputable def opSwap (S : kS) (a b : Int32) : kR :=
  kif (¬ (isIn a (S.1 15 0) ∧ isIn b (S.1 15 0))) (1, 0, S) (kif (S.1 16 (tn a) = S.1 16 (tn b)) (2, 0, S) (0, nI (S.1 16 (tn b)), swapS S (tn a) (tn b)))
noncomputable def opLeft (S : kS) (a : Int32) : kR := kif (¬ isIn a (S.1 15 0)) (1, 0, S) (0, nI (S.1 18 (tn a)), S)
def projS (S : kS) (x p a : Nat) : kS := st (st (st (st S 20 (S.1 19 0) x) 21 (S.1 19 0) p) 22 (S.1 19 0) a) 19 0 (S.1 19 0 + 1)
def projCan (S : kS) (x p a : Nat) : Prop := S.1 10 p ≠ 99 ∧ (S.1 2 p = x ∨ bought S p x) ∧ S.1 16 a = x ∧ S.1 19 0 < 12
noncomputable def opProject (S : kS) (x p a : Int32) : kR :=
  kif (¬ (isIn x 5 ∧ isIn p (S.1 1 0) ∧ isIn a (S.1 15 0))) (1, 0, S) (kif (¬ projCan S (tn x) (tn p) (tn a)) (2, 0, S) (0, nI (S.1 19 0), projS S (tn x) (tn p) (tn a)))
noncomputable def opTake (S : kS) (j a : Int32) : kR :=
  kif (¬ (isIn j (S.1 19 0) ∧ isIn a (S.1 15 0))) (1, 0, S) (kif (¬ S.1 16 (tn a) = S.1 20 (tn j)) (2, 0, S) (0, nI (S.1 22 (tn j)), st S 22 (tn j) (tn a)))
def rowNd (S : kS) (j : Nat) : Nat := S.1 17 (S.1 22 j) * pYn S (S.1 21 j) (S.1 23 j)
def knitCan (S : kS) (j : Nat) : Prop := S.1 16 (S.1 22 j) = S.1 20 j ∧ S.1 23 j ≠ pRows S (S.1 21 j) ∧ rowNd S j ≤ S.1 18 (S.1 22 j)
def knit1 (S : kS) (j : Nat) : kS := st (st S 18 (S.1 22 j) (S.1 18 (S.1 22 j) - rowNd S j)) 23 j (S.1 23 j + 1)
noncomputable def knitN : kS → Nat → Nat → Nat × kS
  | S, _, 0 => (0, S)
  | S, j, n + 1 => kif (knitCan S j) ((knitN (knit1 S j) j n).1 + 1, (knitN (knit1 S j) j n).2) (0, S)
noncomputable def opKnit (S : kS) (j n : Int32) : kR :=
  kif (¬ isIn j (S.1 19 0)) (1, 0, S) (kif (¬ inI n (nI 1) (nI 40)) (2, 0, S) (0, nI (knitN S (tn j) (tn n)).1, (knitN S (tn j) (tn n)).2))
noncomputable def opProgress (S : kS) (j : Int32) : kR := kif (¬ isIn j (S.1 19 0)) (1, 0, S) (0, nI (S.1 23 (tn j)), S)
/-- the bounds that the state keeps -/
def kInv (S : kS) : Prop :=
  (S.1 1 0 ≤ 16 ∧ S.1 15 0 ≤ 20 ∧ S.1 19 0 ≤ 12 ∧ S.1 11 0 ≤ 16) ∧
  (∀ p, p < S.1 1 0 → okP S p ∧ S.1 2 p < 5 ∧ S.1 4 p ≤ 1000 ∧ (S.1 10 p = 99 ∨ S.1 10 p < S.1 11 0) ∧ (S.1 10 p ≠ 99 → 0 < S.1 5 p) ∧ S.1 13 p < 32 ∧ S.1 12 p ≤ 1) ∧
  (∀ p, S.1 1 0 ≤ p → p < 16 → S.1 5 p = 0 ∧ S.1 13 p = 0 ∧ S.1 12 p = 0) ∧
  (∀ a, a < S.1 15 0 → S.1 16 a < 5 ∧ 5 ≤ S.1 17 a ∧ S.1 17 a ≤ 20 ∧ S.1 18 a ≤ 100000) ∧
  (∀ j, j < S.1 19 0 → S.1 20 j < 5 ∧ S.1 21 j < S.1 1 0 ∧ S.1 10 (S.1 21 j) ≠ 99 ∧ S.1 22 j < S.1 15 0 ∧ S.1 23 j ≤ pRows S (S.1 21 j)) ∧
  (∀ j, S.1 19 0 ≤ j → j < 12 → S.1 23 j = 0) ∧
  (∀ p q, p < S.1 1 0 → q < S.1 1 0 → S.1 10 p = S.1 10 q → S.1 10 p ≠ 99 → p = q) ∧
  (∀ o, o < S.1 11 0 → ∃ p, p < S.1 1 0 ∧ S.1 10 p = o)
/-! order of ints -/
theorem i_lt (a b : Int32) : a < b ↔ a.toInt < b.toInt := Int32.lt_iff_toInt_lt
theorem i_le (a b : Int32) : a ≤ b ↔ a.toInt ≤ b.toInt := Int32.le_iff_toInt_le
theorem i_nlt {a b : Int32} (h : ¬ a < b) : b ≤ a := by rw [i_lt] at h; rw [i_le]; omega
theorem i_nle {a b : Int32} (h : ¬ a ≤ b) : b < a := by rw [i_le] at h; rw [i_lt]; omega
theorem i_lt_nle {a b : Int32} (h : a < b) : ¬ b ≤ a := by rw [i_lt] at h; rw [i_le]; omega
theorem i_nI {n : Nat} (h : n < 2 ^ 31) : (nI n).toInt = (n : Int) := nI_toInt h
theorem rng_nI {x : Int32} {a b : Nat} (h : inI x (nI a) (nI b)) (hb : b < 2 ^ 31) (ha : a < 2 ^ 31) : ∃ j : Nat, a ≤ j ∧ j ≤ b ∧ x = nI j := by
  obtain ⟨h1, h2⟩ := h
  rw [i_le, i_nI ha] at h1
  rw [i_le, i_nI hb] at h2
  refine ⟨x.toInt.toNat, by omega, by omega, ?_⟩
  apply Int32.toInt.inj
  rw [i_nI (by omega)]
  omega
theorem nI_rng {j a b : Nat} (h1 : a ≤ j) (h2 : j ≤ b) (hb : b < 2 ^ 31) : inI (nI j) (nI a) (nI b) := ⟨(nI_leI (by omega) (by omega)).mpr h1, (nI_leI (by omega) hb).mpr h2⟩
theorem isIn_iff {x : Int32} {n : Nat} (hn : n < 2 ^ 31) : (nI 0 ≤ x ∧ x ≤ nI n - nI 1) ↔ isIn x n := by
  have e0 : (nI 0).toInt = 0 := i_nI (by decide)
  have en : (nI n - nI 1).toInt = (n : Int) - 1 := by
    rw [show nI n - nI 1 = zI ((n : Int) - 1) from by
      rw [zI_nI, zI_nI]; exact (Int32.ofInt_sub _ _).symm]
    exact Int32.toInt_ofInt_of_le (by omega) (by omega)
  constructor
  · rintro ⟨h1, h2⟩
    rw [i_le, e0] at h1
    rw [i_le, en] at h2
    refine ⟨x.toInt.toNat, by omega, ?_⟩
    apply Int32.toInt.inj
    rw [i_nI (by omega)]
    omega
  · rintro ⟨j, hj, rfl⟩
    rw [i_le, i_le, e0, en, i_nI (by omega)]
    omega
theorem isIn_5 {x : Int32} : (nI 0 ≤ x ∧ x ≤ nI 4) ↔ isIn x 5 := by
  have h := isIn_iff (x := x) (n := 5) (by decide)
  rw [show nI 5 - nI 1 = nI 4 from by decide] at h
  exact h
theorem isIn_nI {j n : Nat} (h : j < n) : isIn (nI j) n := ⟨j, h, rfl⟩
theorem isIn_nat {j n : Nat} (hj : j < 2 ^ 31) (hn : n < 2 ^ 31) (h : isIn (nI j) n) : j < n := by
  obtain ⟨k, hk, e⟩ := h
  have := (nI_eq hj (by omega)).mp e
  omega
theorem z_rng {x : Int32} (h : inI x (-3) (nI 3)) : ∃ z : Int, -3 ≤ z ∧ z ≤ 3 ∧ x = zI z := by
  obtain ⟨h1, h2⟩ := h
  rw [i_le, show ((-3 : Int32)).toInt = -3 from by decide] at h1
  rw [i_le, i_nI (by decide)] at h2
  refine ⟨x.toInt, h1, by omega, ?_⟩
  exact (Int32.ofInt_toInt x).symm
theorem tz_zI {z : Int} (h1 : -3 ≤ z) (h2 : z ≤ 3) : tz (zI z) = z := Int32.toInt_ofInt_of_le (by omega) (by omega)
theorem kz_cmp {z : Int} {n : Nat} (h1 : -1000 ≤ z) (h2 : z ≤ 1000) (hn : n ≤ 1000) : ((zI z < nI n) ↔ z < n) ∧ ((zI z ≤ nI n) ↔ z ≤ n) ∧ ((nI n < zI z) ↔ (n : Int) < z) ∧ ((nI n ≤ zI z) ↔ (n : Int) ≤ z) := by
  have e1 : (zI z).toInt = z := Int32.toInt_ofInt_of_le (by omega) (by omega)
  have e2 : (nI n).toInt = (n : Int) := i_nI (by omega)
  refine ⟨?_, ?_, ?_, ?_⟩ <;> simp only [i_lt, i_le, e1, e2]
