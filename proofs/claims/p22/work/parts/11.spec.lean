/-! THE STATE, as the reference holds it: kS. Its first part holds, by the number of the reference's field, rows of counts (place 0 of a field that is no row); then the shapings, then the money -/
abbrev kS : Type := (Nat → Nat → Nat) × (Nat → Int) × (Nat → Int32)
def st (S : kS) (k i v : Nat) : kS := (va_up S.1 k (va_up (S.1 k) i v), S.2)
def stz (S : kS) (i : Nat) (v : Int) : kS := (S.1, va_up S.2.1 i v, S.2.2)
def stm (S : kS) (i : Nat) (v : Int32) : kS := (S.1, S.2.1, va_up S.2.2 i v)
theorem st_k (S : kS) (k i v : Nat) : (st S k i v).1 k = va_up (S.1 k) i v := va_up_self _ _ _
theorem st_ne (S : kS) {k j : Nat} (i v : Nat) (h : j ≠ k) : (st S k i v).1 j = S.1 j := va_up_ne _ _ h
theorem st_1 (S : kS) (k i v j a : Nat) : (st S k i v).1 j a = if j = k ∧ a = i then v else S.1 j a := by
  unfold st va_up
  by_cases h : j = k
  · subst h
    by_cases h2 : a = i <;> simp [h2]
  · simp [h]
theorem st_2 (S : kS) (k i v : Nat) : (st S k i v).2 = S.2 := rfl
theorem stz_1 (S : kS) (i : Nat) (v : Int) : (stz S i v).1 = S.1 := rfl
theorem stz_2 (S : kS) (i : Nat) (v : Int) (a : Nat) : (stz S i v).2.1 a = if a = i then v else S.2.1 a := rfl
theorem stm_1 (S : kS) (i : Nat) (v : Int32) : (stm S i v).1 = S.1 := rfl
theorem stm_z (S : kS) (i : Nat) (v : Int32) : (stm S i v).2.1 = S.2.1 := rfl
theorem stm_2 (S : kS) (i : Nat) (v : Int32) (a : Nat) : (stm S i v).2.2 a = if a = i then v else S.2.2 a := rfl
theorem stz_m (S : kS) (i : Nat) (v : Int) : (stz S i v).2.2 = S.2.2 := rfl
/-- the reference's object and its rows -/
def kM (G : kG) (h : Nat) (ad : Nat → Nat) (rf rl rw : Nat) (S : kS) : va_W := [
  (h, .inr (7, [.int (nI rf), .int (nI (S.1 1 0)), .ref (ad 2), .ref (ad 3), .ref (ad 4), .ref (ad 5), .ref (ad 6), .ref (ad 7), .ref (ad 8), .ref (ad 9), .ref (ad 10), .int (nI (S.1 11 0)), .ref (ad 12), .ref (ad 13), .ref (ad 14), .int (nI (S.1 15 0)), .ref (ad 16), .ref (ad 17), .ref (ad 18), .int (nI (S.1 19 0)), .ref (ad 20), .ref (ad 21), .ref (ad 22), .ref (ad 23), .int (nI rl), .int (nI rw)])),
  (ad 2, aN (kcI G) 16 (S.1 2)), (ad 3, aN (kcI G) 16 (S.1 3)), (ad 4, aN (kcI G) 16 (S.1 4)), (ad 5, aN (kcI G) 16 (S.1 5)),
  (ad 6, aN (kcI G) 96 (S.1 6)), (ad 7, aN (kcI G) 96 (S.1 7)), (ad 8, aZ (kcI G) 96 S.2.1), (ad 9, aN (kcI G) 96 (S.1 9)), (ad 10, aN (kcI G) 16 (S.1 10)),
  (ad 12, aN (kcZ G) 16 (S.1 12)), (ad 13, aN (kcI G) 16 (S.1 13)), (ad 14, aR (kcI G) 5 S.2.2),
  (ad 16, aN (kcI G) 20 (S.1 16)), (ad 17, aN (kcI G) 20 (S.1 17)), (ad 18, aN (kcI G) 20 (S.1 18)),
  (ad 20, aN (kcI G) 12 (S.1 20)), (ad 21, aN (kcI G) 12 (S.1 21)), (ad 22, aN (kcI G) 12 (S.1 22)), (ad 23, aN (kcI G) 12 (S.1 23))]
/-! what the chart of a pattern is -/
def sumN (f : Nat → Nat) : Nat → Nat
  | 0 => 0
  | n + 1 => sumN f n + f n
theorem sumN_0 (f : Nat → Nat) : sumN f 0 = 0 := rfl
theorem sumN_s (f : Nat → Nat) (n : Nat) : sumN f (n + 1) = sumN f n + f n := rfl
theorem sumN_cong {f g : Nat → Nat} : ∀ {n : Nat}, (∀ k, k < n → f k = g k) → sumN f n = sumN g n
  | 0, _ => rfl
  | n + 1, h => by rw [sumN_s, sumN_s, sumN_cong (fun k hk => h k (by omega)), h n (by omega)]
theorem sumN_le {f : Nat → Nat} : ∀ {a b : Nat}, a ≤ b → sumN f a ≤ sumN f b := by
  intro a b h
  induction b with
  | zero => have : a = 0 := by omega
            subst this; exact Nat.le_refl _
  | succ b ih =>
    rcases Nat.lt_or_ge a (b + 1) with q | q
    · have := ih (by omega)
      rw [sumN_s]; omega
    · have : a = b + 1 := by omega
      subst this; exact Nat.le_refl _
theorem sumN_bd {f : Nat → Nat} {c : Nat} : ∀ {n : Nat}, (∀ k, k < n → f k ≤ c) → sumN f n ≤ n * c
  | 0, _ => by simp [sumN]
  | n + 1, h => by
    have h1 := sumN_bd (n := n) (fun k hk => h k (by omega))
    have h2 := h n (by omega)
    rw [sumN_s, Nat.succ_mul]; omega
def clampW (z : Int) : Nat := if z < 1 then 1 else if 40 < z then 40 else z.toNat
theorem clampW_in (z : Int) : 1 ≤ clampW z ∧ clampW z ≤ 40 := by unfold clampW; split <;> (try split) <;> omega
/-- row by row: the line (from b on), how often it is still worked, the width -/
def goS (t : Nat → Nat) (sh : Nat → Int) (b w : Nat) : Nat → Nat × Nat × Nat
  | 0 => (b, t b, w)
  | r + 1 =>
    if (goS t sh b w r).2.1 = 1 then ((goS t sh b w r).1 + 1, t ((goS t sh b w r).1 + 1), clampW (((goS t sh b w r).2.2 : Int) + sh (goS t sh b w r).1))
    else ((goS t sh b w r).1, (goS t sh b w r).2.1 - 1, clampW (((goS t sh b w r).2.2 : Int) + sh (goS t sh b w r).1))
def pG (S : kS) (p r : Nat) : Nat × Nat × Nat := goS (S.1 9) S.2.1 (6 * p) (S.1 3 p) r
/-- the line of a row of a pattern (its place), and the row's width -/
def pL (S : kS) (p r : Nat) : Nat := (pG S p r).1
def pW (S : kS) (p r : Nat) : Nat := (pG S p r).2.2
def stV (k pu w c : Nat) : Nat := if w ≤ c then 0 else if c % (k + pu) < k then 1 else 2
def pSt (S : kS) (p r c : Nat) : Nat := stV (S.1 6 (pL S p r)) (S.1 7 (pL S p r)) (pW S p r) c
def ynV (k pu w : Nat) : Nat := sumN (fun c => if stV k pu w c = 1 then 2 else 3) w
def pYn (S : kS) (p r : Nat) : Nat := ynV (S.1 6 (pL S p r)) (S.1 7 (pL S p r)) (pW S p r)
def pRows (S : kS) (p : Nat) : Nat := sumN (fun k => S.1 9 (6 * p + k)) (S.1 5 p)
def pAlike (S : kS) (a b : Nat) : Prop := pRows S a = pRows S b ∧ ∀ r, r < pRows S a → ∀ c, c < 40 → pSt S a r c = pSt S b r c
noncomputable def pOrigN (S : kS) (p : Nat) : Nat → Nat
  | 0 => p
  | k + 1 => kif (S.1 10 k < S.1 10 (pOrigN S p k) ∧ pAlike S k p) k (pOrigN S p k)
noncomputable def pOrig (S : kS) (p : Nat) : Nat := pOrigN S p (S.1 1 0)
/-- a pattern whose lines are in order -/
def okP (S : kS) (p : Nat) : Prop := S.1 5 p ≤ 6 ∧ 1 ≤ S.1 3 p ∧ S.1 3 p ≤ 20 ∧ pRows S p ≤ 40 ∧ ∀ k, k < S.1 5 p → S.1 6 (6 * p + k) ≤ 9 ∧ S.1 7 (6 * p + k) ≤ 9 ∧ 1 ≤ S.1 6 (6 * p + k) + S.1 7 (6 * p + k) ∧ 1 ≤ S.1 9 (6 * p + k) ∧ S.1 9 (6 * p + k) ≤ 40 ∧ -3 ≤ S.2.1 (6 * p + k) ∧ S.2.1 (6 * p + k) ≤ 3
theorem goS_w {t : Nat → Nat} {sh : Nat → Int} {b w : Nat} (hw : 1 ≤ w ∧ w ≤ 40) (r : Nat) : 1 ≤ (goS t sh b w r).2.2 ∧ (goS t sh b w r).2.2 ≤ 40 := by
  cases r with
  | zero => exact hw
  | succ r => unfold goS; split <;> exact clampW_in _
/-- where a row below all rows stands: in a line, with some rows of it behind -/
theorem goS_at {t : Nat → Nat} {sh : Nat → Int} {b w : Nat} : ∀ (r n : Nat), (∀ k, k < n → 1 ≤ t (b + k)) → r < sumN (fun k => t (b + k)) n →
    ∃ i, i < n ∧ (goS t sh b w r).1 = b + i ∧ 1 ≤ (goS t sh b w r).2.1 ∧ (goS t sh b w r).2.1 ≤ t (b + i) ∧ r + (goS t sh b w r).2.1 = sumN (fun k => t (b + k)) (i + 1) := by
  intro r
  induction r with
  | zero =>
    intro n ht hr
    have hn : 0 < n := by
      rcases Nat.eq_zero_or_pos n with q | q
      · subst q; simp [sumN] at hr
      · exact q
    exact ⟨0, hn, rfl, by have := ht 0 hn; exact this, Nat.le_refl _, by simp [goS, sumN]⟩
  | succ r ih =>
    intro n ht hr
    obtain ⟨i, hi, e1, e2, e3, e4⟩ := ih n ht (by omega)
    unfold goS
    by_cases c : (goS t sh b w r).2.1 = 1
    · rw [if_pos c]
      have hi1 : i + 1 < n := by
        rcases Nat.lt_or_ge (i + 1) n with q | q
        · exact q
        · have := sumN_le (f := fun k => t (b + k)) q
          omega
      have ht1 := ht (i + 1) hi1
      refine ⟨i + 1, hi1, by dsimp only; rw [e1]; omega, ?_, ?_, ?_⟩
      · dsimp only; rw [e1, Nat.add_assoc]; exact ht1
      · dsimp only; rw [e1, Nat.add_assoc]; exact Nat.le_refl _
      · dsimp only
        rw [sumN_s, ← e4, c, e1, Nat.add_assoc b i 1]
    · rw [if_neg c]
      exact ⟨i, hi, e1, by dsimp only; omega, by dsimp only; omega, by dsimp only; omega⟩
theorem pG_at {S : kS} {p r : Nat} (h : okP S p) (hr : r < pRows S p) : ∃ i, i < S.1 5 p ∧ (pG S p r).1 = 6 * p + i ∧ 1 ≤ (pG S p r).2.1 ∧ (pG S p r).2.1 ≤ S.1 9 (6 * p + i) ∧ r + (pG S p r).2.1 = sumN (fun k => S.1 9 (6 * p + k)) (i + 1) :=
  goS_at r (S.1 5 p) (fun k hk => (h.2.2.2.2 k hk).2.2.2.1) hr
theorem pW_in {S : kS} {p : Nat} (h : okP S p) (r : Nat) : 1 ≤ pW S p r ∧ pW S p r ≤ 40 := goS_w ⟨h.2.1, Nat.le_trans h.2.2.1 (by decide)⟩ r
theorem pL_at {S : kS} {p r : Nat} (h : okP S p) (hr : r < pRows S p) : ∃ i, i < S.1 5 p ∧ pL S p r = 6 * p + i := by
  obtain ⟨i, h1, h2, -⟩ := pG_at h hr
  exact ⟨i, h1, h2⟩
