/-! A PATTERN'S OWN NUMBERS: what stands in its rows -/
theorem pQn_n (S : kS) (i : Nat) : ∀ n, (pQn S i n).1.2.2 = n
  | 0 => rfl
  | n + 1 => by show (pQn S i n).1.2.2 + 1 = n + 1; rw [pQn_n S i n]
theorem pQn_r (S : kS) (i : Nat) : ∀ n, (pQn S i n).1.1 = sumN (fun k => S.1 9 (6 * i + k)) n
  | 0 => rfl
  | n + 1 => by show (pQn S i n).1.1 + S.1 9 (6 * i + n) = _; rw [pQn_r S i n, sumN_s]
theorem pQn_w {S : kS} {i : Nat} (h : 1 ≤ S.1 3 i ∧ S.1 3 i ≤ 40) : ∀ n, 1 ≤ (pQn S i n).1.2.1 ∧ (pQn S i n).1.2.1 ≤ 40
  | 0 => h
  | n + 1 => wN_in (pQn_w h n) _
theorem pQn_l {S : kS} {i : Nat} : ∀ {n k : Nat}, k < n → (pQn S i n).2.1.1 k = S.1 6 (6 * i + k) ∧ (pQn S i n).2.1.2.1 k = S.1 7 (6 * i + k) ∧ (pQn S i n).2.1.2.2.1 k = S.2.1 (6 * i + k) ∧ (pQn S i n).2.1.2.2.2 k = S.1 9 (6 * i + k) := by
  intro n
  induction n with
  | zero => intro k hk; omega
  | succ n ih =>
    intro k hk
    have e := pQn_n S i n
    by_cases c : k = n
    · subst c
      refine ⟨?_, ?_, ?_, ?_⟩
      · show va_up (pQn S i k).2.1.1 (pQn S i k).1.2.2 _ k = _
        rw [e]; exact va_up_self _ _ _
      · show va_up (pQn S i k).2.1.2.1 (pQn S i k).1.2.2 _ k = _
        rw [e]; exact va_up_self _ _ _
      · show va_up (pQn S i k).2.1.2.2.1 (pQn S i k).1.2.2 _ k = _
        rw [e]; exact va_up_self _ _ _
      · show va_up (pQn S i k).2.1.2.2.2 (pQn S i k).1.2.2 _ k = _
        rw [e]; exact va_up_self _ _ _
    · obtain ⟨a1, a2, a3, a4⟩ := ih (k := k) (by omega)
      refine ⟨?_, ?_, ?_, ?_⟩
      · show va_up (pQn S i n).2.1.1 (pQn S i n).1.2.2 _ k = _
        rw [e, va_up_ne _ _ c]; exact a1
      · show va_up (pQn S i n).2.1.2.1 (pQn S i n).1.2.2 _ k = _
        rw [e, va_up_ne _ _ c]; exact a2
      · show va_up (pQn S i n).2.1.2.2.1 (pQn S i n).1.2.2 _ k = _
        rw [e, va_up_ne _ _ c]; exact a3
      · show va_up (pQn S i n).2.1.2.2.2 (pQn S i n).1.2.2 _ k = _
        rw [e, va_up_ne _ _ c]; exact a4
/-- a line drawn: its rows hold its stitches, the others what they held -/
theorem dlF_at {F : Nat → Nat} {k u w rc : Nat} {z : Int} (hw : 1 ≤ w ∧ w ≤ 40) (h0 : ∀ x, rc * 40 ≤ x → F x = 0) : ∀ j, (∀ x, (rc + j) * 40 ≤ x → dlF F k u z w rc j x = 0) ∧ ∀ r c, c < 40 → dlF F k u z w rc j (r * 40 + c) = if rc ≤ r ∧ r < rc + j then stV k u (wN w z (r - rc)) c else F (r * 40 + c) := by
  intro j
  induction j with
  | zero =>
    refine ⟨fun x hx => h0 x (by omega), fun r c hc => ?_⟩
    rw [if_neg (by omega)]
    rfl
  | succ j ih =>
    obtain ⟨i1, i2⟩ := ih
    have hwj := wN_in (z := z) hw j
    have hstep : ∀ x, dlF F k u z w rc (j + 1) x = drawP (dlF F k u z w rc j) ((rc + j) * 40) k u (wN w z j) (wN w z j) x := fun _ => rfl
    have e1 : (rc + (j + 1)) * 40 = (rc + j) * 40 + 40 := by omega
    refine ⟨fun x hx => ?_, fun r c hc => ?_⟩
    · rw [hstep]
      unfold drawP
      rw [if_neg (by omega)]
      exact i1 x (by omega)
    · rw [hstep]
      unfold drawP
      by_cases q : r = rc + j
      · subst q
        rw [if_pos (show rc ≤ rc + j ∧ rc + j < rc + (j + 1) by omega)]
        simp only [Nat.add_sub_cancel_left]
        by_cases d : c < wN w z j
        · rw [if_pos (by omega)]
        · rw [if_neg (by omega), i1 _ (by omega)]
          unfold stV
          rw [if_pos (by omega)]
      · rw [if_neg (by omega), i2 r c hc]
        by_cases d : rc ≤ r ∧ r < rc + j
        · rw [if_pos d, if_pos (by omega)]
        · rw [if_neg d, if_neg (by omega)]
theorem dlY_at {Y : Nat → Nat} {k u w rc : Nat} {z : Int} : ∀ j r, dlY Y k u z w rc j r = if rc ≤ r ∧ r < rc + j then ynV k u (wN w z (r - rc)) else Y r := by
  intro j
  induction j with
  | zero => intro r; rw [if_neg (by omega)]; rfl
  | succ j ih =>
    intro r
    show va_up (dlY Y k u z w rc j) (rc + j) (ynV k u (wN w z j)) r = _
    by_cases q : r = rc + j
    · subst q
      rw [va_up_self, if_pos (by omega), Nat.add_sub_cancel_left]
    · rw [va_up_ne _ _ q, ih r]
      by_cases d : rc ≤ r ∧ r < rc + j
      · rw [if_pos d, if_pos (by omega)]
      · rw [if_neg d, if_neg (by omega)]
/-- the width of a row that stands j rows into line m -/
theorem pQn_go {S : kS} {i n : Nat} (ht : ∀ k, k < n → 1 ≤ S.1 9 (6 * i + k)) : ∀ m, m ≤ n → (pG S i (sumN (fun k => S.1 9 (6 * i + k)) m)).2.2 = (pQn S i m).1.2.1 ∧ (m < n → ∀ j, j ≤ S.1 9 (6 * i + m) → (pG S i (sumN (fun k => S.1 9 (6 * i + k)) m + j)).2.2 = wN (pQn S i m).1.2.1 (S.2.1 (6 * i + m)) j) := by
  have key : ∀ m, m < n → (pG S i (sumN (fun k => S.1 9 (6 * i + k)) m)).2.2 = (pQn S i m).1.2.1 → ∀ j, j ≤ S.1 9 (6 * i + m) → (pG S i (sumN (fun k => S.1 9 (6 * i + k)) m + j)).2.2 = wN (pQn S i m).1.2.1 (S.2.1 (6 * i + m)) j := by
    intro m hm h0 j
    induction j with
    | zero => intro _; exact h0
    | succ j ih =>
      intro hj
      have e := ih (by omega)
      have hg := goS_in (t := S.1 9) (sh := S.2.1) (b := 6 * i) (w := S.1 3 i) ht hm (j := j) (by omega)
      show (goS (S.1 9) S.2.1 (6 * i) (S.1 3 i) (sumN (fun k => S.1 9 (6 * i + k)) m + j + 1)).2.2 = clampW _
      rw [goS_w1, hg]
      have e' : (goS (S.1 9) S.2.1 (6 * i) (S.1 3 i) (sumN (fun k => S.1 9 (6 * i + k)) m + j)).2.2 = wN (pQn S i m).1.2.1 (S.2.1 (6 * i + m)) j := e
      rw [e']
  intro m
  induction m with
  | zero => intro hm; exact ⟨rfl, fun h => key 0 h rfl⟩
  | succ m ih =>
    intro hm
    obtain ⟨h1, h2⟩ := ih (by omega)
    have h3 := h2 (by omega) (S.1 9 (6 * i + m)) (Nat.le_refl _)
    exact ⟨h3, fun h => key (m + 1) h h3⟩
theorem pQn_F {S : kS} {i n : Nat} (hw : 1 ≤ S.1 3 i ∧ S.1 3 i ≤ 40) (ht : ∀ k, k < n → 1 ≤ S.1 9 (6 * i + k)) : ∀ m, m ≤ n → (∀ x, sumN (fun k => S.1 9 (6 * i + k)) m * 40 ≤ x → (pQn S i m).2.2.1 x = 0) ∧ (∀ r c, c < 40 → r < sumN (fun k => S.1 9 (6 * i + k)) m → (pQn S i m).2.2.1 (r * 40 + c) = pSt S i r c) ∧ (∀ r, r < sumN (fun k => S.1 9 (6 * i + k)) m → (pQn S i m).2.2.2 r = pYn S i r) := by
  intro m
  induction m with
  | zero => intro hm; exact ⟨fun _ _ => rfl, fun r c _ hr => absurd hr (Nat.not_lt_zero _), fun r hr => absurd hr (Nat.not_lt_zero _)⟩
  | succ m ih =>
    intro hm
    obtain ⟨i1, i2, i3⟩ := ih (by omega)
    have hr := pQn_r S i m
    have hd := dlF_at (F := (pQn S i m).2.2.1) (k := S.1 6 (6 * i + m)) (u := S.1 7 (6 * i + m)) (z := S.2.1 (6 * i + m)) (rc := (pQn S i m).1.1) (pQn_w hw m) (fun x hx => i1 x (by rw [← hr]; exact hx)) (S.1 9 (6 * i + m))
    have hy := dlY_at (Y := (pQn S i m).2.2.2) (k := S.1 6 (6 * i + m)) (u := S.1 7 (6 * i + m)) (w := (pQn S i m).1.2.1) (z := S.2.1 (6 * i + m)) (rc := (pQn S i m).1.1) (S.1 9 (6 * i + m))
    rw [hr] at hd hy
    have line : ∀ r, sumN (fun k => S.1 9 (6 * i + k)) m ≤ r → r < sumN (fun k => S.1 9 (6 * i + k)) m + S.1 9 (6 * i + m) → pL S i r = 6 * i + m ∧ pW S i r = wN (pQn S i m).1.2.1 (S.2.1 (6 * i + m)) (r - sumN (fun k => S.1 9 (6 * i + k)) m) := by
      intro r h1 h2
      obtain ⟨j, rfl⟩ : ∃ j, r = sumN (fun k => S.1 9 (6 * i + k)) m + j := ⟨r - sumN (fun k => S.1 9 (6 * i + k)) m, by omega⟩
      rw [Nat.add_sub_cancel_left]
      exact ⟨goS_in (t := S.1 9) (sh := S.2.1) (b := 6 * i) (w := S.1 3 i) ht (show m < n by omega) (by omega), (pQn_go ht m (by omega)).2 (by omega) j (by omega)⟩
    rw [sumN_s]
    refine ⟨fun x hx => ?_, fun r c hc hr2 => ?_, fun r hr2 => ?_⟩
    · show dlF (pQn S i m).2.2.1 (S.1 6 (6 * i + m)) (S.1 7 (6 * i + m)) (S.2.1 (6 * i + m)) (pQn S i m).1.2.1 (pQn S i m).1.1 (S.1 9 (6 * i + m)) x = 0
      rw [hr]
      exact hd.1 x hx
    · show dlF (pQn S i m).2.2.1 (S.1 6 (6 * i + m)) (S.1 7 (6 * i + m)) (S.2.1 (6 * i + m)) (pQn S i m).1.2.1 (pQn S i m).1.1 (S.1 9 (6 * i + m)) (r * 40 + c) = _
      rw [hr, hd.2 r c hc]
      by_cases d : sumN (fun k => S.1 9 (6 * i + k)) m ≤ r
      · obtain ⟨l1, l2⟩ := line r d hr2
        rw [if_pos ⟨d, hr2⟩]
        unfold pSt
        rw [l1, l2]
      · rw [if_neg (by omega)]
        exact i2 r c hc (by omega)
    · show dlY (pQn S i m).2.2.2 (S.1 6 (6 * i + m)) (S.1 7 (6 * i + m)) (S.2.1 (6 * i + m)) (pQn S i m).1.2.1 (pQn S i m).1.1 (S.1 9 (6 * i + m)) r = _
      rw [hr, hy r]
      by_cases d : sumN (fun k => S.1 9 (6 * i + k)) m ≤ r
      · obtain ⟨l1, l2⟩ := line r d hr2
        rw [if_pos ⟨d, hr2⟩]
        unfold pYn
        rw [l1, l2]
      · rw [if_neg (by omega)]
        exact i3 r (by omega)
section PQ
variable {S : kS} {i : Nat}
theorem pQ_n : (pQ S i).1.2.2 = S.1 5 i := pQn_n S i _
theorem pQ_r : (pQ S i).1.1 = pRows S i := pQn_r S i _
theorem pQ_w (h : okP S i) : 1 ≤ (pQ S i).1.2.1 ∧ (pQ S i).1.2.1 ≤ 40 := pQn_w ⟨h.2.1, Nat.le_trans h.2.2.1 (by decide)⟩ _
theorem pQ_l {k : Nat} (hk : k < S.1 5 i) : (pQ S i).2.1.1 k = S.1 6 (6 * i + k) ∧ (pQ S i).2.1.2.1 k = S.1 7 (6 * i + k) ∧ (pQ S i).2.1.2.2.1 k = S.2.1 (6 * i + k) ∧ (pQ S i).2.1.2.2.2 k = S.1 9 (6 * i + k) := pQn_l hk
theorem pQ_ok (h : okP S i) : (∀ x, pRows S i * 40 ≤ x → (pQ S i).2.2.1 x = 0) ∧ (∀ r c, c < 40 → r < pRows S i → (pQ S i).2.2.1 (r * 40 + c) = pSt S i r c) ∧ (∀ r, r < pRows S i → (pQ S i).2.2.2 r = pYn S i r) :=
  pQn_F (n := S.1 5 i) ⟨h.2.1, Nat.le_trans h.2.2.1 (by decide)⟩ (fun k hk => (h.2.2.2.2 k hk).2.2.2.1) (S.1 5 i) (Nat.le_refl _)
theorem pQ_F2 (h : okP S i) (x : Nat) : (pQ S i).2.2.1 x ≤ 2 := by
  obtain ⟨h1, h2, -⟩ := pQ_ok h
  rcases Nat.lt_or_ge x (pRows S i * 40) with q | q
  · have e : x = x / 40 * 40 + x % 40 := by have := Nat.div_add_mod x 40; omega
    rw [e, h2 (x / 40) (x % 40) (Nat.mod_lt _ (by decide)) (by omega)]
    exact pSt_le _ _ _ _
  · rw [h1 x q]; exact Nat.zero_le _
theorem pQ_Y (h : okP S i) (r : Nat) : (pQ S i).2.2.2 r ≤ 120 ∨ pRows S i ≤ r := by
  rcases Nat.lt_or_ge r (pRows S i) with q | q
  · left
    rw [(pQ_ok h).2.2 r q, pYn_sum]
    have h1 := (pW_in h r).2
    have h2 := sumN_bd (f := fun c => if pSt S i r c = 1 then 2 else 3) (c := 3) (n := pW S i r) (fun k _ => by split <;> omega)
    omega
  · exact Or.inr q
end PQ
theorem pQn_cong {S T : kS} {i : Nat} : ∀ {n : Nat}, T.1 3 i = S.1 3 i → (∀ k, k < n → T.1 6 (6 * i + k) = S.1 6 (6 * i + k) ∧ T.1 7 (6 * i + k) = S.1 7 (6 * i + k) ∧ T.2.1 (6 * i + k) = S.2.1 (6 * i + k) ∧ T.1 9 (6 * i + k) = S.1 9 (6 * i + k)) → pQn T i n = pQn S i n
  | 0, h3, _ => by unfold pQn; rw [h3]
  | n + 1, h3, h => by
    obtain ⟨a1, a2, a3, a4⟩ := h n (Nat.lt_succ_self _)
    show adP _ _ _ _ _ = adP _ _ _ _ _
    rw [pQn_cong h3 (fun k hk => h k (Nat.lt_succ_of_lt hk)), a1, a2, a3, a4]
