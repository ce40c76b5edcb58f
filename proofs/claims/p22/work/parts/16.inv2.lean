theorem k_holes : ∀ (m n : Nat) (f : Nat → Nat), (∀ i, i < n → f i < m) → (∀ i j, i < j → j < n → f i ≠ f j) → n ≤ m := by
  intro m
  induction m with
  | zero =>
    intro n f h1 h2
    rcases Nat.eq_zero_or_pos n with q | q
    · omega
    · exact absurd (h1 0 q) (Nat.not_lt_zero _)
  | succ m ih =>
    intro n f h1 h2
    rcases Nat.eq_zero_or_pos n with q | q
    · omega
    · by_cases hx : ∃ i, i < n ∧ f i = m
      · obtain ⟨i0, hi0, e0⟩ := hx
        have hf : ∀ i j, i < n → j < n → i ≠ j → f i ≠ f j := fun i j hi hj hij => by
          rcases Nat.lt_or_ge i j with z | z
          · exact h2 i j z hj
          · exact fun e => h2 j i (by omega) hi e.symm
        have := ih (n - 1) (fun i => if i < i0 then f i else f (i + 1)) (fun i hi => by
          try dsimp only
          split
          · have a := h1 i (by omega)
            have b := hf i i0 (by omega) hi0 (by omega)
            omega
          · have a := h1 (i + 1) (by omega)
            have b := hf (i + 1) i0 (by omega) hi0 (by omega)
            omega) (fun i j hij hj => by
          try dsimp only
          split <;> split <;> apply hf <;> omega)
        omega
      · have := ih n f (fun i hi => by
          have a := h1 i hi
          have b : f i ≠ m := fun e => hx ⟨i, hi, e⟩
          omega) h2
        omega
theorem kInv_od {S : kS} (h : kInv S) {p : Nat} (hp : p < S.1 1 0) : S.1 10 p ≤ 99 := by
  obtain ⟨h1, h2, -⟩ := h
  have := (h2 p hp).2.2.2.1
  omega
theorem pub_lt {S : kS} {p : Nat} (h : kInv S) (hp : p < S.1 1 0) (hu : S.1 10 p = 99) : S.1 11 0 + 1 ≤ S.1 1 0 := by
  obtain ⟨h1, h2, h3, h4, h5, h6, h7, h8⟩ := h
  have hc : ∀ o, ∃ q, o < S.1 11 0 → q < S.1 1 0 ∧ S.1 10 q = o := fun o => by
    by_cases c : o < S.1 11 0
    · obtain ⟨q, a, b⟩ := h8 o c
      exact ⟨q, fun _ => ⟨a, b⟩⟩
    · exact ⟨0, fun z => absurd z c⟩
  obtain ⟨f, hf⟩ := Classical.axiomOfChoice hc
  refine k_holes (S.1 1 0) (S.1 11 0 + 1) (fun i => if i < S.1 11 0 then f i else p) (fun i hi => ?_) (fun i j hij hj => ?_)
  · try dsimp only
    split
    · next c => exact (hf i c).1
    · exact hp
  · try dsimp only
    have hp16 := h1.2.2.2
    rw [if_pos (by omega : i < S.1 11 0)]
    have a := hf i (by omega)
    split
    · next c =>
      have b := hf j c
      intro e
      rw [e] at a
      omega
    · intro e
      rw [e] at a
      omega
theorem pubS_10 (S : kS) (p q : Nat) : (pubS S p).1 10 q = if q = p then S.1 11 0 else S.1 10 q := by simp [pubS, st_1]
theorem pubS_11 (S : kS) (p : Nat) : (pubS S p).1 11 0 = S.1 11 0 + 1 := by simp [pubS, st_1]
theorem kInv_pubS {S : kS} {p : Nat} (h : kInv S) (hp : p < S.1 1 0) (hu : S.1 10 p = 99) (hl : 0 < S.1 5 p) : kInv (pubS S p) := by
  have hb := pub_lt h hp hu
  obtain ⟨h1, h2, h3, h4, h5, h6, h7, h8⟩ := h
  refine ⟨⟨h1.1, h1.2.1, h1.2.2.1, by rw [pubS_11]; omega⟩, ?_, h3, h4, ?_, h6, ?_, ?_⟩
  · intro q hq
    obtain ⟨k1, k2, k3, k4, k5, k6, k7⟩ := h2 q hq
    refine ⟨k1, k2, k3, ?_, ?_, k6, k7⟩
    · rw [pubS_10, pubS_11]; split <;> omega
    · rw [pubS_10]; split
      · next z => subst z; exact fun _ => hl
      · exact k5
  · intro i hi
    obtain ⟨k1, k2, k3, k4, k5⟩ := h5 i hi
    refine ⟨k1, k2, ?_, k4, k5⟩
    show (pubS S p).1 10 (S.1 21 i) ≠ 99
    rw [pubS_10]; split
    · omega
    · exact k3
  · intro a b ha hb2 e hne
    rw [pubS_10] at hne
    rw [pubS_10, pubS_10] at e
    have ha2 := (h2 a ha).2.2.2.1
    have hb3 := (h2 b hb2).2.2.2.1
    split at e <;> split at e
    · omega
    · next c1 c2 => rw [if_pos c1] at hne; omega
    · next c1 c2 => rw [if_neg c1] at hne; omega
    · next c1 c2 => rw [if_neg c1] at hne; exact h7 a b ha hb2 e hne
  · intro o ho
    rw [pubS_11] at ho
    by_cases c : o = S.1 11 0
    · exact ⟨p, hp, by rw [pubS_10, if_pos rfl, c]⟩
    · obtain ⟨q, a, b⟩ := h8 o (by omega)
      refine ⟨q, a, ?_⟩
      rw [pubS_10, if_neg (fun z => ?_)]
      · exact b
      · rw [z, hu] at b; have := h1.2.2.2; omega
theorem anewN_10 {S : kS} {p g : Nat} : ∀ n, (anewN S p g n).1 10 (S.1 1 0) = 99 := by
  intro n
  induction n with
  | zero => simp [anewN, addS, st_1]
  | succ n ih => rw [← ih]; simp [anewN, putS, st_1, stz_1]
theorem anewN_rows {S : kS} {p g : Nat} (h50 : S.1 5 (S.1 1 0) = 0) : ∀ n, pRows (anewN S p g n) (S.1 1 0) = sumN (fun k => oftN (S.1 9 (6 * p + k)) g) n := by
  intro n
  induction n with
  | zero => exact pRows_0 h50
  | succ n ih =>
    show pRows (putS (anewN S p g n) (S.1 1 0) _ _ _ _) (S.1 1 0) = _
    rw [putS_rows, ih, sumN_s]
theorem kInv_anewN {S : kS} {p g : Nat} (h : kInv S) (hp : p < S.1 1 0) (hg : 5 ≤ g ∧ g ≤ 20) (hn : S.1 1 0 < 16) (hr : anewRows S p g ≤ 40) : ∀ n, n ≤ S.1 5 p → kInv (anewN S p g n) := by
  have hI := h
  obtain ⟨h1, h2, h3, h4, h5, h6, h7⟩ := h
  obtain ⟨k1, k2, k3, k4, k5, k6, k7⟩ := h2 p hp
  obtain ⟨m1, m2, m3, m4, m5⟩ := k1
  have h50 := (h3 (S.1 1 0) (Nat.le_refl _) hn).1
  intro n
  induction n with
  | zero => intro _; exact kInv_addS hI hn k2 (clampF_in _) k3
  | succ n ih =>
    intro hnl
    obtain ⟨a1, a2, a3, a4⟩ := anewN_at (g := g) hp m1 h50 n (by omega)
    obtain ⟨q1, q2, q3, q4, q5, q6, q7⟩ := m5 n (by omega)
    have hle : sumN (fun k => oftN (S.1 9 (6 * p + k)) g) (n + 1) ≤ anewRows S p g := sumN_le (by omega)
    rw [sumN_s] at hle
    exact kInv_putS (ih (by omega)) (by rw [a3]; omega) (anewN_10 n) (by rw [a1]; omega) q1 q2 q3 ⟨q6, q7⟩ (oftN_in q5 hg.2).1 (by have := (oftN_in (g := g) q5 hg.2).1; omega) (by rw [anewN_rows h50]; omega)
theorem kInv_buyS {S : kS} {p j : Nat} (h : kInv S) (hp : p < S.1 1 0) (hj : j < 5) : kInv (buyS S p j) := by
  obtain ⟨h1, h2, h3, h4, h5, h6, h7⟩ := h
  have e13 : ∀ q, (buyS S p j).1 13 q = if q = p then S.1 13 p ||| 2 ^ j else S.1 13 q := fun q => by simp [buyS, stm_1, st_1]
  refine ⟨h1, ?_, ?_, h4, h5, h6, h7⟩
  · intro q hq
    obtain ⟨k1, k2, k3, k4, k5, k6, k7⟩ := h2 q hq
    refine ⟨k1, k2, k3, k4, k5, ?_, k7⟩
    rw [e13]; split
    · have a := (h2 p hp).2.2.2.2.2.1
      have b : 2 ^ j < 2 ^ 5 := Nat.pow_lt_pow_right (by decide) hj
      exact Nat.or_lt_two_pow (n := 5) a b
    · exact k6
  · intro q hq h16
    obtain ⟨k1, k2, k3⟩ := h3 q hq h16
    have hq : S.1 1 0 ≤ q := hq
    exact ⟨k1, by rw [e13, if_neg (by omega)]; exact k2, k3⟩
theorem kInv_ruleS {S : kS} {p : Nat} (h : kInv S) (hp : p < S.1 1 0) : kInv (ruleS S p) := by
  obtain ⟨h1, h2, h3, h4, h5, h6, h7⟩ := h
  have e12 : ∀ q, (ruleS S p).1 12 q = if q = p then 1 else S.1 12 q := fun q => by simp [ruleS, stm_1, st_1]
  refine ⟨h1, ?_, ?_, h4, h5, h6, h7⟩
  · intro q hq
    obtain ⟨k1, k2, k3, k4, k5, k6, k7⟩ := h2 q hq
    refine ⟨k1, k2, k3, k4, k5, k6, ?_⟩
    rw [e12]; split <;> omega
  · intro q hq h16
    obtain ⟨k1, k2, k3⟩ := h3 q hq h16
    have hq : S.1 1 0 ≤ q := hq
    exact ⟨k1, k2, by rw [e12, if_neg (by omega)]; exact k3⟩
theorem kInv_lotS {S : kS} {x g y : Nat} (h : kInv S) (hn : S.1 15 0 < 20) (hx : x < 5) (hg : 5 ≤ g ∧ g ≤ 20) (hy : y ≤ 100000) : kInv (lotS S x g y) := by
  obtain ⟨h1, h2, h3, h4, h5, h6, h7⟩ := h
  have e15 : (lotS S x g y).1 15 0 = S.1 15 0 + 1 := by simp [lotS, st_1]
  have e16 : ∀ a, (lotS S x g y).1 16 a = if a = S.1 15 0 then x else S.1 16 a := fun a => by simp [lotS, st_1]
  have e17 : ∀ a, (lotS S x g y).1 17 a = if a = S.1 15 0 then g else S.1 17 a := fun a => by simp [lotS, st_1]
  have e18 : ∀ a, (lotS S x g y).1 18 a = if a = S.1 15 0 then y else S.1 18 a := fun a => by simp [lotS, st_1]
  refine ⟨⟨h1.1, by rw [e15]; omega, h1.2.2.1, h1.2.2.2⟩, h2, h3, ?_, ?_, h6, h7⟩
  · intro a ha
    rw [e15] at ha
    rw [e16, e17, e18]
    by_cases c : a = S.1 15 0
    · rw [if_pos c, if_pos c, if_pos c]; exact ⟨hx, hg.1, hg.2, hy⟩
    · rw [if_neg c, if_neg c, if_neg c]; exact h4 a (by omega)
  · intro i hi
    obtain ⟨k1, k2, k3, k4, k5⟩ := h5 i hi
    exact ⟨k1, k2, k3, by rw [e15]; exact Nat.lt_succ_of_lt k4, k5⟩
theorem kInv_swapS {S : kS} {a b : Nat} (h : kInv S) (ha : a < S.1 15 0) (hb : b < S.1 15 0) : kInv (swapS S a b) := by
  obtain ⟨h1, h2, h3, h4, h5, h6, h7⟩ := h
  have e16 : ∀ q, (swapS S a b).1 16 q = if q = b then S.1 16 a else if q = a then S.1 16 b else S.1 16 q := fun q => by simp [swapS, st_1]
  refine ⟨h1, h2, h3, ?_, h5, h6, h7⟩
  intro q hq
  obtain ⟨k1, k2⟩ := h4 q hq
  refine ⟨?_, k2⟩
  rw [e16]; split
  · exact (h4 a ha).1
  · split
    · exact (h4 b hb).1
    · exact k1
theorem kInv_projS {S : kS} {x p a : Nat} (h : kInv S) (hx : x < 5) (hp : p < S.1 1 0) (ha : a < S.1 15 0) (hc : projCan S x p a) : kInv (projS S x p a) := by
  obtain ⟨h1, h2, h3, h4, h5, h6, h7⟩ := h
  have e19 : (projS S x p a).1 19 0 = S.1 19 0 + 1 := by simp [projS, st_1]
  have e20 : ∀ i, (projS S x p a).1 20 i = if i = S.1 19 0 then x else S.1 20 i := fun i => by simp [projS, st_1]
  have e21 : ∀ i, (projS S x p a).1 21 i = if i = S.1 19 0 then p else S.1 21 i := fun i => by simp [projS, st_1]
  have e22 : ∀ i, (projS S x p a).1 22 i = if i = S.1 19 0 then a else S.1 22 i := fun i => by simp [projS, st_1]
  have h12 := hc.2.2.2
  refine ⟨⟨h1.1, h1.2.1, by rw [e19]; omega, h1.2.2.2⟩, h2, h3, h4, ?_, ?_, h7⟩
  · intro i hi
    rw [e19] at hi
    rw [e20, e21, e22]
    by_cases c : i = S.1 19 0
    · rw [if_pos c, if_pos c, if_pos c]
      refine ⟨hx, hp, hc.1, ha, ?_⟩
      subst c
      show S.1 23 (S.1 19 0) ≤ _
      rw [h6 _ (Nat.le_refl _) h12]
      exact Nat.zero_le _
    · rw [if_neg c, if_neg c, if_neg c]; exact h5 i (by omega)
  · intro i hi hi12
    rw [e19] at hi
    exact h6 i (by omega) hi12
theorem kInv_take {S : kS} {j a : Nat} (h : kInv S) (ha : a < S.1 15 0) : kInv (st S 22 j a) := by
  obtain ⟨h1, h2, h3, h4, h5, h6, h7⟩ := h
  have e22 : ∀ i, (st S 22 j a).1 22 i = if i = j then a else S.1 22 i := fun i => by simp [st_1]
  refine ⟨h1, h2, h3, h4, ?_, h6, h7⟩
  intro i hi
  obtain ⟨k1, k2, k3, k4, k5⟩ := h5 i hi
  refine ⟨k1, k2, k3, ?_, k5⟩
  rw [e22]; split
  · exact ha
  · exact k4
theorem kInv_knitN {j : Nat} : ∀ (n : Nat) {S : kS}, kInv S → j < S.1 19 0 → kInv (knitN S j n).2 := by
  intro n
  induction n with
  | zero => intro S h _; exact h
  | succ n ih =>
    intro S h hj
    unfold knitN
    by_cases c : knitCan S j
    · rw [kif_t c]; exact ih (kInv_knit1 h hj c) hj
    · rw [kif_f c]; exact h
