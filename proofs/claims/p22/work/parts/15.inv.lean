/-! what later states have of earlier ones; the bounds stay -/
theorem st_same (S : kS) (k i : Nat) : st S k i (S.1 k i) = S := by
  have h : (st S k i (S.1 k i)).1 = S.1 := by
    funext a b
    rw [st_1]
    by_cases c : a = k ∧ b = i
    · rw [if_pos c, c.1, c.2]
    · rw [if_neg c]
  exact Prod.ext h rfl
/-- the same patterns, as far as charts and the original go -/
def sameC (S T : kS) : Prop := T.1 1 = S.1 1 ∧ T.1 3 = S.1 3 ∧ T.1 5 = S.1 5 ∧ T.1 6 = S.1 6 ∧ T.1 7 = S.1 7 ∧ T.1 9 = S.1 9 ∧ T.1 10 = S.1 10 ∧ T.2.1 = S.2.1
theorem sameC_rows {S T : kS} (h : sameC S T) (p : Nat) : pRows T p = pRows S p := by
  obtain ⟨-, -, h5, -, -, h9, -, -⟩ := h
  unfold pRows; rw [h5, h9]
theorem sameC_G {S T : kS} (h : sameC S T) (p r : Nat) : pG T p r = pG S p r := by
  obtain ⟨-, h3, -, -, -, h9, -, hz⟩ := h
  unfold pG; rw [h3, h9, hz]
theorem sameC_St {S T : kS} (h : sameC S T) (p r c : Nat) : pSt T p r c = pSt S p r c := by
  have e := sameC_G h p r
  obtain ⟨-, -, -, h6, h7, -, -, -⟩ := h
  unfold pSt pL pW; rw [e, h6, h7]
theorem sameC_Yn {S T : kS} (h : sameC S T) (p r : Nat) : pYn T p r = pYn S p r := by
  have e := sameC_G h p r
  obtain ⟨-, -, -, h6, h7, -, -, -⟩ := h
  unfold pYn pL pW; rw [e, h6, h7]
theorem sameC_Al {S T : kS} (h : sameC S T) (a b : Nat) : pAlike T a b = pAlike S a b := by
  unfold pAlike
  simp only [sameC_rows h, sameC_St h]
theorem sameC_OrN {S T : kS} (h : sameC S T) (p n : Nat) : pOrigN T p n = pOrigN S p n := by
  induction n with
  | zero => rfl
  | succ n ih =>
    show kif (T.1 10 n < T.1 10 (pOrigN T p n) ∧ pAlike T n p) n (pOrigN T p n) = kif (S.1 10 n < S.1 10 (pOrigN S p n) ∧ pAlike S n p) n (pOrigN S p n)
    rw [ih, sameC_Al h, h.2.2.2.2.2.2.1]
theorem sameC_Or {S T : kS} (h : sameC S T) (p : Nat) : pOrig T p = pOrig S p := by
  unfold pOrig; rw [sameC_OrN h, h.1]
theorem sameC_ok {S T : kS} (h : sameC S T) (p : Nat) : okP T p ↔ okP S p := by
  have e := sameC_rows h p
  obtain ⟨-, h3, h5, h6, h7, h9, -, hz⟩ := h
  unfold okP; rw [e, h3, h5, h6, h7, h9, hz]
theorem kInv_knit1 {S : kS} {j : Nat} (h : kInv S) (hj : j < S.1 19 0) (hc : knitCan S j) : kInv (knit1 S j) := by
  obtain ⟨h1, h2, h3, h4, h5, h6, h7⟩ := h
  obtain ⟨c1, c2, c3⟩ := hc
  have hj5 := h5 j hj
  refine ⟨h1, h2, h3, ?_, ?_, ?_, h7⟩
  · intro a ha
    have q := h4 a ha
    have e : (knit1 S j).1 18 a = if a = S.1 22 j then S.1 18 (S.1 22 j) - rowNd S j else S.1 18 a := by simp [knit1, st_1]
    refine ⟨q.1, q.2.1, q.2.2.1, ?_⟩
    rw [e]
    have q2 := (h4 (S.1 22 j) hj5.2.2.2.1).2.2.2
    split
    · omega
    · exact q.2.2.2
  · intro i hi
    have q := h5 i hi
    have e : (knit1 S j).1 23 i = if i = j then S.1 23 j + 1 else S.1 23 i := by simp [knit1, st_1]
    refine ⟨q.1, q.2.1, q.2.2.1, q.2.2.2.1, ?_⟩
    show (knit1 S j).1 23 i ≤ pRows S (S.1 21 i)
    rw [e]
    split
    · next z => subst z; have := q.2.2.2.2; omega
    · exact q.2.2.2.2
  · intro i hi h12
    have hi : S.1 19 0 ≤ i := hi
    have e : (knit1 S j).1 23 i = if i = j then S.1 23 j + 1 else S.1 23 i := by simp [knit1, st_1]
    rw [e, if_neg (by omega)]
    exact h6 i hi h12
theorem pRows_0 {S : kS} {p : Nat} (h : S.1 5 p = 0) : pRows S p = 0 := by unfold pRows; rw [h]; rfl
theorem kInv_addS {S : kS} {o w c : Nat} (h : kInv S) (hn : S.1 1 0 < 16) (ho : o < 5) (hw : 1 ≤ w ∧ w ≤ 20) (hc : c ≤ 1000) : kInv (addS S o w c) := by
  obtain ⟨h1, h2, h3, h4, h5, h6, h7⟩ := h
  have en : (addS S o w c).1 1 0 = S.1 1 0 + 1 := by simp [addS, st_1]
  have e2 : ∀ p, (addS S o w c).1 2 p = if p = S.1 1 0 then o else S.1 2 p := fun p => by simp [addS, st_1]
  have e3 : ∀ p, (addS S o w c).1 3 p = if p = S.1 1 0 then w else S.1 3 p := fun p => by simp [addS, st_1]
  have e4 : ∀ p, (addS S o w c).1 4 p = if p = S.1 1 0 then c else S.1 4 p := fun p => by simp [addS, st_1]
  have e10 : ∀ p, (addS S o w c).1 10 p = if p = S.1 1 0 then 99 else S.1 10 p := fun p => by simp [addS, st_1]
  have q0 := h3 (S.1 1 0) (Nat.le_refl _) hn
  refine ⟨⟨by rw [en]; omega, h1.2.1, h1.2.2.1, h1.2.2.2⟩, ?_, ?_, h4, ?_, h6, ?_, ?_⟩
  · intro p hp
    rw [en] at hp
    by_cases c0 : p = S.1 1 0
    · subst c0
      have r0 : pRows (addS S o w c) (S.1 1 0) = 0 := pRows_0 q0.1
      refine ⟨⟨by rw [show (addS S o w c).1 5 (S.1 1 0) = 0 from q0.1]; omega, by rw [e3, if_pos rfl]; exact hw.1, by rw [e3, if_pos rfl]; exact hw.2, by rw [r0]; omega, ?_⟩, by rw [e2, if_pos rfl]; exact ho, by rw [e4, if_pos rfl]; exact hc, Or.inl (by rw [e10, if_pos rfl]), fun z => absurd (by rw [e10, if_pos rfl]) z, ?_, ?_⟩
      · intro k hk
        rw [show (addS S o w c).1 5 (S.1 1 0) = 0 from q0.1] at hk
        omega
      · rw [show (addS S o w c).1 13 (S.1 1 0) = 0 from q0.2.1]; omega
      · rw [show (addS S o w c).1 12 (S.1 1 0) = 0 from q0.2.2]; omega
    · obtain ⟨k1, k2, k3, k4, k5, k6, k7⟩ := h2 p (by omega)
      obtain ⟨m1, m2, m3, m4, m5⟩ := k1
      refine ⟨⟨m1, by rw [e3, if_neg c0]; exact m2, by rw [e3, if_neg c0]; exact m3, m4, m5⟩, by rw [e2, if_neg c0]; exact k2, by rw [e4, if_neg c0]; exact k3, ?_, ?_, k6, k7⟩
      · rw [e10, if_neg c0]; exact k4
      · rw [e10, if_neg c0]; exact k5
  · intro p hp h16
    rw [en] at hp
    exact h3 p (by omega) h16
  · intro i hi
    obtain ⟨k1, k2, k3, k4, k5⟩ := h5 i hi
    refine ⟨k1, by rw [en]; exact Nat.lt_succ_of_lt k2, ?_, k4, k5⟩
    show (addS S o w c).1 10 (S.1 21 i) ≠ 99
    rw [e10, if_neg (by omega)]
    exact k3
  · intro p q hp hq e hne
    rw [en] at hp hq
    rw [e10] at hne
    have hp0 : p ≠ S.1 1 0 := fun z => by rw [if_pos z] at hne; exact hne rfl
    rw [if_neg hp0] at hne
    rw [e10, e10, if_neg hp0] at e
    by_cases cq : q = S.1 1 0
    · rw [if_pos cq] at e; exact absurd e hne
    · rw [if_neg cq] at e
      exact h7.1 p q (by omega) (by omega) e hne
  · intro x hx
    obtain ⟨p, hp, e⟩ := h7.2 x hx
    exact ⟨p, by rw [en]; omega, by rw [e10, if_neg (by omega)]; exact e⟩
/-- a line more -/
theorem putS_rows {S : kS} {p k u t : Nat} {z : Int} : pRows (putS S p k u z t) p = pRows S p + t := by
  unfold pRows
  rw [putS_5, sumN_s]
  have e9 : ∀ a, (putS S p k u z t).1 9 a = if a = 6 * p + S.1 5 p then t else S.1 9 a := fun a => by simp [putS, st_1, stz_1]
  rw [e9, if_pos rfl]
  congr 1
  apply sumN_cong
  intro i hi
  rw [e9, if_neg (by omega)]
theorem putS_rows' {S : kS} {p q k u t : Nat} {z : Int} (hq : q ≠ p) (h5p : S.1 5 p < 6) (h5 : S.1 5 q ≤ 6) : pRows (putS S p k u z t) q = pRows S q := by
  unfold pRows
  have e5 : (putS S p k u z t).1 5 q = S.1 5 q := by simp [putS, st_1, stz_1, hq]
  have e9 : ∀ a, (putS S p k u z t).1 9 a = if a = 6 * p + S.1 5 p then t else S.1 9 a := fun a => by simp [putS, st_1, stz_1]
  rw [e5]
  apply sumN_cong
  intro i hi
  rw [e9, if_neg (by omega)]
theorem kInv_putS {S : kS} {p k u t : Nat} {z : Int} (h : kInv S) (hp : p < S.1 1 0) (hu : S.1 10 p = 99) (h5p : S.1 5 p < 6) (hk : k ≤ 9) (hu9 : u ≤ 9) (h1u : 1 ≤ k + u) (hz : -3 ≤ z ∧ z ≤ 3) (ht : 1 ≤ t) (ht2 : t ≤ 40) (hr : pRows S p + t ≤ 40) : kInv (putS S p k u z t) := by
  obtain ⟨h1, h2, h3, h4, h5, h6, h7⟩ := h
  have e5 : ∀ q, (putS S p k u z t).1 5 q = if q = p then S.1 5 p + 1 else S.1 5 q := fun q => by simp [putS, st_1, stz_1]
  have e6 : ∀ a, (putS S p k u z t).1 6 a = if a = 6 * p + S.1 5 p then k else S.1 6 a := fun a => by simp [putS, st_1, stz_1]
  have e7 : ∀ a, (putS S p k u z t).1 7 a = if a = 6 * p + S.1 5 p then u else S.1 7 a := fun a => by simp [putS, st_1, stz_1]
  have e9 : ∀ a, (putS S p k u z t).1 9 a = if a = 6 * p + S.1 5 p then t else S.1 9 a := fun a => by simp [putS, st_1, stz_1]
  have ez : ∀ a, (putS S p k u z t).2.1 a = if a = 6 * p + S.1 5 p then z else S.2.1 a := fun a => rfl
  refine ⟨h1, ?_, ?_, h4, ?_, h6, h7⟩
  · intro q hq
    obtain ⟨k1, k2, k3, k4, k5, k6, k7⟩ := h2 q hq
    obtain ⟨m1, m2, m3, m4, m5⟩ := k1
    refine ⟨⟨?_, m2, m3, ?_, ?_⟩, k2, k3, k4, ?_, k6, k7⟩
    · rw [e5]; split <;> omega
    · by_cases c : q = p
      · subst c; rw [putS_rows]; exact hr
      · rw [putS_rows' c h5p m1]; exact m4
    · intro i hi
      rw [e5] at hi
      rw [e6, e7, e9, ez]
      by_cases c : 6 * q + i = 6 * p + S.1 5 p
      · rw [if_pos c, if_pos c, if_pos c, if_pos c]; exact ⟨hk, hu9, h1u, ht, ht2, hz.1, hz.2⟩
      · rw [if_neg c, if_neg c, if_neg c, if_neg c]
        refine m5 i ?_
        split at hi
        · next z9 => subst z9; omega
        · exact hi
    · intro z9
      rw [e5]; split
      · omega
      · exact k5 z9
  · intro q hq h16
    have hq : S.1 1 0 ≤ q := hq
    obtain ⟨k1, k2, k3⟩ := h3 q hq h16
    exact ⟨by rw [e5, if_neg (by omega)]; exact k1, k2, k3⟩
  · intro i hi
    obtain ⟨k1, k2, k3, k4, k5⟩ := h5 i hi
    refine ⟨k1, k2, k3, k4, ?_⟩
    show S.1 23 i ≤ pRows (putS S p k u z t) (S.1 21 i)
    rw [putS_rows' (fun c => k3 (by rw [c]; exact hu)) h5p (h2 _ k2).1.1]
    exact k5
theorem oftN_in {t g : Nat} (ht : t ≤ 40) (hg : g ≤ 20) : 1 ≤ oftN t g ∧ oftN t g ≤ 80 := by
  have := Nat.mul_le_mul ht hg
  unfold oftN; split <;> omega
theorem clampF_in (w : Nat) : 1 ≤ clampF w ∧ clampF w ≤ 20 := by unfold clampF; split <;> (try split) <;> omega
/-- working out anew leaves the old pattern as it was -/
theorem anewN_at {S : kS} {p g : Nat} (hp : p < S.1 1 0) (h5 : S.1 5 p ≤ 6) (h50 : S.1 5 (S.1 1 0) = 0) : ∀ n, n ≤ S.1 5 p → (anewN S p g n).1 5 (S.1 1 0) = n ∧ (anewN S p g n).1 5 p = S.1 5 p ∧ (anewN S p g n).1 1 0 = S.1 1 0 + 1 ∧
    ∀ i, i < 6 → (anewN S p g n).1 6 (6 * p + i) = S.1 6 (6 * p + i) ∧ (anewN S p g n).1 7 (6 * p + i) = S.1 7 (6 * p + i) ∧ (anewN S p g n).2.1 (6 * p + i) = S.2.1 (6 * p + i) ∧ (anewN S p g n).1 9 (6 * p + i) = S.1 9 (6 * p + i) := by
  intro n
  induction n with
  | zero => intro _; exact ⟨h50, rfl, by simp [anewN, addS, st_1], fun i _ => ⟨rfl, rfl, rfl, rfl⟩⟩
  | succ n ih =>
    intro hn
    obtain ⟨a1, a2, a3, a4⟩ := ih (by omega)
    refine ⟨?_, ?_, ?_, ?_⟩
    · show (putS (anewN S p g n) (S.1 1 0) _ _ _ _).1 5 (S.1 1 0) = n + 1
      rw [putS_5, a1]
    · rw [← a2]; simp only [anewN, putS, st_1, stz_1]; simp; omega
    · rw [← a3]; simp [anewN, putS, st_1, stz_1]
    · intro i hi
      obtain ⟨b1, b2, b3, b4⟩ := a4 i hi
      rw [← b1, ← b2, ← b3, ← b4]
      have hne : 6 * p + i ≠ 6 * S.1 1 0 + n := by omega
      refine ⟨?_, ?_, ?_, ?_⟩ <;> simp [anewN, putS, st_1, stz_1, stz_2, st_2, a1, hne]
