/-! ORIGINALS AND THE ORDER OF PUBLISHING: what later states keep -/
theorem pAl_Q {S : kS} {a b : Nat} (ha : okP S a) (hb : okP S b) : pAlike S a b ↔ ((pQ S a).1.1 = (pQ S b).1.1 ∧ ∀ x, x < (pQ S a).1.1 * 40 → (pQ S a).2.2.1 x = (pQ S b).2.2.1 x) := by
  rw [pQ_r, pQ_r]
  constructor
  · rintro ⟨h1, h2⟩
    refine ⟨h1, fun x hx => ?_⟩
    have e : x = x / 40 * 40 + x % 40 := by have := Nat.div_add_mod x 40; omega
    have hm := Nat.mod_lt x (show 0 < 40 by decide)
    rw [e, (pQ_ok ha).2.1 _ _ hm (by omega), (pQ_ok hb).2.1 _ _ hm (by omega)]
    exact h2 _ (by omega) _ hm
  · rintro ⟨h1, h2⟩
    refine ⟨h1, fun r hr c hc => ?_⟩
    rw [← (pQ_ok ha).2.1 r c hc hr, ← (pQ_ok hb).2.1 r c hc (by omega)]
    exact h2 _ (by omega)
def kExt (S T : kS) : Prop := S.1 1 0 ≤ T.1 1 0 ∧ (∀ q, q < S.1 1 0 → S.1 10 q ≠ 99 → T.1 10 q = S.1 10 q ∧ pQ T q = pQ S q) ∧ (∀ q, q < T.1 1 0 → (S.1 1 0 ≤ q ∨ S.1 10 q = 99) → S.1 11 0 ≤ T.1 10 q)
theorem pAl_ext {S T : kS} (hS : kInv S) (hT : kInv T) (hx : kExt S T) {a b : Nat} (ha : a < S.1 1 0) (hb : b < S.1 1 0) (pa : S.1 10 a ≠ 99) (pb : S.1 10 b ≠ 99) : pAlike T a b ↔ pAlike S a b := by
  rw [pAl_Q (hS.2.1 a ha).1 (hS.2.1 b hb).1, pAl_Q (hT.2.1 a (Nat.lt_of_lt_of_le ha hx.1)).1 (hT.2.1 b (Nat.lt_of_lt_of_le hb hx.1)).1, (hx.2.1 a ha pa).2, (hx.2.1 b hb pb).2]
theorem pOrigN_pub {S : kS} (hS : kInv S) {p : Nat} (hp : p < S.1 1 0) (hu : S.1 10 p ≠ 99) : ∀ k, k ≤ S.1 1 0 → pOrigN S p k < S.1 1 0 ∧ S.1 10 (pOrigN S p k) ≠ 99 := by
  intro k
  induction k with
  | zero => intro _; exact ⟨hp, hu⟩
  | succ k ih =>
    intro hk
    obtain ⟨h1, h2⟩ := ih (by omega)
    show kif _ _ _ < _ ∧ S.1 10 (kif _ _ _) ≠ 99
    by_cases c : S.1 10 k < S.1 10 (pOrigN S p k) ∧ pAlike S k p
    · rw [kif_t c]
      have := kInv_od hS h1
      exact ⟨by omega, by omega⟩
    · rw [kif_f c]
      exact ⟨h1, h2⟩
theorem pOrig_pub {S : kS} (hS : kInv S) {p : Nat} (hp : p < S.1 1 0) (hu : S.1 10 p ≠ 99) : pOrig S p < S.1 1 0 ∧ S.1 10 (pOrig S p) ≠ 99 := pOrigN_pub hS hp hu _ (Nat.le_refl _)
theorem pOrig_lt {S : kS} {p : Nat} (hp : p < S.1 1 0) : pOrig S p < S.1 1 0 := pOrigN_lt hp _ (Nat.le_refl _)
theorem pOrig_ext {S T : kS} (hS : kInv S) (hT : kInv T) (hx : kExt S T) {p : Nat} (hp : p < S.1 1 0) (hu : S.1 10 p ≠ 99) : pOrig T p = pOrig S p := by
  have hord : ∀ q, q < S.1 1 0 → S.1 10 q ≠ 99 → S.1 10 q < S.1 11 0 := fun q hq hn => by
    have := (hS.2.1 q hq).2.2.2.1
    omega
  have hno : S.1 11 0 ≤ 16 := hS.1.2.2.2
  have key : ∀ k, k ≤ S.1 1 0 → pOrigN T p k = pOrigN S p k := by
    intro k
    induction k with
    | zero => intro _; rfl
    | succ k ih =>
      intro hk
      have e := ih (by omega)
      obtain ⟨h1, h2⟩ := pOrigN_pub hS hp hu k (by omega)
      have h3 := hord _ h1 h2
      have h4 := (hx.2.1 _ h1 h2).1
      show kif _ _ _ = kif _ _ _
      rw [e, h4]
      by_cases u : S.1 10 k = 99
      · have h5 := hx.2.2 k (by have := hx.1; omega) (Or.inr u)
        rw [kif_f (fun z => by have := z.1; omega), kif_f (fun z => by have := z.1; omega)]
      · have h5 := (hx.2.1 k (by omega) u).1
        have h6 := pAl_ext hS hT hx (show k < S.1 1 0 by omega) hp u hu
        rw [h5]
        by_cases c : S.1 10 k < S.1 10 (pOrigN S p k) ∧ pAlike S k p
        · rw [kif_t c, kif_t ⟨c.1, h6.mpr c.2⟩]
        · rw [kif_f c, kif_f (fun z => c ⟨z.1, h6.mp z.2⟩)]
  have key2 : ∀ k, S.1 1 0 + k ≤ T.1 1 0 → pOrigN T p (S.1 1 0 + k) = pOrigN S p (S.1 1 0) := by
    intro k
    induction k with
    | zero => intro _; exact key _ (Nat.le_refl _)
    | succ k ih =>
      intro hk
      have e := ih (by omega)
      obtain ⟨h1, h2⟩ := pOrigN_pub hS hp hu (S.1 1 0) (Nat.le_refl _)
      have h3 := hord _ h1 h2
      have h4 := (hx.2.1 _ h1 h2).1
      have h5 := hx.2.2 (S.1 1 0 + k) (by omega) (Or.inl (by omega))
      show kif (T.1 10 (S.1 1 0 + k) < T.1 10 (pOrigN T p (S.1 1 0 + k)) ∧ pAlike T (S.1 1 0 + k) p) (S.1 1 0 + k) (pOrigN T p (S.1 1 0 + k)) = _
      rw [e, h4, kif_f (fun z => by have := z.1; omega)]
  have := key2 (T.1 1 0 - S.1 1 0) (by have := hx.1; omega)
  rw [show S.1 1 0 + (T.1 1 0 - S.1 1 0) = T.1 1 0 from by have := hx.1; omega] at this
  exact this
theorem pSq_ext {S T : kS} (hS : kInv S) (hT : kInv T) (hx : kExt S T) {j : Nat} (hj : j < S.1 11 0) : pSq T j = pSq S j := by
  obtain ⟨h1, h2⟩ := pSq_spec hS hj
  have hno : S.1 11 0 ≤ 16 := hS.1.2.2.2
  have h3 := (hx.2.1 _ h1 (by omega)).1
  have h4 := pSq_of hT (p := pSq S j) (by have := hx.1; omega) (by omega)
  rw [h3, h2] at h4
  exact h4
/-- which one the original is: none alike was published earlier -/
theorem pOrigN_min {S : kS} {p : Nat} : ∀ n, S.1 10 (pOrigN S p n) ≤ S.1 10 p ∧ (pOrigN S p n = p ∨ (pOrigN S p n < n ∧ pAlike S (pOrigN S p n) p)) ∧ ∀ k, k < n → pAlike S k p → S.1 10 (pOrigN S p n) ≤ S.1 10 k := by
  intro n
  induction n with
  | zero => exact ⟨Nat.le_refl _, Or.inl rfl, fun k hk => absurd hk (Nat.not_lt_zero _)⟩
  | succ n ih =>
    obtain ⟨h1, h2, h3⟩ := ih
    have hd : pOrigN S p (n + 1) = kif (S.1 10 n < S.1 10 (pOrigN S p n) ∧ pAlike S n p) n (pOrigN S p n) := rfl
    rw [hd]
    by_cases c : S.1 10 n < S.1 10 (pOrigN S p n) ∧ pAlike S n p
    · rw [kif_t c]
      refine ⟨by omega, Or.inr ⟨Nat.lt_succ_self _, c.2⟩, fun k hk ha => ?_⟩
      rcases Nat.lt_or_ge k n with q | q
      · have := h3 k q ha; omega
      · have : k = n := by omega
        subst this; exact Nat.le_refl _
    · rw [kif_f c]
      refine ⟨h1, h2.imp_right (fun z => ⟨by omega, z.2⟩), fun k hk ha => ?_⟩
      rcases Nat.lt_or_ge k n with q | q
      · exact h3 k q ha
      · have : k = n := by omega
        subst this
        rcases Nat.lt_or_ge (S.1 10 k) (S.1 10 (pOrigN S p k)) with w | w
        · exact absurd ⟨w, ha⟩ c
        · exact w
theorem pubS_al (S : kS) (p a b : Nat) : pAlike (pubS S p) a b ↔ pAlike S a b := Iff.rfl
theorem pub_first {S : kS} (hS : kInv S) {p j : Nat} (hp : p < S.1 1 0) (hu : S.1 10 p = 99) (hl : 0 < S.1 5 p) (hj : j < S.1 11 0) (hn : ∀ i, i < j → ¬ pAlike S (pSq S i) p) (ha : pAlike S (pSq S j) p) : pOrig (pubS S p) p = pSq S j := by
  obtain ⟨s1, s2⟩ := pSq_spec hS hj
  have hno : S.1 11 0 ≤ 16 := hS.1.2.2.2
  obtain ⟨h1, h2, h3⟩ := pOrigN_min (S := pubS S p) (p := p) (S.1 1 0)
  have hO : pOrig (pubS S p) p = pOrigN (pubS S p) p (S.1 1 0) := rfl
  rw [hO]
  have hne : pSq S j ≠ p := fun z => by rw [z] at s2; omega
  have h4 := h3 (pSq S j) s1 ha
  rw [pubS_10, pubS_10, if_neg hne, s2] at h4
  by_cases c : pOrigN (pubS S p) p (S.1 1 0) = p
  · rw [if_pos c] at h4; omega
  · rw [if_neg c] at h4
    obtain ⟨h5, h6⟩ := h2.resolve_left c
    have h7 := pSq_of hS h5 (by omega)
    by_cases d : S.1 10 (pOrigN (pubS S p) p (S.1 1 0)) < j
    · exact absurd (by rw [h7]; exact h6) (hn _ d)
    · have : S.1 10 (pOrigN (pubS S p) p (S.1 1 0)) = j := by omega
      rw [this] at h7
      exact h7.symm
theorem pub_own {S : kS} (hS : kInv S) {p : Nat} (hp : p < S.1 1 0) (hn : ∀ i, i < S.1 11 0 → ¬ pAlike S (pSq S i) p) : pOrig (pubS S p) p = p := by
  have hno : S.1 11 0 ≤ 16 := hS.1.2.2.2
  obtain ⟨h1, h2, h3⟩ := pOrigN_min (S := pubS S p) (p := p) (S.1 1 0)
  have hO : pOrig (pubS S p) p = pOrigN (pubS S p) p (S.1 1 0) := rfl
  rw [hO]
  by_cases c : pOrigN (pubS S p) p (S.1 1 0) = p
  · exact c
  · obtain ⟨h5, h6⟩ := h2.resolve_left c
    rw [pubS_10, pubS_10, if_neg c, if_pos rfl] at h1
    have h8 := (hS.2.1 _ h5).2.2.2.1
    have h7 := pSq_of hS h5 (by omega)
    exact absurd (by rw [h7]; exact h6) (hn (S.1 10 (pOrigN (pubS S p) p (S.1 1 0))) (by omega))
/-! .. each change of the state, seen so -/
theorem ext_same {S T : kS} (h : sameC S T) (h11 : T.1 11 = S.1 11) (hS : kInv S) : kExt S T := by
  have hno : S.1 11 0 ≤ 16 := hS.1.2.2.2
  obtain ⟨h1, h3, h5, h6, h7, h9, h10, hz⟩ := h
  refine ⟨by rw [h1]; exact Nat.le_refl _, fun q hq hn => ⟨by rw [h10], ?_⟩, fun q hq hn => ?_⟩
  · unfold pQ
    rw [h5]
    exact pQn_cong (by rw [h3]) (fun k hk => by rw [h6, h7, hz, h9]; exact ⟨rfl, rfl, rfl, rfl⟩)
  · rw [h1] at hq
    rw [h10]
    rcases hn with z | z <;> omega
theorem pQ_same {S T : kS} (h : sameC S T) (q : Nat) : pQ T q = pQ S q := by
  obtain ⟨h1, h3, h5, h6, h7, h9, h10, hz⟩ := h
  unfold pQ
  rw [h5]
  exact pQn_cong (by rw [h3]) (fun k hk => by rw [h6, h7, hz, h9]; exact ⟨rfl, rfl, rfl, rfl⟩)
theorem pQ_addS {S : kS} {o w c q : Nat} (hq : q ≠ S.1 1 0) : pQ (addS S o w c) q = pQ S q := by
  have h5 : (addS S o w c).1 5 q = S.1 5 q := by simp [addS, st_1]
  unfold pQ
  rw [h5]
  exact pQn_cong (by simp [addS, st_1, hq]) (fun k hk => by simp [addS, st_1, st_2])
theorem ext_addS {S : kS} {o w c : Nat} (hS : kInv S) : kExt S (addS S o w c) := by
  have hno : S.1 11 0 ≤ 16 := hS.1.2.2.2
  have e10 : ∀ p, (addS S o w c).1 10 p = if p = S.1 1 0 then 99 else S.1 10 p := fun p => by simp [addS, st_1]
  have en : (addS S o w c).1 1 0 = S.1 1 0 + 1 := by simp [addS, st_1]
  refine ⟨by omega, fun q hq hn => ⟨by rw [e10, if_neg (by omega)], pQ_addS (by omega)⟩, fun q hq hn => ?_⟩
  rw [en] at hq
  rw [e10]
  split
  · omega
  · rcases hn with z | z <;> omega
theorem pQ_putS {S : kS} {p k u t q : Nat} {z : Int} (hq : q ≠ p) (h5p : S.1 5 p < 6) (h5 : S.1 5 q ≤ 6) : pQ (putS S p k u z t) q = pQ S q := by
  have e5 : (putS S p k u z t).1 5 q = S.1 5 q := by simp [putS, st_1, stz_1, hq]
  unfold pQ
  rw [e5]
  refine pQn_cong (by simp [putS, st_1, stz_1]) (fun i hi => ?_)
  have hne : 6 * q + i ≠ 6 * p + S.1 5 p := by omega
  refine ⟨?_, ?_, ?_, ?_⟩
  · simp [putS, st_1, stz_1, hne]
  · simp [putS, st_1, stz_1, hne]
  · show (if 6 * q + i = 6 * p + S.1 5 p then z else S.2.1 (6 * q + i)) = _
    rw [if_neg hne]
  · simp [putS, st_1, stz_1, hne]
theorem pQ_put {S : kS} {p k u t : Nat} {z : Int} (h5p : S.1 5 p < 6) : pQ (putS S p k u z t) p = adP (pQ S p) k u z t := by
  have e5 : (putS S p k u z t).1 5 p = S.1 5 p + 1 := putS_5 S p k u z t
  have e6 : (putS S p k u z t).1 6 (6 * p + S.1 5 p) = k := by simp [putS, st_1, stz_1]
  have e7 : (putS S p k u z t).1 7 (6 * p + S.1 5 p) = u := by simp [putS, st_1, stz_1]
  have e9 : (putS S p k u z t).1 9 (6 * p + S.1 5 p) = t := by simp [putS, st_1, stz_1]
  have ez : (putS S p k u z t).2.1 (6 * p + S.1 5 p) = z := if_pos rfl
  unfold pQ
  rw [e5]
  show adP (pQn (putS S p k u z t) p (S.1 5 p)) _ _ _ _ = _
  rw [e6, e7, e9, ez, pQn_cong (S := S) (by simp [putS, st_1, stz_1]) (fun i hi => ?_)]
  have hne : 6 * p + i ≠ 6 * p + S.1 5 p := by omega
  refine ⟨?_, ?_, ?_, ?_⟩
  · simp [putS, st_1, stz_1]; omega
  · simp [putS, st_1, stz_1]; omega
  · show (if 6 * p + i = 6 * p + S.1 5 p then z else S.2.1 (6 * p + i)) = _
    rw [if_neg hne]
  · simp [putS, st_1, stz_1]; omega
theorem ext_putS {S : kS} {p k u t : Nat} {z : Int} (hS : kInv S) (hu : S.1 10 p = 99) (h5p : S.1 5 p < 6) : kExt S (putS S p k u z t) := by
  have hno : S.1 11 0 ≤ 16 := hS.1.2.2.2
  have e10 : (putS S p k u z t).1 10 = S.1 10 := by funext q; simp [putS, st_1, stz_1]
  have e1 : (putS S p k u z t).1 1 0 = S.1 1 0 := by simp [putS, st_1, stz_1]
  refine ⟨by rw [e1]; exact Nat.le_refl _, fun q hq hn => ⟨by rw [e10], pQ_putS (fun c => hn (by rw [c]; exact hu)) h5p (hS.2.1 q hq).1.1⟩, fun q hq hn => ?_⟩
  rw [e1] at hq
  rw [e10]
  rcases hn with w | w <;> omega
theorem pubS_Q (S : kS) (p q : Nat) : pQ (pubS S p) q = pQ S q := by
  have e5 : (pubS S p).1 5 = S.1 5 := by funext a; simp [pubS, st_1]
  unfold pQ
  rw [e5]
  exact pQn_cong (by simp [pubS, st_1]) (fun k _ => by simp [pubS, st_1, st_2])
theorem ext_pubS {S : kS} {p : Nat} (hS : kInv S) (hu : S.1 10 p = 99) : kExt S (pubS S p) := by
  have hno : S.1 11 0 ≤ 16 := hS.1.2.2.2
  refine ⟨Nat.le_refl _, fun q hq hn => ⟨by rw [pubS_10, if_neg (fun c => hn (by rw [c]; exact hu))], pubS_Q S p q⟩, fun q hq hn => ?_⟩
  have hq : q < S.1 1 0 := hq
  rw [pubS_10]
  split
  · exact Nat.le_refl _
  · rcases hn with w | w <;> omega
