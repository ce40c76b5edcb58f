/-! what a change of the state leaves of the site's world -/
theorem pOr_ext {S T : kS} {y z : kY} (hS : kInv S) (hT : kInv T) (hx : kExt S T) (hz : ∀ i, i < S.1 1 0 → yP z i = yP y i) {i : Nat} (hi : i < S.1 1 0) (h10 : T.1 10 i = S.1 10 i) : pOr T z i = pOr S y i := by
  unfold pOr
  rw [h10]
  by_cases c : S.1 10 i = 99
  · rw [kif_t c, kif_t c]
  · rw [kif_f c, kif_f c, pOrig_ext hS hT hx hi c, hz _ (pOrig_lt hi)]
theorem sT_ext {G : kG} {S T : kS} {y z : kY} {Lb Lp Ll Lj : List Nat} (hS : kInv S) (hT : kInv T) (hx : kExt S T) (hz : ∀ i, i < S.1 1 0 → yP z i = yP y i) (hzl : ∀ a, a < S.1 15 0 → yL z a = yL y a) (hzj : ∀ j, j < S.1 19 0 → yJ z j = yJ y j)
    (hb : ∀ k ∈ Lb, k < 4 ∧ nQ T k = nQ S k ∧ yB z k = yB y k ∧ yC z k = yC y k)
    (hp : ∀ i ∈ Lp, i < S.1 1 0 ∧ T.1 10 i = S.1 10 i ∧ T.1 2 i = S.1 2 i ∧ T.1 4 i = S.1 4 i ∧ T.1 3 i = S.1 3 i ∧ T.1 12 i = S.1 12 i ∧ T.1 13 i = S.1 13 i ∧ pQ T i = pQ S i)
    (hl : ∀ a ∈ Ll, a < S.1 15 0 ∧ T.1 16 a = S.1 16 a ∧ T.1 17 a = S.1 17 a ∧ T.1 18 a = S.1 18 a)
    (hj : ∀ j ∈ Lj, j < S.1 19 0 ∧ T.1 20 j = S.1 20 j ∧ T.1 21 j = S.1 21 j ∧ T.1 22 j = S.1 22 j ∧ T.1 23 j = S.1 23 j) :
    sT G T z Lb Lp Ll Lj = sT G S y Lb Lp Ll Lj := by
  obtain ⟨-, -, -, -, hs5, -⟩ := id hS
  refine sT_cong (fun k hk => ?_) (fun i hi => ?_) (fun a ha => ?_) (fun j hj' => ?_)
  · obtain ⟨k4, a1, a2, a3⟩ := hb k hk
    refine bkC_cong a1 a2 a3 (fun i hi => ?_)
    rcases (show k = 0 ∨ k = 1 ∨ k = 2 ∨ k = 3 by omega) with rfl | rfl | rfl | rfl
    · have hi : i < S.1 1 0 := hi
      show yP z i 0 = yP y i 0
      rw [hz i hi]
    · have hi : i < S.1 11 0 := hi
      show yP z (pSq T i) 0 = yP y (pSq S i) 0
      rw [pSq_ext hS hT hx hi, hz _ (pSq_spec hS hi).1]
    · exact hzl i hi
    · exact hzj i hi
  · obtain ⟨b1, b2, b3, b4, b5, b6, b7, b8⟩ := hp i hi
    exact patC_cong (hz i b1) b3 b4 b5 b6 b7 b8 (pOr_ext hS hT hx hz b1 b2)
  · obtain ⟨b1, b2, b3, b4⟩ := hl a ha
    exact lotC_cong (hzl a b1) b2 b3 b4
  · obtain ⟨b1, b2, b3, b4, b5⟩ := hj j hj'
    obtain ⟨-, c2, -, c4, -⟩ := hs5 j b1
    exact prjC_cong (hzj j b1) b2 b3 b4 b5 (by rw [hz _ c2]) (hzl _ c4)
theorem pQn_Y0 {S : kS} {i : Nat} : ∀ m r, sumN (fun k => S.1 9 (6 * i + k)) m ≤ r → (pQn S i m).2.2.2 r = 0 := by
  intro m
  induction m with
  | zero => intro r _; rfl
  | succ m ih =>
    intro r hr
    rw [sumN_s] at hr
    show dlY (pQn S i m).2.2.2 (S.1 6 (6 * i + m)) (S.1 7 (6 * i + m)) (S.2.1 (6 * i + m)) (pQn S i m).1.2.1 (pQn S i m).1.1 (S.1 9 (6 * i + m)) r = 0
    rw [dlY_at, pQn_r, if_neg (by omega)]
    exact ih r (by omega)
theorem pQ_Y2 {S : kS} {i : Nat} (h : okP S i) (r : Nat) : (pQ S i).2.2.2 r ≤ 120 := by
  rcases pQ_Y h r with q | q
  · exact q
  · rw [show (pQ S i).2.2.2 r = 0 from pQn_Y0 _ r q]; exact Nat.zero_le _
/-- rows knitted, as the state says it -/
theorem st_over (S : kS) (a j x d u v : Nat) : st (st (st (st S 18 a x) 23 j d) 18 a u) 23 j v = st (st S 18 a u) 23 j v := by
  have h : (st (st (st (st S 18 a x) 23 j d) 18 a u) 23 j v).1 = (st (st S 18 a u) 23 j v).1 := by
    funext k i
    simp only [st_1]
    by_cases h1 : k = 23 ∧ i = j
    · simp [h1]
    · by_cases h2 : k = 18 ∧ i = a
      · simp [h2]
      · simp [h1, h2]
  exact Prod.ext h rfl
theorem st_self (S : kS) (a j : Nat) : st (st S 18 a (S.1 18 a)) 23 j (S.1 23 j) = S := by
  have h : (st (st S 18 a (S.1 18 a)) 23 j (S.1 23 j)).1 = S.1 := by
    funext k i
    simp only [st_1]
    by_cases h1 : k = 23 ∧ i = j
    · rw [if_pos h1, h1.1, h1.2]
    · rw [if_neg h1]
      by_cases h2 : k = 18 ∧ i = a
      · rw [if_pos h2, h2.1, h2.2]
      · rw [if_neg h2]
  exact Prod.ext h rfl
theorem kn_ku {rc g : Nat} {ok : Prop} {Y : Nat → Nat} {j a : Nat} : ∀ (n : Nat) {S : kS}, kInv S → j < S.1 19 0 → S.1 22 j = a → pRows S (S.1 21 j) = rc → S.1 17 a = g → (S.1 16 a = S.1 20 j ↔ ok) → (∀ r, r < rc → Y r = pYn S (S.1 21 j) r) →
    knitN S j n = ((kuN rc g ok Y n (S.1 23 j) (S.1 18 a)).1, st (st S 18 a (kuN rc g ok Y n (S.1 23 j) (S.1 18 a)).2.2) 23 j (kuN rc g ok Y n (S.1 23 j) (S.1 18 a)).2.1) := by
  intro n
  induction n with
  | zero =>
    intro S hS hj ha hr hg ho hY
    show (0, S) = (0, st (st S 18 a (S.1 18 a)) 23 j (S.1 23 j))
    rw [st_self]
  | succ n ih =>
    intro S hS hj ha hr hg ho hY
    obtain ⟨q1, q2, q3, q4, q5⟩ := hS.2.2.2.2.1 j hj
    rw [hr] at q5
    rw [kuN_s]
    show kif (knitCan S j) ((knitN (knit1 S j) j n).1 + 1, (knitN (knit1 S j) j n).2) (0, S) = _
    have hnd : S.1 23 j < rc → rowNd S j = g * Y (S.1 23 j) := fun h => by unfold rowNd; rw [ha, hg, hY _ h]
    by_cases c : knitCan S j
    · obtain ⟨c1, c2, c3⟩ := id c
      rw [ha] at c1 c3
      rw [hr] at c2
      have hlt : S.1 23 j < rc := by omega
      have e := hnd hlt
      have hc : S.1 23 j < rc ∧ ok ∧ g * Y (S.1 23 j) ≤ S.1 18 a := ⟨hlt, ho.mp c1, by rw [← e]; exact c3⟩
      rw [kif_t c, kif_t hc]
      have k18 : (knit1 S j).1 18 a = S.1 18 a - g * Y (S.1 23 j) := by simp [knit1, st_1, ha, e]
      have k23 : (knit1 S j).1 23 j = S.1 23 j + 1 := by simp [knit1, st_1]
      have h := ih (S := knit1 S j) (kInv_knit1 hS hj c) hj ha hr hg ho hY
      rw [k18, k23] at h
      rw [h]
      refine Prod.ext rfl ?_
      show st (st (knit1 S j) 18 a _) 23 j _ = _
      unfold knit1
      rw [ha]
      exact st_over S a j _ _ _ _
    · have hc : ¬ (S.1 23 j < rc ∧ ok ∧ g * Y (S.1 23 j) ≤ S.1 18 a) := fun z => c ⟨by rw [ha]; exact ho.mpr z.2.1, by rw [hr]; omega, by rw [ha, hnd z.1]; exact z.2.2⟩
      rw [kif_f c, kif_f hc]
      show (0, S) = (0, st (st S 18 a (S.1 18 a)) 23 j (S.1 23 j))
      rw [st_self]
