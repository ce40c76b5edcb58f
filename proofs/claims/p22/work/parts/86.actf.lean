/-! WHAT AN ACT DOES to the bounds, the money, the numbers of things, the lots' persons -/
def mny (m : Nat → Int32) : Int32 := m 0 + m 1 + m 2 + m 3 + m 4
theorem i_sac (a b : Int32) : a - b + b = a := by
  apply Int32.toBitVec.inj
  show a.toBitVec - b.toBitVec + b.toBitVec = a.toBitVec
  exact BitVec.sub_add_cancel _ _
theorem i_arc (a b c : Int32) : a + b + c = a + c + b := by
  apply Int32.toBitVec.inj
  show a.toBitVec + b.toBitVec + c.toBitVec = a.toBitVec + c.toBitVec + b.toBitVec
  rw [BitVec.add_assoc, BitVec.add_comm b.toBitVec, ← BitVec.add_assoc]
theorem i_aas (a b c : Int32) : a + (b + c) = a + b + c := by
  apply Int32.toBitVec.inj
  show a.toBitVec + (b.toBitVec + c.toBitVec) = a.toBitVec + b.toBitVec + c.toBitVec
  rw [BitVec.add_assoc]
theorem mny_up {m : Nat → Int32} {j : Nat} {v : Int32} (hj : j < 5) : mny (va_up m j (m j + v)) = mny m + v := by
  have h : j = 0 ∨ j = 1 ∨ j = 2 ∨ j = 3 ∨ j = 4 := by omega
  unfold mny
  rcases h with rfl | rfl | rfl | rfl | rfl
  · show m 0 + v + m 1 + m 2 + m 3 + m 4 = m 0 + m 1 + m 2 + m 3 + m 4 + v
    rw [i_arc (m 0) v, i_arc _ v, i_arc _ v, i_arc _ v]
  · show m 0 + (m 1 + v) + m 2 + m 3 + m 4 = m 0 + m 1 + m 2 + m 3 + m 4 + v
    rw [i_aas, i_arc _ v, i_arc _ v, i_arc _ v]
  · show m 0 + m 1 + (m 2 + v) + m 3 + m 4 = m 0 + m 1 + m 2 + m 3 + m 4 + v
    rw [i_aas, i_arc _ v, i_arc _ v]
  · show m 0 + m 1 + m 2 + (m 3 + v) + m 4 = m 0 + m 1 + m 2 + m 3 + m 4 + v
    rw [i_aas, i_arc _ v]
  · show m 0 + m 1 + m 2 + m 3 + (m 4 + v) = m 0 + m 1 + m 2 + m 3 + m 4 + v
    rw [i_aas]
theorem mny_dn {m : Nat → Int32} {j : Nat} {v : Int32} (hj : j < 5) : mny (va_up m j (m j - v)) + v = mny m := by
  have h := mny_up (m := va_up m j (m j - v)) (v := v) hj
  have e : va_up (va_up m j (m j - v)) j (va_up m j (m j - v) j + v) = m := by
    funext k
    unfold va_up
    by_cases c : k = j
    · subst c; rw [if_pos rfl, if_pos rfl, i_sac]
    · rw [if_neg c, if_neg c]
  rw [e] at h
  exact h.symm
theorem mny_move {m : Nat → Int32} {i j : Nat} {v : Int32} (hi : i < 5) (hj : j < 5) : mny (va_up (va_up m i (m i - v)) j (va_up m i (m i - v) j + v)) = mny m := by
  rw [mny_up hj, mny_dn hi]
theorem knitN_keep {j : Nat} : ∀ (n : Nat) (S : kS), (∀ k, k ≠ 18 → k ≠ 23 → (knitN S j n).2.1 k = S.1 k) ∧ (knitN S j n).2.2 = S.2 := by
  intro n
  induction n with
  | zero => intro S; exact ⟨fun _ _ _ => rfl, rfl⟩
  | succ n ih =>
    intro S
    unfold knitN
    by_cases c : knitCan S j
    · rw [kif_t c]
      obtain ⟨h1, h2⟩ := ih (knit1 S j)
      refine ⟨fun k h18 h23 => ?_, h2⟩
      show (knitN (knit1 S j) j n).2.1 k = S.1 k
      rw [h1 k h18 h23]
      show (st (st S 18 _ _) 23 _ _).1 k = S.1 k
      rw [st_ne _ _ _ h23, st_ne _ _ _ h18]
    · rw [kif_f c]; exact ⟨fun _ _ _ => rfl, rfl⟩
def k3 (x : Nat) : Prop := x % 32 < 3 ∨ x % 32 = 9
/-- the act's answer z and state T -/
def actF (S : kS) (x : Nat) (z : Int32) (T : kS) : Prop :=
  kInv T ∧ mny T.2.2 = 0 ∧
  (k3 x → ¬ z < 0 → T.1 1 0 = S.1 1 0 + 1) ∧ (¬ (k3 x ∧ ¬ z < 0) → T.1 1 0 = S.1 1 0) ∧
  ((19 < x % 32 ∧ x % 32 < 23) → ¬ z < 0 → T.1 15 0 = S.1 15 0 + 1) ∧ (¬ ((19 < x % 32 ∧ x % 32 < 23) ∧ ¬ z < 0) → T.1 15 0 = S.1 15 0) ∧
  ((23 < x % 32 ∧ x % 32 < 27) → ¬ z < 0 → T.1 19 0 = S.1 19 0 + 1) ∧ (¬ ((23 < x % 32 ∧ x % 32 < 27) ∧ ¬ z < 0) → T.1 19 0 = S.1 19 0) ∧
  ((19 < x % 32 ∧ x % 32 < 23) → ¬ z < 0 → S.1 15 0 < 20 ∧ ∀ a, T.1 16 a = if a = S.1 15 0 then x / 32 % 5 else S.1 16 a) ∧
  (x % 32 = 23 → ¬ z < 0 → 0 < S.1 15 0 ∧ z = nI (S.1 16 (x / 32 % S.1 15 0)) ∧ ∀ a, T.1 16 a = if a = x / 32 % S.1 15 0 then S.1 16 (x / 32 / 7 % S.1 15 0) else if a = x / 32 / 7 % S.1 15 0 then S.1 16 (x / 32 % S.1 15 0) else S.1 16 a) ∧
  (¬ ((19 < x % 32 ∧ x % 32 < 24) ∧ ¬ z < 0) → ∀ a, T.1 16 a = S.1 16 a)
theorem actF_no {S : kS} {x : Nat} {z : Int32} (hI : kInv S) (hm : mny S.2.2 = 0) (hz : z < 0) : actF S x z S :=
  ⟨hI, hm, fun _ h => absurd hz h, fun _ => rfl, fun _ h => absurd hz h, fun _ => rfl, fun _ h => absurd hz h, fun _ => rfl, fun _ h => absurd hz h, fun _ h => absurd hz h, fun _ _ => rfl⟩
/-- a call that makes nothing and moves no lot -/
theorem actF_keep {S T : kS} {x : Nat} {z : Int32} (hI : kInv T) (hm : mny T.2.2 = 0) (h1 : T.1 1 0 = S.1 1 0) (h15 : T.1 15 0 = S.1 15 0) (h19 : T.1 19 0 = S.1 19 0) (h16 : ∀ a, T.1 16 a = S.1 16 a) (hx : ¬ k3 x ∧ ¬ (19 < x % 32 ∧ x % 32 < 27)) : actF S x z T :=
  ⟨hI, hm, fun h => absurd h hx.1, fun _ => h1, fun h => absurd ⟨h.1, by omega⟩ hx.2, fun _ => h15, fun h => absurd ⟨by omega, h.2⟩ hx.2, fun _ => h19, fun h => absurd ⟨h.1, by omega⟩ hx.2, fun h => absurd ⟨by omega, by omega⟩ hx.2, fun _ => h16⟩
theorem c1_lt : (-2000000001 : Int32) < 0 := by decide
theorem c2_lt : (-2000000002 : Int32) < 0 := by decide
theorem c3_lt : (-2000000003 : Int32) < 0 := by decide
section ACTS
variable {S : kS} {h : Nat → Nat} {x : Nat}
theorem af_a0 (hI : kInv S) (hm : mny S.2.2 = 0) (hk : 0 ≤ x % 32 ∧ x % 32 < 3) : actF S x (vIAS (a0 S x)) (a0 S x).2.2 := by
  have hk2 := kI_Begin hI (nI (x / 32 % 5)) (nI (1 + x / 32 / 5 % 3)) (nI (x / 32 / 15 % 3 * 50))
  have h1 : isIn (nI (x / 32 % 5)) 5 := isIn_nI (by omega)
  have h2 : inI (nI (1 + x / 32 / 5 % 3)) (nI 1) (nI 20) ∧ inI (nI (x / 32 / 15 % 3 * 50)) (nI 0) (nI 1000) := ⟨nI_rng (by omega) (by omega) (by decide), nI_rng (by omega) (by omega) (by decide)⟩
  unfold a0
  by_cases c : S.1 1 0 = 16
  · rw [rf_begin3 h1 h2 c]; exact actF_no hI hm c3_lt
  · have e : opBegin S (nI (x / 32 % 5)) (nI (1 + x / 32 / 5 % 3)) (nI (x / 32 / 15 % 3 * 50)) = (0, nI (S.1 1 0), addS S (tn (nI (x / 32 % 5))) (tn (nI (1 + x / 32 / 5 % 3))) (tn (nI (x / 32 / 15 % 3 * 50)))) := by
      unfold opBegin; rw [kif_f (not_not_intro h1), kif_f (not_not_intro h2), kif_f c]
    rw [e] at hk2 ⊢
    refine ⟨hk2, hm, fun _ _ => by simp [addS, st_1], fun q => ?_, fun q => absurd q.1 (by omega), fun _ => rfl, fun q => absurd q.1 (by omega), fun _ => rfl, fun q => absurd q.1 (by omega), fun q => absurd q (by omega), fun _ _ => rfl⟩
    exact absurd ⟨Or.inl hk.2, nI_pos (by have := hI.1.1; omega)⟩ q
theorem af_a3 (hI : kInv S) (hm : mny S.2.2 = 0) (hk : 3 ≤ x % 32 ∧ x % 32 < 9) : actF S x (vIAS (a3 S x)) (a3 S x).2.2 := by
  unfold a3
  generalize nI (aPa S x) = p
  generalize nI (x / 32 % 3) = k
  generalize nI (x / 32 / 3 % 2 + (if x / 32 % 3 = 0 then 1 else 0)) = u
  generalize (if 0 < x / 32 / 6 % 4 then nI 0 else zI (((x / 32 / 24 % 7 : Nat) : Int) - ((3 : Nat) : Int))) = z
  generalize nI (1 + x / 32 / 11 % (if x / 32 % 5 = 0 then 20 else 2)) = t
  have hk2 := kI_Line hI p k u z t
  have hx : ¬ k3 x ∧ ¬ (19 < x % 32 ∧ x % 32 < 27) := ⟨fun q => by unfold k3 at q; omega, by omega⟩
  by_cases c1 : isIn p (S.1 1 0)
  · by_cases c2 : lineArgs k u z t
    · by_cases c3 : lineCan S (tn p) (tn t)
      · have e : opLine S p k u z t = (0, nI (pRows (putS S (tn p) (tn k) (tn u) (tz z) (tn t)) (tn p)), putS S (tn p) (tn k) (tn u) (tz z) (tn t)) := by
          unfold opLine; rw [kif_f (not_not_intro c1), kif_f (not_not_intro c2), kif_f (not_not_intro c3)]
        rw [e] at hk2 ⊢
        have hp := fun q (h5 : q ≠ 5) (h6 : q ≠ 6) (h7 : q ≠ 7) (h9 : q ≠ 9) => put_keep S (tn p) (tn k) (tn u) (tz z) (tn t) h5 h6 h7 h9
        exact actF_keep hk2 hm (by rw [hp 1 (by decide) (by decide) (by decide) (by decide)]) (by rw [hp 15 (by decide) (by decide) (by decide) (by decide)]) (by rw [hp 19 (by decide) (by decide) (by decide) (by decide)]) (fun a => by rw [hp 16 (by decide) (by decide) (by decide) (by decide)]) hx
      · rw [rf_line3 c1 c2 c3]; exact actF_no hI hm c3_lt
    · rw [rf_line2 c1 c2]; exact actF_no hI hm c2_lt
  · rw [rf_line1 c1]; exact actF_no hI hm c1_lt
theorem af_a9 (hI : kInv S) (hm : mny S.2.2 = 0) (hk : 9 ≤ x % 32 ∧ x % 32 < 10) : actF S x (vIAS (a9 S x)) (a9 S x).2.2 := by
  unfold a9
  generalize nI (aPa S x) = p
  generalize nI (5 + x / 32 / 11 % 16) = g
  have hk2 := kI_Anew hI p g
  by_cases c1 : isIn p (S.1 1 0)
  · by_cases c2 : inI g (nI 5) (nI 20)
    · by_cases c3 : anewCan S (tn p) (tn g)
      · have e : opAnew S p g = (0, nI (S.1 1 0), anewN S (tn p) (tn g) (S.1 5 (tn p))) := by
          unfold opAnew; rw [kif_f (not_not_intro c1), kif_f (not_not_intro c2), kif_f (not_not_intro c3)]
        rw [e] at hk2 ⊢
        obtain ⟨h1, h2⟩ := anew_keep (S := S) (p := tn p) (g := tn g) (S.1 5 (tn p))
        have e1 : (anewN S (tn p) (tn g) (S.1 5 (tn p))).1 1 0 = S.1 1 0 + 1 := by rw [h1 1 (by decide) (by decide) (by decide) (by decide)]; simp [anewN, addS, st_1]
        have e15 : (anewN S (tn p) (tn g) (S.1 5 (tn p))).1 15 0 = S.1 15 0 := by rw [h1 15 (by decide) (by decide) (by decide) (by decide)]; rfl
        have e19 : (anewN S (tn p) (tn g) (S.1 5 (tn p))).1 19 0 = S.1 19 0 := by rw [h1 19 (by decide) (by decide) (by decide) (by decide)]; rfl
        refine ⟨hk2, ?_, fun _ _ => e1, fun q => ?_, fun q => absurd q.1 (by omega), fun _ => e15, fun q => absurd q.1 (by omega), fun _ => e19, fun q => absurd q.1 (by omega), fun q => absurd q (by omega), fun _ a => ?_⟩
        · show mny (anewN S (tn p) (tn g) (S.1 5 (tn p))).2.2 = 0
          rw [h2]; exact hm
        · exact absurd ⟨Or.inr (by omega), nI_pos (by have := hI.1.1; omega)⟩ q
        · show (anewN S (tn p) (tn g) (S.1 5 (tn p))).1 16 a = S.1 16 a
          rw [h1 16 (by decide) (by decide) (by decide) (by decide)]; rfl
      · rw [rf_anew3 c1 c2 c3]; exact actF_no hI hm c3_lt
    · rw [rf_anew2 c1 c2]; exact actF_no hI hm c2_lt
  · rw [rf_anew1 c1]; exact actF_no hI hm c1_lt
theorem af_a10 (hI : kInv S) (hm : mny S.2.2 = 0) (hk : 10 ≤ x % 32 ∧ x % 32 < 14) : actF S x (vIS (a10 S x)) (a10 S x).2.2 := by
  unfold a10
  generalize nI (aPa S x) = p
  have hk2 := kI_Publish hI p
  have hx : ¬ k3 x ∧ ¬ (19 < x % 32 ∧ x % 32 < 27) := ⟨fun q => by unfold k3 at q; omega, by omega⟩
  by_cases c1 : isIn p (S.1 1 0)
  · by_cases c2 : S.1 10 (tn p) = 99 ∧ 0 < S.1 5 (tn p)
    · have e : opPublish S p = (0, nI (pOrig (pubS S (tn p)) (tn p)), pubS S (tn p)) := by
        unfold opPublish; rw [kif_f (not_not_intro c1), kif_f (not_not_intro c2)]
      rw [e] at hk2 ⊢
      exact actF_keep hk2 hm (by simp [pubS, st_1]) (by simp [pubS, st_1]) (by simp [pubS, st_1]) (fun a => by simp [pubS, st_1]) hx
    · rw [rf_publish2 c1 c2]; exact actF_no hI hm c3_lt
  · rw [rf_publish1 c1]; exact actF_no hI hm c1_lt
theorem af_a14 (hI : kInv S) (hm : mny S.2.2 = 0) (hk : 14 ≤ x % 32 ∧ x % 32 < 18) : actF S x (vIS (a14 S x)) (a14 S x).2.2 := by
  unfold a14
  generalize nI (aPa S x) = p
  generalize nI (x / 32 % 5) = j
  have hk2 := kI_Buy hI p j
  have hx : ¬ k3 x ∧ ¬ (19 < x % 32 ∧ x % 32 < 27) := ⟨fun q => by unfold k3 at q; omega, by omega⟩
  by_cases c1 : isIn p (S.1 1 0) ∧ isIn j 5
  · by_cases c2 : buyCan S (tn p) (tn j)
    · have e : opBuy S p j = (0, (buyS S (tn p) (tn j)).2.2 (S.1 2 (tn p)), buyS S (tn p) (tn j)) := by
        unfold opBuy; rw [kif_f (not_not_intro c1), kif_f (not_not_intro c2)]
      rw [e] at hk2 ⊢
      refine actF_keep hk2 ?_ (by simp [buyS, stm_1, st_1]) (by simp [buyS, stm_1, st_1]) (by simp [buyS, stm_1, st_1]) (fun a => by simp [buyS, stm_1, st_1]) hx
      obtain ⟨⟨p0, hp0, rfl⟩, ⟨j0, hj0, rfl⟩⟩ := c1
      have hn := hI.1.1
      have ep : tn (nI p0) = p0 := tn_nI (by omega)
      have ej : tn (nI j0) = j0 := tn_nI (by omega)
      rw [ep, ej]
      rw [← hm]
      exact mny_move (m := S.2.2) (v := nI (S.1 4 p0)) hj0 (hI.2.1 p0 hp0).2.1
    · rw [rf_buy2 c1 c2]; exact actF_no hI hm c3_lt
  · rw [rf_buy1 c1]; exact actF_no hI hm c1_lt
theorem af_a18 (hI : kInv S) (hm : mny S.2.2 = 0) (hk : 18 ≤ x % 32 ∧ x % 32 < 20) : actF S x (vIS (a18 S x)) (a18 S x).2.2 := by
  unfold a18
  generalize nI (aPa S x) = p
  have hk2 := kI_Rule hI p
  have hx : ¬ k3 x ∧ ¬ (19 < x % 32 ∧ x % 32 < 27) := ⟨fun q => by unfold k3 at q; omega, by omega⟩
  by_cases c1 : isIn p (S.1 1 0)
  · by_cases c2 : ruleCan S (tn p)
    · have e : opRule S p = (0, nI (took S (tn p)), ruleS S (tn p)) := by
        unfold opRule; rw [kif_f (not_not_intro c1), kif_f (not_not_intro c2)]
      rw [e] at hk2 ⊢
      refine actF_keep hk2 ?_ (by simp [ruleS, stm_1, st_1]) (by simp [ruleS, stm_1, st_1]) (by simp [ruleS, stm_1, st_1]) (fun a => by simp [ruleS, stm_1, st_1]) hx
      obtain ⟨p0, hp0, rfl⟩ := c1
      have hn := hI.1.1
      have ep : tn (nI p0) = p0 := tn_nI (by omega)
      rw [ep] at c2 ⊢
      rw [← hm]
      exact mny_move (m := S.2.2) (v := nI (took S p0)) (hI.2.1 p0 hp0).2.1 (hI.2.1 _ (pOrig_lt hp0)).2.1
    · rw [rf_rule2 c1 c2]; exact actF_no hI hm c3_lt
  · rw [rf_rule1 c1]; exact actF_no hI hm c1_lt
theorem af_a20 (hI : kInv S) (hm : mny S.2.2 = 0) (hk : 20 ≤ x % 32 ∧ x % 32 < 23) : actF S x (vIAS (a20 S x)) (a20 S x).2.2 := by
  unfold a20
  generalize nI (5 + x / 32 / 5 % 16) = g
  generalize nI (1 + x / 32 / 80 % (if x / 32 % 3 = 0 then 3000 else 200)) = y
  have hk2 := kI_Lot hI (nI (x / 32 % 5)) g y
  have c1 : isIn (nI (x / 32 % 5)) 5 := isIn_nI (by omega)
  by_cases c2 : inI g (nI 5) (nI 20) ∧ inI y (nI 1) (nI 100000)
  · by_cases c3 : S.1 15 0 = 20
    · rw [rf_lot3 c1 c2 c3]; exact actF_no hI hm c3_lt
    · have e : opLot S (nI (x / 32 % 5)) g y = (0, nI (S.1 15 0), lotS S (tn (nI (x / 32 % 5))) (tn g) (tn y)) := by
        unfold opLot; rw [kif_f (not_not_intro c1), kif_f (not_not_intro c2), kif_f c3]
      rw [e] at hk2 ⊢
      have hl := hI.1.2.1
      have e15 : (lotS S (tn (nI (x / 32 % 5))) (tn g) (tn y)).1 15 0 = S.1 15 0 + 1 := by simp [lotS, st_1]
      have e16 : ∀ a, (lotS S (tn (nI (x / 32 % 5))) (tn g) (tn y)).1 16 a = if a = S.1 15 0 then x / 32 % 5 else S.1 16 a := fun a => by rw [tn_nI (by omega)]; simp [lotS, st_1]
      refine ⟨hk2, hm, fun q => absurd q (fun q => by unfold k3 at q; omega), fun _ => rfl, fun _ _ => e15, fun q => ?_, fun q => absurd q.1 (by omega), fun _ => rfl, fun _ _ => ⟨by omega, e16⟩, fun q => absurd q (by omega), fun q => ?_⟩
      · exact absurd ⟨⟨by omega, by omega⟩, nI_pos (by omega)⟩ q
      · exact absurd ⟨⟨by omega, by omega⟩, nI_pos (by omega)⟩ q
  · rw [rf_lot2 c1 c2]; exact actF_no hI hm c2_lt
theorem af_a23 (hI : kInv S) (hm : mny S.2.2 = 0) (hk : 23 ≤ x % 32 ∧ x % 32 < 24) : actF S x (vIS (a23 S x)) (a23 S x).2.2 := by
  have hk2 := kI_Swap hI (nI (aLo S x)) (nI (aSw S x))
  unfold a23
  by_cases c0 : S.1 15 0 = 0
  · rw [rf_swap1 (fun q => by obtain ⟨j, hj, -⟩ := q.1; omega)]; exact actF_no hI hm c1_lt
  · have ea : aLo S x = x / 32 / 7 % S.1 15 0 := if_neg c0
    have eb : aSw S x = x / 32 % S.1 15 0 := if_neg c0
    rw [ea, eb] at hk2 ⊢
    have ha : x / 32 / 7 % S.1 15 0 < S.1 15 0 := Nat.mod_lt _ (by omega)
    have hb : x / 32 % S.1 15 0 < S.1 15 0 := Nat.mod_lt _ (by omega)
    have hl := hI.1.2.1
    have hb5 := (hI.2.2.2.1 _ hb).1
    by_cases c2 : S.1 16 (x / 32 / 7 % S.1 15 0) = S.1 16 (x / 32 % S.1 15 0)
    · rw [rf_swap2 ⟨isIn_nI ha, isIn_nI hb⟩ (by rw [tn_nI (by omega), tn_nI (by omega)]; exact c2)]; exact actF_no hI hm c3_lt
    · have e : opSwap S (nI (x / 32 / 7 % S.1 15 0)) (nI (x / 32 % S.1 15 0)) = (0, nI (S.1 16 (x / 32 % S.1 15 0)), swapS S (x / 32 / 7 % S.1 15 0) (x / 32 % S.1 15 0)) := by
        unfold opSwap; rw [kif_f (not_not_intro ⟨isIn_nI ha, isIn_nI hb⟩), tn_nI (by omega), tn_nI (by omega), kif_f c2]
      rw [e] at hk2 ⊢
      have e16 : ∀ q, (swapS S (x / 32 / 7 % S.1 15 0) (x / 32 % S.1 15 0)).1 16 q = if q = x / 32 % S.1 15 0 then S.1 16 (x / 32 / 7 % S.1 15 0) else if q = x / 32 / 7 % S.1 15 0 then S.1 16 (x / 32 % S.1 15 0) else S.1 16 q := fun q => by simp [swapS, st_1]
      refine ⟨hk2, hm, fun q => absurd q (fun q => by unfold k3 at q; omega), fun _ => by simp [swapS, st_1], fun q => absurd q (by omega), fun _ => by simp [swapS, st_1], fun q => absurd q (by omega), fun _ => by simp [swapS, st_1], fun q => absurd q (by omega), fun _ _ => ⟨by omega, rfl, e16⟩, fun q => ?_⟩
      exact absurd ⟨⟨by omega, by omega⟩, nI_pos (by omega)⟩ q
theorem af_a24 (hI : kInv S) (hm : mny S.2.2 = 0) (hk : 24 ≤ x % 32 ∧ x % 32 < 27) : actF S x (vIS (a24 S h x)) (a24 S h x).2.2 := by
  unfold a24
  generalize nI (aOw S h x) = o
  generalize nI (aPa S x) = p
  generalize nI (aLo S x) = a
  have hk2 := kI_Project hI o p a
  by_cases c1 : isIn o 5 ∧ isIn p (S.1 1 0) ∧ isIn a (S.1 15 0)
  · by_cases c2 : projCan S (tn o) (tn p) (tn a)
    · have e : opProject S o p a = (0, nI (S.1 19 0), projS S (tn o) (tn p) (tn a)) := by
        unfold opProject; rw [kif_f (not_not_intro c1), kif_f (not_not_intro c2)]
      rw [e] at hk2 ⊢
      have hp := hI.1.2.2.1
      have e19 : (projS S (tn o) (tn p) (tn a)).1 19 0 = S.1 19 0 + 1 := by simp [projS, st_1]
      refine ⟨hk2, hm, fun q => absurd q (fun q => by unfold k3 at q; omega), fun _ => by simp [projS, st_1], fun q => absurd q (by omega), fun _ => by simp [projS, st_1], fun _ _ => e19, fun q => ?_, fun q => absurd q (by omega), fun q => absurd q (by omega), fun _ b => by simp [projS, st_1]⟩
      exact absurd ⟨⟨by omega, by omega⟩, nI_pos (by omega)⟩ q
    · rw [rf_project2 c1 c2]; exact actF_no hI hm c3_lt
  · rw [rf_project1 c1]; exact actF_no hI hm c1_lt
theorem af_a27 (hI : kInv S) (hm : mny S.2.2 = 0) (hk : 27 ≤ x % 32 ∧ x % 32 < 28) : actF S x (vIS (a27 S x)) (a27 S x).2.2 := by
  unfold a27
  generalize nI (aPr S x) = j
  generalize nI (aLo S x) = a
  have hk2 := kI_Take hI j a
  have hx : ¬ k3 x ∧ ¬ (19 < x % 32 ∧ x % 32 < 27) := ⟨fun q => by unfold k3 at q; omega, by omega⟩
  by_cases c1 : isIn j (S.1 19 0) ∧ isIn a (S.1 15 0)
  · by_cases c2 : S.1 16 (tn a) = S.1 20 (tn j)
    · have e : opTake S j a = (0, nI (S.1 22 (tn j)), st S 22 (tn j) (tn a)) := by
        unfold opTake; rw [kif_f (not_not_intro c1), kif_f (not_not_intro c2)]
      rw [e] at hk2 ⊢
      exact actF_keep hk2 hm (by simp [st_1]) (by simp [st_1]) (by simp [st_1]) (fun a => by simp [st_1]) hx
    · have e : opTake S j a = (2, 0, S) := by unfold opTake; rw [kif_f (not_not_intro c1), kif_t c2]
      rw [e]; exact actF_no hI hm c3_lt
  · rw [rf_take1 c1]; exact actF_no hI hm c1_lt
theorem af_a28 (hI : kInv S) (hm : mny S.2.2 = 0) (hk : 28 ≤ x % 32 ∧ x % 32 < 32) : actF S x (vIA (a28 S x)) (a28 S x).2.2 := by
  unfold a28
  generalize nI (aPr S x) = j
  generalize nI (1 + x / 32 / 12 % (if x / 32 % 3 = 0 then 40 else 4)) = n
  have hk2 := kI_Knit hI j n
  have hx : ¬ k3 x ∧ ¬ (19 < x % 32 ∧ x % 32 < 27) := ⟨fun q => by unfold k3 at q; omega, by omega⟩
  by_cases c1 : isIn j (S.1 19 0)
  · by_cases c2 : inI n (nI 1) (nI 40)
    · have e : opKnit S j n = (0, nI (knitN S (tn j) (tn n)).1, (knitN S (tn j) (tn n)).2) := by
        unfold opKnit; rw [kif_f (not_not_intro c1), kif_f (not_not_intro c2)]
      rw [e] at hk2 ⊢
      obtain ⟨h1, h2⟩ := knitN_keep (j := tn j) (tn n) S
      exact actF_keep hk2 (by show mny (knitN S (tn j) (tn n)).2.2.2 = 0; rw [h2]; exact hm) (by show (knitN S (tn j) (tn n)).2.1 1 0 = _; rw [h1 1 (by decide) (by decide)]) (by show (knitN S (tn j) (tn n)).2.1 15 0 = _; rw [h1 15 (by decide) (by decide)]) (by show (knitN S (tn j) (tn n)).2.1 19 0 = _; rw [h1 19 (by decide) (by decide)]) (fun a => by show (knitN S (tn j) (tn n)).2.1 16 a = _; rw [h1 16 (by decide) (by decide)]) hx
    · rw [rf_knit2 c1 c2]; exact actF_no hI hm c2_lt
  · rw [rf_knit1 c1]; exact actF_no hI hm c1_lt
theorem act_F (hI : kInv S) (hm : mny S.2.2 = 0) : actF S x (actR S h x).1 (actR S h x).2 := by
  rcases (show (0 ≤ x % 32 ∧ x % 32 < 3) ∨ (3 ≤ x % 32 ∧ x % 32 < 9) ∨ (9 ≤ x % 32 ∧ x % 32 < 10) ∨ (10 ≤ x % 32 ∧ x % 32 < 14) ∨ (14 ≤ x % 32 ∧ x % 32 < 18) ∨ (18 ≤ x % 32 ∧ x % 32 < 20) ∨ (20 ≤ x % 32 ∧ x % 32 < 23) ∨ (23 ≤ x % 32 ∧ x % 32 < 24) ∨ (24 ≤ x % 32 ∧ x % 32 < 27) ∨ (27 ≤ x % 32 ∧ x % 32 < 28) ∨ (28 ≤ x % 32 ∧ x % 32 < 32) by omega) with hk | hk | hk | hk | hk | hk | hk | hk | hk | hk | hk
  · rw [act_a0 hk]; exact af_a0 hI hm hk
  · rw [act_a3 hk]; exact af_a3 hI hm hk
  · rw [act_a9 hk]; exact af_a9 hI hm hk
  · rw [act_a10 hk]; exact af_a10 hI hm hk
  · rw [act_a14 hk]; exact af_a14 hI hm hk
  · rw [act_a18 hk]; exact af_a18 hI hm hk
  · rw [act_a20 hk]; exact af_a20 hI hm hk
  · rw [act_a23 hk]; exact af_a23 hI hm hk
  · rw [act_a24 hk]; exact af_a24 hI hm hk
  · rw [act_a27 hk]; exact af_a27 hI hm hk
  · rw [act_a28 hk]; exact af_a28 hI hm hk
end ACTS
