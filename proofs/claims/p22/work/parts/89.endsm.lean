/-! ENDS: a pattern copied line by line, sold, ruled on; a lot used up row by row -/
/-- a pattern's fields as they are till it is sold -/
def PT (T : kS) (p o c : Nat) (q : kP) (l : Nat) : Prop := T.1 2 p = o ∧ T.1 4 p = c ∧ T.1 12 p = 0 ∧ T.1 13 p = 0 ∧ pQ T p = q ∧ T.1 5 p = l
def q0 (w : Nat) : kP := ((0, w, 0), ((fun _ => 0), (fun _ => 0), (fun _ => 0), (fun _ => 0)), (fun _ => 0), (fun _ => 0))
section PTS
variable {S : kS} {o c w p r k u t l o2 c2 w2 : Nat} {z : Int} {q : kP}
theorem pt_new (hI : kInv S) (hn : S.1 1 0 < 16) : PT (addS S o w c) (S.1 1 0) o c (q0 w) 0 ∧ (addS S o w c).1 10 (S.1 1 0) = 99 := by
  obtain ⟨h5, h13, h12⟩ := hI.2.2.1 _ (Nat.le_refl _) hn
  have e5 : (addS S o w c).1 5 (S.1 1 0) = 0 := by simp [addS, st_1, h5]
  refine ⟨⟨by simp [addS, st_1], by simp [addS, st_1], by simp [addS, st_1, h12], by simp [addS, st_1, h13], ?_, e5⟩, by simp [addS, st_1]⟩
  unfold pQ
  rw [e5]
  show ((0, (addS S o w c).1 3 (S.1 1 0), 0), _) = q0 w
  rw [show (addS S o w c).1 3 (S.1 1 0) = w from by simp [addS, st_1]]
  rfl
theorem pt_old (h : PT S p o c q l) (hp : p < S.1 1 0) : PT (addS S o2 w2 c2) p o c q l ∧ (addS S o2 w2 c2).1 10 p = S.1 10 p := by
  obtain ⟨h1, h2, h3, h4, h5, h6⟩ := h
  have hne : p ≠ S.1 1 0 := Nat.ne_of_lt hp
  exact ⟨⟨by simp [addS, st_1, hne, h1], by simp [addS, st_1, hne, h2], by simp [addS, st_1, h3], by simp [addS, st_1, h4], by rw [pQ_addS hne]; exact h5, by simp [addS, st_1, h6]⟩, by simp [addS, st_1, hne]⟩
theorem pt_put (h : PT S p o c q l) (hl : l < 6) : PT (putS S p k u z t) p o c (adP q k u z t) (l + 1) := by
  obtain ⟨h1, h2, h3, h4, h5, h6⟩ := h
  refine ⟨?_, ?_, ?_, ?_, ?_, ?_⟩
  · rw [put_keep _ _ _ _ _ _ (by decide) (by decide) (by decide) (by decide)]; exact h1
  · rw [put_keep _ _ _ _ _ _ (by decide) (by decide) (by decide) (by decide)]; exact h2
  · rw [put_keep _ _ _ _ _ _ (by decide) (by decide) (by decide) (by decide)]; exact h3
  · rw [put_keep _ _ _ _ _ _ (by decide) (by decide) (by decide) (by decide)]; exact h4
  · rw [pQ_put (by omega), h5]
  · rw [putS_5, h6]
theorem pt_put' (h : PT S r o c q l) (hr : r ≠ p) (hp : S.1 5 p < 6) (hl : l ≤ 6) : PT (putS S p k u z t) r o c q l := by
  obtain ⟨h1, h2, h3, h4, h5, h6⟩ := h
  refine ⟨?_, ?_, ?_, ?_, ?_, ?_⟩
  · rw [put_keep _ _ _ _ _ _ (by decide) (by decide) (by decide) (by decide)]; exact h1
  · rw [put_keep _ _ _ _ _ _ (by decide) (by decide) (by decide) (by decide)]; exact h2
  · rw [put_keep _ _ _ _ _ _ (by decide) (by decide) (by decide) (by decide)]; exact h3
  · rw [put_keep _ _ _ _ _ _ (by decide) (by decide) (by decide) (by decide)]; exact h4
  · rw [pQ_putS hr hp (by omega)]; exact h5
  · rw [show (putS S p k u z t).1 5 r = S.1 5 r from by simp [putS, st_1, stz_1, hr]]; exact h6
theorem pt_pub (h : PT S r o c q l) : PT (pubS S p) r o c q l := by
  obtain ⟨h1, h2, h3, h4, h5, h6⟩ := h
  exact ⟨by simp [pubS, st_1, h1], by simp [pubS, st_1, h2], by simp [pubS, st_1, h3], by simp [pubS, st_1, h4], by rw [pubS_Q]; exact h5, by simp [pubS, st_1, h6]⟩
theorem ok_begin (hI : kInv S) (hn : S.1 1 0 < 16) (ho : o < 5) (hw : 1 ≤ w ∧ w ≤ 20) (hc : c ≤ 1000) : opBegin S (nI o) (nI w) (nI c) = (0, nI (S.1 1 0), addS S o w c) ∧ kInv (addS S o w c) := by
  refine ⟨?_, kInv_addS hI hn ho hw hc⟩
  unfold opBegin
  rw [kif_f (not_not_intro (isIn_nI ho)), kif_f (not_not_intro ⟨nI_rng hw.1 hw.2 (by decide), nI_rng (by omega) hc (by decide)⟩), kif_f (by omega), tn_nI (by omega), tn_nI (by omega), tn_nI (by omega)]
theorem ok_line {x3 : Int32} (hI : kInv S) (hp : p < S.1 1 0) (hk : k ≤ 9) (hu : u ≤ 9) (hku : 1 ≤ k + u) (hx : inI x3 (-3) (nI 3)) (hz : tz x3 = z) (hz3 : -3 ≤ z ∧ z ≤ 3) (ht : 1 ≤ t ∧ t ≤ 20) (h10 : S.1 10 p = 99) (h5 : S.1 5 p < 6) (hr : pRows S p + t ≤ 40) : opLine S (nI p) (nI k) (nI u) x3 (nI t) = (0, nI (pRows S p + t), putS S p k u z t) ∧ kInv (putS S p k u z t) := by
  have hn := hI.1.1
  refine ⟨?_, kInv_putS hI hp h10 h5 hk hu hku hz3 ht.1 (by omega) hr⟩
  unfold opLine
  rw [kif_f (not_not_intro (isIn_nI hp)), kif_f (not_not_intro ⟨nI_rng (by omega) hk (by decide), nI_rng (by omega) hu (by decide), by rw [tn_nI (by omega), tn_nI (by omega)]; exact hku, hx, nI_rng ht.1 ht.2 (by decide)⟩), kif_f (not_not_intro ⟨by rw [tn_nI (by omega)]; exact h10, by rw [tn_nI (by omega)]; exact h5, by rw [tn_nI (by omega), tn_nI (by omega)]; exact hr⟩), tn_nI (by omega), tn_nI (by omega), tn_nI (by omega), tn_nI (by omega), hz, putS_rows]
theorem ok_publish (hI : kInv S) (hp : p < S.1 1 0) (h10 : S.1 10 p = 99) (h5 : 0 < S.1 5 p) : opPublish S (nI p) = (0, nI (pOrig (pubS S p) p), pubS S p) ∧ kInv (pubS S p) := by
  have hn := hI.1.1
  refine ⟨?_, kInv_pubS hI hp h10 h5⟩
  unfold opPublish
  rw [kif_f (not_not_intro (isIn_nI hp)), kif_f (not_not_intro ⟨by rw [tn_nI (by omega)]; exact h10, by rw [tn_nI (by omega)]; exact h5⟩), tn_nI (by omega)]
end PTS
/-- what stands once both patterns are published -/
def EB (T : kS) (n o t : Nat) : Prop := T.1 1 0 = n + 2 ∧ pOrig T (n + 1) = o ∧ o ≤ n ∧ T.1 10 n ≠ 99 ∧ T.1 10 (n + 1) ≠ 99 ∧ T.1 2 n = 1 ∧ T.1 2 (n + 1) = 2 ∧ T.1 4 (n + 1) = 60 ∧ T.1 12 (n + 1) = 0 ∧ T.1 13 n = 0 ∧ T.1 13 (n + 1) = 0 ∧ pRows T n = 2 * t ∧ (o = n ∨ o < n)
theorem ends_A {S : kS} (hI : kInv S) {n w u t : Nat} (hnn : S.1 1 0 = n) (hn : n ≤ 14) (hw : 1 ≤ w ∧ w ≤ 20) (hu : u ≤ 2) (ht : 1 ≤ t ∧ t ≤ 12) : ∃ S1 S2 S3 S4 S5 S6 S7 S8 o,
    (opBegin S (nI 1) (nI w) (nI 40) = (0, nI n, S1) ∧ kInv S1) ∧ (opBegin S1 (nI 2) (nI w) (nI 60) = (0, nI (n + 1), S2) ∧ kInv S2) ∧
    (opLine S2 (nI n) (nI 2) (nI u) (nI 1) (nI t) = (0, nI t, S3) ∧ kInv S3) ∧ (opLine S3 (nI n) (nI 1) (nI 1) (zI (-1)) (nI t) = (0, nI (2 * t), S4) ∧ kInv S4) ∧
    (opLine S4 (nI (n + 1)) (nI 2) (nI u) (nI 1) (nI t) = (0, nI t, S5) ∧ kInv S5) ∧ (opLine S5 (nI (n + 1)) (nI 1) (nI 1) (zI (-1)) (nI t) = (0, nI (2 * t), S6) ∧ kInv S6) ∧
    (opPublish S6 (nI n) = (0, nI o, S7) ∧ kInv S7) ∧ (opPublish S7 (nI (n + 1)) = (0, nI o, S8) ∧ kInv S8) ∧ EB S8 n o t ∧ S8.1 15 0 = S.1 15 0 ∧ S8.1 19 0 = S.1 19 0 := by
  have b1 := ok_begin (o := 1) (c := 40) hI (by omega) (by decide) hw (by decide)
  have p1 := pt_new (o := 1) (c := 40) (w := w) hI (by omega)
  have n1 : (addS S 1 w 40).1 1 0 = n + 1 := by simp [addS, st_1, hnn]
  have e1 : (addS S 1 w 40).1 15 0 = S.1 15 0 ∧ (addS S 1 w 40).1 19 0 = S.1 19 0 := ⟨by simp [addS, st_1], by simp [addS, st_1]⟩
  rw [hnn] at b1 p1
  generalize addS S 1 w 40 = S1 at b1 p1 n1 e1
  have b2 := ok_begin (S := S1) (o := 2) (c := 60) b1.2 (by omega) (by decide) hw (by decide)
  have p2 := pt_new (S := S1) (o := 2) (c := 60) (w := w) b1.2 (by omega)
  have p2n := pt_old (o2 := 2) (c2 := 60) (w2 := w) p1.1 (by omega)
  have n2 : (addS S1 2 w 60).1 1 0 = n + 2 := by simp [addS, st_1, n1]
  have e2 : (addS S1 2 w 60).1 15 0 = S.1 15 0 ∧ (addS S1 2 w 60).1 19 0 = S.1 19 0 := ⟨by rw [← e1.1]; simp [addS, st_1], by rw [← e1.2]; simp [addS, st_1]⟩
  rw [p1.2] at p2n
  rw [n1] at b2 p2
  generalize addS S1 2 w 60 = S2 at b2 p2 p2n n2 e2
  obtain ⟨p2, u2⟩ := p2
  obtain ⟨p2n, u2n⟩ := p2n
  have r2 : pRows S2 n = 0 := by rw [← pQ_r, p2n.2.2.2.2.1]; rfl
  have r2' : pRows S2 (n + 1) = 0 := by rw [← pQ_r, p2.2.2.2.2.1]; rfl
  have b3 := ok_line (S := S2) (p := n) (k := 2) (u := u) (x3 := nI 1) (z := 1) (t := t) b2.2 (by omega) (by decide) (by omega) (by omega) (by decide) (by decide) (by decide) ⟨ht.1, by omega⟩ u2n (by rw [p2n.2.2.2.2.2]; decide) (by omega)
  have p3n := pt_put (k := 2) (u := u) (z := 1) (t := t) p2n (by decide)
  have p3 := pt_put' (p := n) (k := 2) (u := u) (z := 1) (t := t) p2 (by omega) (by rw [p2n.2.2.2.2.2]; decide) (by decide)
  have k3 : ∀ j, j ≠ 5 → j ≠ 6 → j ≠ 7 → j ≠ 9 → (putS S2 n 2 u 1 t).1 j = S2.1 j := fun j a b c d => put_keep _ _ _ _ _ _ a b c d
  have n3 : (putS S2 n 2 u 1 t).1 1 0 = n + 2 := by rw [k3 1 (by decide) (by decide) (by decide) (by decide)]; exact n2
  have e3 : (putS S2 n 2 u 1 t).1 15 0 = S.1 15 0 ∧ (putS S2 n 2 u 1 t).1 19 0 = S.1 19 0 := ⟨by rw [k3 15 (by decide) (by decide) (by decide) (by decide)]; exact e2.1, by rw [k3 19 (by decide) (by decide) (by decide) (by decide)]; exact e2.2⟩
  have u3n : (putS S2 n 2 u 1 t).1 10 n = 99 := by rw [k3 10 (by decide) (by decide) (by decide) (by decide)]; exact u2n
  have u3 : (putS S2 n 2 u 1 t).1 10 (n + 1) = 99 := by rw [k3 10 (by decide) (by decide) (by decide) (by decide)]; exact u2
  have r3 : pRows (putS S2 n 2 u 1 t) n = t := by rw [putS_rows, r2]; omega
  have r3' : pRows (putS S2 n 2 u 1 t) (n + 1) = 0 := by rw [← pQ_r, p3.2.2.2.2.1]; rfl
  rw [r2, Nat.zero_add] at b3
  clear k3
  generalize putS S2 n 2 u 1 t = S3 at b3 p3 p3n n3 e3 u3 u3n r3 r3'
  have b4 := ok_line (S := S3) (p := n) (k := 1) (u := 1) (x3 := zI (-1)) (z := -1) (t := t) b3.2 (by omega) (by decide) (by decide) (by decide) (by decide) (by decide) (by decide) ⟨ht.1, by omega⟩ u3n (by rw [p3n.2.2.2.2.2]; decide) (by omega)
  have p4n := pt_put (k := 1) (u := 1) (z := -1) (t := t) p3n (by decide)
  have p4 := pt_put' (p := n) (k := 1) (u := 1) (z := -1) (t := t) p3 (by omega) (by rw [p3n.2.2.2.2.2]; decide) (by decide)
  have k4 : ∀ j, j ≠ 5 → j ≠ 6 → j ≠ 7 → j ≠ 9 → (putS S3 n 1 1 (-1) t).1 j = S3.1 j := fun j a b c d => put_keep _ _ _ _ _ _ a b c d
  have n4 : (putS S3 n 1 1 (-1) t).1 1 0 = n + 2 := by rw [k4 1 (by decide) (by decide) (by decide) (by decide)]; exact n3
  have e4 : (putS S3 n 1 1 (-1) t).1 15 0 = S.1 15 0 ∧ (putS S3 n 1 1 (-1) t).1 19 0 = S.1 19 0 := ⟨by rw [k4 15 (by decide) (by decide) (by decide) (by decide)]; exact e3.1, by rw [k4 19 (by decide) (by decide) (by decide) (by decide)]; exact e3.2⟩
  have u4n : (putS S3 n 1 1 (-1) t).1 10 n = 99 := by rw [k4 10 (by decide) (by decide) (by decide) (by decide)]; exact u3n
  have u4 : (putS S3 n 1 1 (-1) t).1 10 (n + 1) = 99 := by rw [k4 10 (by decide) (by decide) (by decide) (by decide)]; exact u3
  have r4' : pRows (putS S3 n 1 1 (-1) t) (n + 1) = 0 := by rw [← pQ_r, p4.2.2.2.2.1]; rfl
  rw [r3, ← Nat.two_mul] at b4
  clear k4
  generalize putS S3 n 1 1 (-1) t = S4 at b4 p4 p4n n4 e4 u4 u4n r4'
  have b5 := ok_line (S := S4) (p := n + 1) (k := 2) (u := u) (x3 := nI 1) (z := 1) (t := t) b4.2 (by omega) (by decide) (by omega) (by omega) (by decide) (by decide) (by decide) ⟨ht.1, by omega⟩ u4 (by rw [p4.2.2.2.2.2]; decide) (by omega)
  have p5 := pt_put (k := 2) (u := u) (z := 1) (t := t) p4 (by decide)
  have p5n := pt_put' (p := n + 1) (k := 2) (u := u) (z := 1) (t := t) p4n (by omega) (by rw [p4.2.2.2.2.2]; decide) (by decide)
  have k5 : ∀ j, j ≠ 5 → j ≠ 6 → j ≠ 7 → j ≠ 9 → (putS S4 (n + 1) 2 u 1 t).1 j = S4.1 j := fun j a b c d => put_keep _ _ _ _ _ _ a b c d
  have n5 : (putS S4 (n + 1) 2 u 1 t).1 1 0 = n + 2 := by rw [k5 1 (by decide) (by decide) (by decide) (by decide)]; exact n4
  have e5 : (putS S4 (n + 1) 2 u 1 t).1 15 0 = S.1 15 0 ∧ (putS S4 (n + 1) 2 u 1 t).1 19 0 = S.1 19 0 := ⟨by rw [k5 15 (by decide) (by decide) (by decide) (by decide)]; exact e4.1, by rw [k5 19 (by decide) (by decide) (by decide) (by decide)]; exact e4.2⟩
  have u5n : (putS S4 (n + 1) 2 u 1 t).1 10 n = 99 := by rw [k5 10 (by decide) (by decide) (by decide) (by decide)]; exact u4n
  have u5 : (putS S4 (n + 1) 2 u 1 t).1 10 (n + 1) = 99 := by rw [k5 10 (by decide) (by decide) (by decide) (by decide)]; exact u4
  have r5 : pRows (putS S4 (n + 1) 2 u 1 t) (n + 1) = t := by rw [putS_rows, r4']; omega
  rw [r4', Nat.zero_add] at b5
  clear k5
  generalize putS S4 (n + 1) 2 u 1 t = S5 at b5 p5 p5n n5 e5 u5 u5n r5
  have b6 := ok_line (S := S5) (p := n + 1) (k := 1) (u := 1) (x3 := zI (-1)) (z := -1) (t := t) b5.2 (by omega) (by decide) (by decide) (by decide) (by decide) (by decide) (by decide) ⟨ht.1, by omega⟩ u5 (by rw [p5.2.2.2.2.2]; decide) (by omega)
  have p6 := pt_put (k := 1) (u := 1) (z := -1) (t := t) p5 (by decide)
  have p6n := pt_put' (p := n + 1) (k := 1) (u := 1) (z := -1) (t := t) p5n (by omega) (by rw [p5.2.2.2.2.2]; decide) (by decide)
  have k6 : ∀ j, j ≠ 5 → j ≠ 6 → j ≠ 7 → j ≠ 9 → (putS S5 (n + 1) 1 1 (-1) t).1 j = S5.1 j := fun j a b c d => put_keep _ _ _ _ _ _ a b c d
  have n6 : (putS S5 (n + 1) 1 1 (-1) t).1 1 0 = n + 2 := by rw [k6 1 (by decide) (by decide) (by decide) (by decide)]; exact n5
  have e6 : (putS S5 (n + 1) 1 1 (-1) t).1 15 0 = S.1 15 0 ∧ (putS S5 (n + 1) 1 1 (-1) t).1 19 0 = S.1 19 0 := ⟨by rw [k6 15 (by decide) (by decide) (by decide) (by decide)]; exact e5.1, by rw [k6 19 (by decide) (by decide) (by decide) (by decide)]; exact e5.2⟩
  have u6n : (putS S5 (n + 1) 1 1 (-1) t).1 10 n = 99 := by rw [k6 10 (by decide) (by decide) (by decide) (by decide)]; exact u5n
  have u6 : (putS S5 (n + 1) 1 1 (-1) t).1 10 (n + 1) = 99 := by rw [k6 10 (by decide) (by decide) (by decide) (by decide)]; exact u5
  rw [r5, ← Nat.two_mul] at b6
  clear k6
  generalize putS S5 (n + 1) 1 1 (-1) t = S6 at b6 p6 p6n n6 e6 u6 u6n
  have r6 : pRows S6 n = 2 * t := by
    rw [← pQ_r, p6n.2.2.2.2.1]
    show 0 + t + t = 2 * t
    omega
  have b7 := ok_publish (S := S6) (p := n) b6.2 (by omega) u6n (by rw [p6n.2.2.2.2.2]; decide)
  have p7 := pt_pub (p := n) p6
  have p7n := pt_pub (p := n) p6n
  have n7 : (pubS S6 n).1 1 0 = n + 2 := by rw [← n6]; simp [pubS, st_1]
  have e7 : (pubS S6 n).1 15 0 = S.1 15 0 ∧ (pubS S6 n).1 19 0 = S.1 19 0 := ⟨by rw [← e6.1]; simp [pubS, st_1], by rw [← e6.2]; simp [pubS, st_1]⟩
  have hno := b6.2.1.2.2.2
  have u7n : (pubS S6 n).1 10 n ≠ 99 := by rw [pubS_10, if_pos rfl]; omega
  have u7 : (pubS S6 n).1 10 (n + 1) = 99 := by rw [pubS_10, if_neg (by omega)]; exact u6
  generalize pubS S6 n = S7 at b7 p7 p7n n7 e7 u7 u7n
  have b8 := ok_publish (S := S7) (p := n + 1) b7.2 (by omega) u7 (by rw [p7.2.2.2.2.2]; decide)
  have x8 := ext_pubS b7.2 u7
  have o8 := pOrig_ext b7.2 b8.2 x8 (p := n) (by omega) u7n
  have p8 := pt_pub (p := n + 1) p7
  have p8n := pt_pub (p := n + 1) p7n
  have n8 : (pubS S7 (n + 1)).1 1 0 = n + 2 := by rw [← n7]; simp [pubS, st_1]
  have e8 : (pubS S7 (n + 1)).1 15 0 = S.1 15 0 ∧ (pubS S7 (n + 1)).1 19 0 = S.1 19 0 := ⟨by rw [← e7.1]; simp [pubS, st_1], by rw [← e7.2]; simp [pubS, st_1]⟩
  have hno7 := b7.2.1.2.2.2
  have u8n : (pubS S7 (n + 1)).1 10 n ≠ 99 := by rw [pubS_10, if_neg (by omega)]; exact u7n
  have u8 : (pubS S7 (n + 1)).1 10 (n + 1) ≠ 99 := by rw [pubS_10, if_pos rfl]; omega
  generalize pubS S7 (n + 1) = S8 at b8 x8 o8 p8 p8n n8 e8 u8 u8n
  have al : pAlike S8 (n + 1) n := by
    rw [pAl_Q (b8.2.2.1 _ (by omega)).1 (b8.2.2.1 _ (by omega)).1, p8.2.2.2.2.1, p8n.2.2.2.2.1]
    exact ⟨rfl, fun _ _ => rfl⟩
  have o9 : pOrig S8 (n + 1) = pOrig S8 n := pOrig_eq b8.2 (by omega) (by omega) u8 u8n al
  have hp7 := pOrig_pub b7.2 (p := n) (by omega) u7n
  have hle : pOrig S7 n ≤ n := by
    rcases Nat.lt_or_ge n (pOrig S7 n) with q | q
    · have : pOrig S7 n = n + 1 := by omega
      rw [this] at hp7
      exact absurd u7 hp7.2
    · exact q
  rw [o9, o8] at b8
  refine ⟨S1, S2, S3, S4, S5, S6, S7, S8, pOrig S7 n, b1, b2, b3, b4, b5, b6, b7, b8, ⟨n8, by rw [o9, o8], hle, u8n, u8, p8n.1, p8.1, p8.2.1, p8.2.2.1, p8n.2.2.2.1, p8.2.2.2.1, ?_, ?_⟩, e8⟩
  · rw [← pQ_r, p8n.2.2.2.2.1]
    show 0 + t + t = 2 * t
    omega
  · omega
theorem ok_buy {S : kS} {p j : Nat} (hI : kInv S) (hp : p < S.1 1 0) (hj : j < 5) (h : buyCan S p j) : opBuy S (nI p) (nI j) = (0, S.2.2 (S.1 2 p) + nI (S.1 4 p), buyS S p j) ∧ kInv (buyS S p j) := by
  have hn := hI.1.1
  refine ⟨?_, kInv_buyS hI hp hj⟩
  unfold opBuy
  rw [kif_f (not_not_intro ⟨isIn_nI hp, isIn_nI hj⟩), tn_nI (by omega), tn_nI (by omega), kif_f (not_not_intro h)]
  have e : (buyS S p j).2.2 (S.1 2 p) = S.2.2 (S.1 2 p) + nI (S.1 4 p) := by
    show (if S.1 2 p = S.1 2 p then (if S.1 2 p = j then S.2.2 j - nI (S.1 4 p) else S.2.2 (S.1 2 p)) + nI (S.1 4 p) else _) = _
    rw [if_pos rfl, if_neg h.2.2.1]
  rw [e]
theorem took_one {S : kS} {p c : Nat} (h13 : S.1 13 p = 2 ^ 3) (h4 : S.1 4 p = c) : took S p = c := by
  have hb : ∀ j, j < 5 → (bought S p j ↔ j = 3) := fun j hj => by
    unfold bought
    rw [h13, Nat.testBit_two_pow]
    simp
    omega
  have e : took S p = sumN (fun j => if j = 3 then c else 0) 5 := by
    unfold took
    refine sumN_cong (fun j hj => ?_)
    by_cases q : j = 3
    · rw [kif_t ((hb j hj).mpr q), if_pos q, h4]
    · rw [kif_f (fun z => q ((hb j hj).mp z)), if_neg q]
  rw [e]
  show 0 + 0 + 0 + 0 + c + 0 = c
  omega
/-- what the lot and the project are begun upon -/
def EC (T S : kS) (n t : Nat) : Prop := kInv T ∧ n < T.1 1 0 ∧ T.1 10 n ≠ 99 ∧ T.1 2 n = 1 ∧ T.1 13 n = 0 ∧ pRows T n = 2 * t ∧ T.1 15 0 = S.1 15 0 ∧ T.1 19 0 = S.1 19 0 ∧ nd5 T n = nd5 S n
theorem nd5_same {S T : kS} (h : sameC S T) (n : Nat) : nd5 T n = nd5 S n := by
  unfold nd5
  rw [sameC_rows h]
  exact sumN_cong (fun r _ => by rw [sameC_Yn h])
theorem ends_B {S : kS} {n o t : Nat} (hI : kInv S) (hE : EB S n o t) (hn : n ≤ 14) : ∃ S9, (opBuy S (nI (n + 1)) (nI 3) = (0, S.2.2 2 + nI 60, S9) ∧ kInv S9) ∧ opBuy S9 (nI (n + 1)) (nI 3) = (2, 0, S9) ∧ opMoney S9 (nI 2) = (0, S.2.2 2 + nI 60, S9) ∧
    ((∃ T, opRule S9 (nI (n + 1)) = (0, nI 60, T) ∧ opMoney T (nI 2) = (0, S.2.2 2, T) ∧ opBuy T (nI (n + 1)) (nI 4) = (2, 0, T) ∧ opRule T (nI (n + 1)) = (2, 0, T) ∧ EC T S n t) ∨
     (opRule S9 (nI (n + 1)) = (2, 0, S9) ∧ o < n ∧ EC S9 S n t)) := by
  obtain ⟨k1, k2, k3, k4, k5, k6, k7, k8, k9, k10, k11, k12, k13⟩ := hE
  have hc : buyCan S (n + 1) 3 := ⟨k5, k9, by omega, fun z => by unfold bought at z; rw [k11] at z; exact absurd z (by decide)⟩
  have b9 := ok_buy hI (show n + 1 < S.1 1 0 by omega) (show 3 < 5 by decide) hc
  rw [k7, k8] at b9
  have f13 : (buyS S (n + 1) 3).1 13 (n + 1) = 2 ^ 3 := by
    have : (buyS S (n + 1) 3).1 13 (n + 1) = S.1 13 (n + 1) ||| 2 ^ 3 := by simp [buyS, stm_1, st_1]
    rw [this, k11]; rfl
  have f13n : (buyS S (n + 1) 3).1 13 n = 0 := by rw [← k10]; simp [buyS, stm_1, st_1]
  have fk : ∀ j, j ≠ 13 → (buyS S (n + 1) 3).1 j = S.1 j := fun j hj => by
    show (st S 13 (n + 1) _).1 j = S.1 j
    exact st_ne _ _ _ hj
  have fm : (buyS S (n + 1) 3).2.2 2 = S.2.2 2 + nI 60 := by
    show (if 2 = S.1 2 (n + 1) then (if S.1 2 (n + 1) = 3 then S.2.2 3 - nI (S.1 4 (n + 1)) else S.2.2 (S.1 2 (n + 1))) + nI (S.1 4 (n + 1)) else _) = _
    rw [k7, k8, if_pos rfl, if_neg (by decide)]
  have sm : sameC S (buyS S (n + 1) 3) := ⟨rfl, rfl, rfl, rfl, rfl, rfl, rfl, rfl⟩
  generalize buyS S (n + 1) 3 = S9 at b9 f13 f13n fk fm sm
  have g1 : S9.1 1 0 = n + 2 := by rw [fk 1 (by decide)]; exact k1
  have go : pOrig S9 (n + 1) = o := by rw [sameC_Or sm]; exact k2
  have g16 := b9.2.1.1
  have ec9 : EC S9 S n t := ⟨b9.2, by omega, by rw [fk 10 (by decide)]; exact k4, by rw [fk 2 (by decide)]; exact k6, f13n, by rw [sameC_rows sm]; exact k12, by rw [fk 15 (by decide)], by rw [fk 19 (by decide)], nd5_same sm n⟩
  refine ⟨S9, b9, rf_buyA g16 (by omega) (by decide) (fun z => z.2.2.2 (by unfold bought; rw [f13]; decide)), by rw [ok_money (by decide), fm], ?_⟩
  by_cases c : S9.1 2 o = 2
  · right
    refine ⟨rf_ruleA g16 (by omega) (fun z => z.2.2 (by rw [go, c, fk 2 (by decide), k7])), ?_, ec9⟩
    rcases k13 with q | q
    · rw [q, fk 2 (by decide), k6] at c; exact absurd c (by decide)
    · exact q
  · left
    have hr : ruleCan S9 (n + 1) := ⟨by rw [fk 10 (by decide)]; exact k5, by rw [fk 12 (by decide)]; exact k9, by rw [go, fk 2 (by decide), k7]; rw [fk 2 (by decide)] at c; exact c⟩
    have ht : took S9 (n + 1) = 60 := took_one f13 (by rw [fk 4 (by decide)]; exact k8)
    have f2 : S9.1 2 (n + 1) = 2 := by rw [fk 2 (by decide)]; exact k7
    have b10 : opRule S9 (nI (n + 1)) = (0, nI 60, ruleS S9 (n + 1)) := by
      unfold opRule
      rw [kif_f (not_not_intro (isIn_nI (by omega))), tn_nI (by omega), kif_f (not_not_intro hr), ht]
    have i10 := kInv_ruleS b9.2 (show n + 1 < S9.1 1 0 by omega)
    have m10 : (ruleS S9 (n + 1)).2.2 2 = S.2.2 2 := by
      show (if 2 = S9.1 2 (pOrig S9 (n + 1)) then _ else (if 2 = S9.1 2 (n + 1) then S9.2.2 (S9.1 2 (n + 1)) - nI (took S9 (n + 1)) else S9.2.2 2)) = _
      rw [go, if_neg (fun z => c z.symm), f2, if_pos rfl, ht, fm]
      apply Int32.toBitVec.inj
      exact BitVec.add_sub_cancel _ _
    have s10 : sameC S9 (ruleS S9 (n + 1)) := ⟨rfl, rfl, rfl, rfl, rfl, rfl, rfl, rfl⟩
    have r12 : (ruleS S9 (n + 1)).1 12 (n + 1) = 1 := by simp [ruleS, stm_1, st_1]
    have rk : ∀ j, j ≠ 12 → (ruleS S9 (n + 1)).1 j = S9.1 j := fun j hj => by
      show (st S9 12 (n + 1) 1).1 j = S9.1 j
      exact st_ne _ _ _ hj
    generalize ruleS S9 (n + 1) = T at b10 i10 m10 s10 r12 rk
    have t16 := i10.1.1
    have t1 : T.1 1 0 = n + 2 := by rw [rk 1 (by decide)]; exact g1
    obtain ⟨-, -, c3, c4, c5, c6, c7, c8, c9⟩ := ec9
    refine ⟨T, b10, by rw [ok_money (by decide), m10], rf_buyA t16 (by omega) (by decide) (fun z => by have := z.2.1; omega), rf_ruleA t16 (by omega) (fun z => by have := z.2.1; omega), i10, by omega, by rw [rk 10 (by decide)]; exact c3, by rw [rk 2 (by decide)]; exact c4, by rw [rk 13 (by decide)]; exact c5, by rw [sameC_rows s10]; exact c6, by rw [rk 15 (by decide)]; exact c7, by rw [rk 19 (by decide)]; exact c8, by rw [nd5_same s10]; exact c9⟩
/-- k rows of the project are knitted -/
def eK (T : kS) (lt pj n m : Nat) (Y : Nat → Nat) (k : Nat) : Prop := kInv T ∧ lt < T.1 15 0 ∧ pj < T.1 19 0 ∧ T.1 16 lt = 1 ∧ T.1 17 lt = 5 ∧ T.1 20 pj = 1 ∧ T.1 21 pj = n ∧ T.1 22 pj = lt ∧ T.1 23 pj = k ∧ pRows T n = m ∧ (∀ r, pYn T n r = Y r) ∧ T.1 18 lt + sumN (fun r => 5 * Y r) k = sumN (fun r => 5 * Y r) m ∧ (∀ r, 2 ≤ Y r ∧ Y r ≤ 120)
theorem ends_C {S T : kS} {n t al : Nat} (hE : EC T S n t) (hal : nd5 S n = al) (h15 : S.1 15 0 ≤ 19) (h19 : S.1 19 0 ≤ 11) (ht : 1 ≤ t ∧ t ≤ 12) : ∃ T1 T2 Y, opLot T (nI 1) (nI 5) (nI al) = (0, nI (S.1 15 0), T1) ∧ kInv T1 ∧ opProject T1 (nI 3) (nI n) (nI (S.1 15 0)) = (2, 0, T1) ∧ opProject T1 (nI 1) (nI n) (nI (S.1 15 0)) = (0, nI (S.1 19 0), T2) ∧ kInv T2 ∧ sumN (fun r => 5 * Y r) (2 * t) = al ∧ eK T2 (S.1 15 0) (S.1 19 0) n (2 * t) Y 0 := by
  obtain ⟨hI, c2, c3, c4, c5, c6, c7, c8, c9⟩ := hE
  have hok := (hI.2.1 n c2).1
  have hnd := nd5_in hok
  rw [c6, c9, hal] at hnd
  have h16 := hI.1.1
  have b1 : opLot T (nI 1) (nI 5) (nI al) = (0, nI (S.1 15 0), lotS T 1 5 al) := by
    unfold opLot
    rw [kif_f (not_not_intro (isIn_nI (by decide))), kif_f (not_not_intro ⟨by decide, nI_rng (by omega) (by omega) (by decide)⟩), kif_f (by omega), tn_nI (by decide), tn_nI (by decide), tn_nI (by omega), c7]
  have i1 := kInv_lotS (x := 1) (g := 5) (y := al) hI (by omega) (by decide) (by decide) (by omega)
  have s1 : sameC T (lotS T 1 5 al) := ⟨rfl, rfl, rfl, rfl, rfl, rfl, rfl, rfl⟩
  have e15 : (lotS T 1 5 al).1 15 0 = S.1 15 0 + 1 := by simp [lotS, st_1, c7]
  have e16 : (lotS T 1 5 al).1 16 (S.1 15 0) = 1 := by rw [← c7]; simp [lotS, st_1]
  have e17 : (lotS T 1 5 al).1 17 (S.1 15 0) = 5 := by rw [← c7]; simp [lotS, st_1]
  have e18 : (lotS T 1 5 al).1 18 (S.1 15 0) = al := by rw [← c7]; simp [lotS, st_1]
  have ek : ∀ j, j ≠ 15 → j ≠ 16 → j ≠ 17 → j ≠ 18 → (lotS T 1 5 al).1 j = T.1 j := fun j h1 h2 h3 h4 => by
    show (st (st (st (st T 16 _ _) 17 _ _) 18 _ _) 15 _ _).1 j = T.1 j
    rw [st_ne _ _ _ h1, st_ne _ _ _ h4, st_ne _ _ _ h3, st_ne _ _ _ h2]
  generalize lotS T 1 5 al = T1 at b1 i1 s1 e15 e16 e17 e18 ek
  have d1 : T1.1 1 0 = T.1 1 0 := by rw [ek 1 (by decide) (by decide) (by decide) (by decide)]
  have d10 : T1.1 10 n ≠ 99 := by rw [ek 10 (by decide) (by decide) (by decide) (by decide)]; exact c3
  have d2 : T1.1 2 n = 1 := by rw [ek 2 (by decide) (by decide) (by decide) (by decide)]; exact c4
  have d13 : T1.1 13 n = 0 := by rw [ek 13 (by decide) (by decide) (by decide) (by decide)]; exact c5
  have d19 : T1.1 19 0 = S.1 19 0 := by rw [ek 19 (by decide) (by decide) (by decide) (by decide)]; exact c8
  have b2 : opProject T1 (nI 3) (nI n) (nI (S.1 15 0)) = (2, 0, T1) := rf_projectA i1.1.1 i1.1.2.1 (by decide) (by omega) (by omega) (fun z => by
    rcases z.2.1 with q | q
    · omega
    · unfold bought at q; rw [d13] at q; exact absurd q (by decide))
  have hc : projCan T1 1 n (S.1 15 0) := ⟨d10, Or.inl d2, e16, by omega⟩
  have b3 : opProject T1 (nI 1) (nI n) (nI (S.1 15 0)) = (0, nI (S.1 19 0), projS T1 1 n (S.1 15 0)) := by
    unfold opProject
    rw [kif_f (not_not_intro ⟨isIn_nI (by decide), isIn_nI (by omega), isIn_nI (by omega)⟩), tn_nI (by decide), tn_nI (by omega), tn_nI (by omega), kif_f (not_not_intro hc), d19]
  have i3 := kInv_projS i1 (by decide) (by omega) (by omega) hc
  have s3 : sameC T1 (projS T1 1 n (S.1 15 0)) := ⟨rfl, rfl, rfl, rfl, rfl, rfl, rfl, rfl⟩
  have g19 : (projS T1 1 n (S.1 15 0)).1 19 0 = S.1 19 0 + 1 := by simp [projS, st_1, d19]
  have g20 : (projS T1 1 n (S.1 15 0)).1 20 (S.1 19 0) = 1 := by rw [← d19]; simp [projS, st_1]
  have g21 : (projS T1 1 n (S.1 15 0)).1 21 (S.1 19 0) = n := by rw [← d19]; simp [projS, st_1]
  have g22 : (projS T1 1 n (S.1 15 0)).1 22 (S.1 19 0) = S.1 15 0 := by rw [← d19]; simp [projS, st_1]
  have g23 : (projS T1 1 n (S.1 15 0)).1 23 (S.1 19 0) = 0 := by
    have : (projS T1 1 n (S.1 15 0)).1 23 (S.1 19 0) = T1.1 23 (S.1 19 0) := by simp [projS, st_1]
    rw [this]
    exact i1.2.2.2.2.2.1 _ (by omega) (by omega)
  have gk : ∀ j, j ≠ 19 → j ≠ 20 → j ≠ 21 → j ≠ 22 → (projS T1 1 n (S.1 15 0)).1 j = T1.1 j := fun j h1 h2 h3 h4 => by
    show (st (st (st (st T1 20 _ _) 21 _ _) 22 _ _) 19 _ _).1 j = T1.1 j
    rw [st_ne _ _ _ h1, st_ne _ _ _ h4, st_ne _ _ _ h3, st_ne _ _ _ h2]
  generalize projS T1 1 n (S.1 15 0) = T2 at b3 i3 s3 g19 g20 g21 g22 g23 gk
  have hsum : sumN (fun r => 5 * pYn T n r) (2 * t) = al := by
    rw [← hal, ← c9, ← c6]; rfl
  refine ⟨T1, T2, pYn T n, b1, i1, b2, b3, i3, hsum, i3, by rw [gk 15 (by decide) (by decide) (by decide) (by decide)]; omega, by omega, by rw [gk 16 (by decide) (by decide) (by decide) (by decide)]; exact e16, by rw [gk 17 (by decide) (by decide) (by decide) (by decide)]; exact e17, g20, g21, g22, g23, by rw [sameC_rows s3, sameC_rows s1]; exact c6, fun r => by rw [sameC_Yn s3, sameC_Yn s1], ?_, fun r => pYn_in hok⟩
  rw [gk 18 (by decide) (by decide) (by decide) (by decide), e18, hsum]
  rfl
theorem eK_step {T : kS} {lt pj n m k : Nat} {Y : Nat → Nat} (h : eK T lt pj n m Y k) (hk : k < m) : opKnit T (nI pj) (nI 1) = (0, nI 1, knit1 T pj) ∧ eK (knit1 T pj) lt pj n m Y (k + 1) ∧ T.1 18 lt = (knit1 T pj).1 18 lt + 5 * Y k ∧ T.1 18 lt ≤ 100000 := by
  obtain ⟨hI, c15, c19, c16, c17, c20, c21, c22, c23, cr, cY, cs, cb⟩ := h
  have h12 := hI.1.2.2.1
  have hle : sumN (fun r => 5 * Y r) (k + 1) ≤ sumN (fun r => 5 * Y r) m := sumN_le hk
  rw [sumN_s] at hle
  have hnd : rowNd T pj = 5 * Y k := by unfold rowNd; rw [c22, c17, c21, c23, cY]
  have hc : knitCan T pj := ⟨by rw [c22, c16, c20], by rw [c23, c21, cr]; omega, by rw [hnd, c22]; omega⟩
  have i1 := kInv_knit1 hI c19 hc
  have h18 := (hI.2.2.2.1 lt c15).2.2.2
  have e18 : (knit1 T pj).1 18 lt = T.1 18 lt - 5 * Y k := by simp [knit1, st_1, c22, hnd]
  have e23 : (knit1 T pj).1 23 pj = k + 1 := by simp [knit1, st_1, c23]
  have ek : ∀ j, j ≠ 18 → j ≠ 23 → (knit1 T pj).1 j = T.1 j := fun j h1 h2 => by
    show (st (st T 18 _ _) 23 _ _).1 j = T.1 j
    rw [st_ne _ _ _ h2, st_ne _ _ _ h1]
  have s1 : sameC T (knit1 T pj) := ⟨rfl, rfl, rfl, rfl, rfl, rfl, rfl, rfl⟩
  refine ⟨?_, ⟨i1, by rw [ek 15 (by decide) (by decide)]; exact c15, by rw [ek 19 (by decide) (by decide)]; exact c19, by rw [ek 16 (by decide) (by decide)]; exact c16, by rw [ek 17 (by decide) (by decide)]; exact c17, by rw [ek 20 (by decide) (by decide)]; exact c20, by rw [ek 21 (by decide) (by decide)]; exact c21, by rw [ek 22 (by decide) (by decide)]; exact c22, e23, by rw [sameC_rows s1]; exact cr, fun r => by rw [sameC_Yn s1]; exact cY r, ?_, cb⟩, ?_, h18⟩
  · unfold opKnit
    rw [kif_f (not_not_intro (isIn_nI c19)), kif_f (not_not_intro (show inI (nI 1) (nI 1) (nI 40) by decide)), tn_nI (by omega), tn_nI (by decide)]
    show (0, nI (knitN T pj (0 + 1)).1, (knitN T pj (0 + 1)).2) = _
    have e : knitN T pj (0 + 1) = ((knitN (knit1 T pj) pj 0).1 + 1, (knitN (knit1 T pj) pj 0).2) := by
      show kif (knitCan T pj) _ _ = _
      rw [kif_t hc]
    rw [e]
    rfl
  · rw [e18, sumN_s]; omega
  · rw [e18]; omega
theorem eK_end {T : kS} {lt pj n m : Nat} {Y : Nat → Nat} (h : eK T lt pj n m Y m) : T.1 18 lt = 0 ∧ opKnit T (nI pj) (nI 40) = (0, nI 0, T) ∧ opTake T (nI pj) (nI lt) = (0, nI lt, st T 22 pj lt) := by
  obtain ⟨hI, c15, c19, c16, c17, c20, c21, c22, c23, cr, cY, cs, cb⟩ := h
  have h12 := hI.1.2.2.1
  have h20 := hI.1.2.1
  refine ⟨by omega, ?_, ?_⟩
  · unfold opKnit
    rw [kif_f (not_not_intro (isIn_nI c19)), kif_f (not_not_intro (show inI (nI 40) (nI 1) (nI 40) by decide)), tn_nI (by omega), tn_nI (by decide)]
    have hc : ¬ knitCan T pj := fun z => z.2.1 (by rw [c23, c21, cr])
    have e : knitN T pj (39 + 1) = (0, T) := by
      show kif (knitCan T pj) _ _ = _
      rw [kif_f hc]
    show (0, nI (knitN T pj (39 + 1)).1, (knitN T pj (39 + 1)).2) = _
    rw [e]
  · unfold opTake
    rw [kif_f (not_not_intro ⟨isIn_nI c19, isIn_nI c15⟩), tn_nI (by omega), tn_nI (by omega), kif_f (not_not_intro (by rw [c16, c20])), c22]
