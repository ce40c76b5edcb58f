/-! ENDS: a pattern copied line by line, sold, ruled on; a lot used up row by row -/
/-- a pattern's fields as they are till it is sold -/
def PT (T : kS) (p o c : Nat) (q : kP) (l : Nat) : Prop := T.1 2 p = o ∧ T.1 4 p = c ∧ T.1 12 p = 0 ∧ T.1 13 p = 0 ∧ pQ T p = q ∧ T.1 5 p = l
def q0 (w : Nat) : kP := ((0, w, 0), ((fun _ => 0), (fun _ => 0), (fun _ => 0), (fun _ => 0)), (fun _ => 0), (fun _ => 0))
section PTS
variable {S : kS} {o c w p r k u t l o2 c2 w2 : Nat} {z : Int} {q : kP}
theorem pt_new (hI : kInv S) (hn : S.1 1 0 < 16) : PT (addS S o w c) (S.1 1 0) o c (q0 w) 0 ∧ (addS S o w c).1 10 (S.1 1 0) = 99 := by
  obtain ⟨h5, h13, h12⟩ := hI.2.2.1 _ (Nat.le_refl _) hn
  have e5 : (addS S o w c).1 5 (S.1 1 0) = 0 := by simp [addS, st_1, h5]
  refine ⟨⟨by simp [addS, st_1], by simp [addS, st_1], by simp [addS, st_1, h12], by simp [addS, st_1, h13], ?_, e5⟩, by simp [addS, st_1]⟩
  unfold pQ
  rw [e5]
  show ((0, (addS S o w c).1 3 (S.1 1 0), 0), _) = q0 w
  rw [show (addS S o w c).1 3 (S.1 1 0) = w from by simp [addS, st_1]]
  rfl
theorem pt_old (h : PT S p o c q l) (hp : p < S.1 1 0) : PT (addS S o2 w2 c2) p o c q l ∧ (addS S o2 w2 c2).1 10 p = S.1 10 p := by
  obtain ⟨h1, h2, h3, h4, h5, h6⟩ := h
  have hne : p ≠ S.1 1 0 := Nat.ne_of_lt hp
  exact ⟨⟨by simp [addS, st_1, hne, h1], by simp [addS, st_1, hne, h2], by simp [addS, st_1, h3], by simp [addS, st_1, h4], by rw [pQ_addS hne]; exact h5, by simp [addS, st_1, h6]⟩, by simp [addS, st_1, hne]⟩
theorem pt_put (h : PT S p o c q l) (hl : l < 6) : PT (putS S p k u z t) p o c (adP q k u z t) (l + 1) := by
  obtain ⟨h1, h2, h3, h4, h5, h6⟩ := h
  refine ⟨?_, ?_, ?_, ?_, ?_, ?_⟩
  · rw [put_keep _ _ _ _ _ _ (by decide) (by decide) (by decide) (by decide)]; exact h1
  · rw [put_keep _ _ _ _ _ _ (by decide) (by decide) (by decide) (by decide)]; exact h2
  · rw [put_keep _ _ _ _ _ _ (by decide) (by decide) (by decide) (by decide)]; exact h3
  · rw [put_keep _ _ _ _ _ _ (by decide) (by decide) (by decide) (by decide)]; exact h4
  · rw [pQ_put (by omega), h5]
  · rw [putS_5, h6]
theorem pt_put' (h : PT S r o c q l) (hr : r ≠ p) (hp : S.1 5 p < 6) (hl : l ≤ 6) : PT (putS S p k u z t) r o c q l := by
  obtain ⟨h1, h2, h3, h4, h5, h6⟩ := h
  refine ⟨?_, ?_, ?_, ?_, ?_, ?_⟩
  · rw [put_keep _ _ _ _ _ _ (by decide) (by decide) (by decide) (by decide)]; exact h1
  · rw [put_keep _ _ _ _ _ _ (by decide) (by decide) (by decide) (by decide)]; exact h2
  · rw [put_keep _ _ _ _ _ _ (by decide) (by decide) (by decide) (by decide)]; exact h3
  · rw [put_keep _ _ _ _ _ _ (by decide) (by decide) (by decide) (by decide)]; exact h4
  · rw [pQ_putS hr hp (by omega)]; exact h5
  · rw [show (putS S p k u z t).1 5 r = S.1 5 r from by simp [putS, st_1, stz_1, hr]]; exact h6
theorem pt_pub (h : PT S r o c q l) : PT (pubS S p) r o c q l := by
  obtain ⟨h1, h2, h3, h4, h5, h6⟩ := h
  exact ⟨by simp [pubS, st_1, h1], by simp [pubS, st_1, h2], by simp [pubS, st_1, h3], by simp [pubS, st_1, h4], by rw [pubS_Q]; exact h5, by simp [pubS, st_1, h6]⟩
theorem ok_begin (hI : kInv S) (hn : S.1 1 0 < 16) (ho : o < 5) (hw : 1 ≤ w ∧ w ≤ 20) (hc : c ≤ 1000) : opBegin S (nI o) (nI w) (nI c) = (0, nI (S.1 1 0), addS S o w c) ∧ kInv (addS S o w c) := by
  refine ⟨?_, kInv_addS hI hn ho hw hc⟩
  unfold opBegin
  rw [kif_f (not_not_intro (isIn_nI ho)), kif_f (not_not_intro ⟨nI_rng hw.1 hw.2 (by decide), nI_rng (by omega) hc (by decide)⟩), kif_f (by omega), tn_nI (by omega), tn_nI (by omega), tn_nI (by omega)]
theorem ok_line {x3 : Int32} (hI : kInv S) (hp : p < S.1 1 0) (hk : k ≤ 9) (hu : u ≤ 9) (hku : 1 ≤ k + u) (hx : inI x3 (-3) (nI 3)) (hz : tz x3 = z) (hz3 : -3 ≤ z ∧ z ≤ 3) (ht : 1 ≤ t ∧ t ≤ 20) (h10 : S.1 10 p = 99) (h5 : S.1 5 p < 6) (hr : pRows S p + t ≤ 40) : opLine S (nI p) (nI k) (nI u) x3 (nI t) = (0, nI (pRows S p + t), putS S p k u z t) ∧ kInv (putS S p k u z t) := by
  have hn := hI.1.1
  refine ⟨?_, kInv_putS hI hp h10 h5 hk hu hku hz3 ht.1 (by omega) hr⟩
  unfold opLine
  rw [kif_f (not_not_intro (isIn_nI hp)), kif_f (not_not_intro ⟨nI_rng (by omega) hk (by decide), nI_rng (by omega) hu (by decide), by rw [tn_nI (by omega), tn_nI (by omega)]; exact hku, hx, nI_rng ht.1 ht.2 (by decide)⟩), kif_f (not_not_intro ⟨by rw [tn_nI (by omega)]; exact h10, by rw [tn_nI (by omega)]; exact h5, by rw [tn_nI (by omega), tn_nI (by omega)]; exact hr⟩), tn_nI (by omega), tn_nI (by omega), tn_nI (by omega), tn_nI (by omega), hz, putS_rows]
theorem ok_publish (hI : kInv S) (hp : p < S.1 1 0) (h10 : S.1 10 p = 99) (h5 : 0 < S.1 5 p) : opPublish S (nI p) = (0, nI (pOrig (pubS S p) p), pubS S p) ∧ kInv (pubS S p) := by
  have hn := hI.1.1
  refine ⟨?_, kInv_pubS hI hp h10 h5⟩
  unfold opPublish
  rw [kif_f (not_not_intro (isIn_nI hp)), kif_f (not_not_intro ⟨by rw [tn_nI (by omega)]; exact h10, by rw [tn_nI (by omega)]; exact h5⟩), tn_nI (by omega)]
end PTS
/-- what stands once both patterns are published -/
def EB (T : kS) (n o t : Nat) : Prop := T.1 1 0 = n + 2 ∧ pOrig T (n + 1) = o ∧ o ≤ n ∧ T.1 10 n ≠ 99 ∧ T.1 10 (n + 1) ≠ 99 ∧ T.1 2 n = 1 ∧ T.1 2 (n + 1) = 2 ∧ T.1 4 (n + 1) = 60 ∧ T.1 12 (n + 1) = 0 ∧ T.1 13 n = 0 ∧ T.1 13 (n + 1) = 0 ∧ pRows T n = 2 * t ∧ (o = n ∨ o < n)
theorem ends_A {S : kS} (hI : kInv S) {n w u t : Nat} (hnn : S.1 1 0 = n) (hn : n ≤ 14) (hw : 1 ≤ w ∧ w ≤ 20) (hu : u ≤ 2) (ht : 1 ≤ t ∧ t ≤ 12) : ∃ S1 S2 S3 S4 S5 S6 S7 S8 o,
    (opBegin S (nI 1) (nI w) (nI 40) = (0, nI n, S1) ∧ kInv S1) ∧ (opBegin S1 (nI 2) (nI w) (nI 60) = (0, nI (n + 1), S2) ∧ kInv S2) ∧
    (opLine S2 (nI n) (nI 2) (nI u) (nI 1) (nI t) = (0, nI t, S3) ∧ kInv S3) ∧ (opLine S3 (nI n) (nI 1) (nI 1) (zI (-1)) (nI t) = (0, nI (2 * t), S4) ∧ kInv S4) ∧
    (opLine S4 (nI (n + 1)) (nI 2) (nI u) (nI 1) (nI t) = (0, nI t, S5) ∧ kInv S5) ∧ (opLine S5 (nI (n + 1)) (nI 1) (nI 1) (zI (-1)) (nI t) = (0, nI (2 * t), S6) ∧ kInv S6) ∧
    (opPublish S6 (nI n) = (0, nI o, S7) ∧ kInv S7) ∧ (opPublish S7 (nI (n + 1)) = (0, nI o, S8) ∧ kInv S8) ∧ EB S8 n o t ∧ S8.1 15 0 = S.1 15 0 ∧ S8.1 19 0 = S.1 19 0 := by
  have b1 := ok_begin (o := 1) (c := 40) hI (by omega) (by decide) hw (by decide)
  have p1 := pt_new (o := 1) (c := 40) (w := w) hI (by omega)
  have n1 : (addS S 1 w 40).1 1 0 = n + 1 := by simp [addS, st_1, hnn]
  have e1 : (addS S 1 w 40).1 15 0 = S.1 15 0 ∧ (addS S 1 w 40).1 19 0 = S.1 19 0 := ⟨by simp [addS, st_1], by simp [addS, st_1]⟩
  rw [hnn] at b1 p1
  generalize addS S 1 w 40 = S1 at b1 p1 n1 e1
  have b2 := ok_begin (S := S1) (o := 2) (c := 60) b1.2 (by omega) (by decide) hw (by decide)
  have p2 := pt_new (S := S1) (o := 2) (c := 60) (w := w) b1.2 (by omega)
  have p2n := pt_old (o2 := 2) (c2 := 60) (w2 := w) p1.1 (by omega)
  have n2 : (addS S1 2 w 60).1 1 0 = n + 2 := by simp [addS, st_1, n1]
  have e2 : (addS S1 2 w 60).1 15 0 = S.1 15 0 ∧ (addS S1 2 w 60).1 19 0 = S.1 19 0 := ⟨by rw [← e1.1]; simp [addS, st_1], by rw [← e1.2]; simp [addS, st_1]⟩
  rw [p1.2] at p2n
  rw [n1] at b2 p2
  generalize addS S1 2 w 60 = S2 at b2 p2 p2n n2 e2
  obtain ⟨p2, u2⟩ := p2
  obtain ⟨p2n, u2n⟩ := p2n
  have r2 : pRows S2 n = 0 := by rw [← pQ_r, p2n.2.2.2.2.1]; rfl
  have r2' : pRows S2 (n + 1) = 0 := by rw [← pQ_r, p2.2.2.2.2.1]; rfl
  have b3 := ok_line (S := S2) (p := n) (k := 2) (u := u) (x3 := nI 1) (z := 1) (t := t) b2.2 (by omega) (by decide) (by omega) (by omega) (by decide) (by decide) (by decide) ⟨ht.1, by omega⟩ u2n (by rw [p2n.2.2.2.2.2]; decide) (by omega)
  have p3n := pt_put (k := 2) (u := u) (z := 1) (t := t) p2n (by decide)
  have p3 := pt_put' (p := n) (k := 2) (u := u) (z := 1) (t := t) p2 (by omega) (by rw [p2n.2.2.2.2.2]; decide) (by decide)
  have k3 : ∀ j, j ≠ 5 → j ≠ 6 → j ≠ 7 → j ≠ 9 → (putS S2 n 2 u 1 t).1 j = S2.1 j := fun j a b c d => put_keep _ _ _ _ _ _ a b c d
  have n3 : (putS S2 n 2 u 1 t).1 1 0 = n + 2 := by rw [k3 1 (by decide) (by decide) (by decide) (by decide)]; exact n2
  have e3 : (putS S2 n 2 u 1 t).1 15 0 = S.1 15 0 ∧ (putS S2 n 2 u 1 t).1 19 0 = S.1 19 0 := ⟨by rw [k3 15 (by decide) (by decide) (by decide) (by decide)]; exact e2.1, by rw [k3 19 (by decide) (by decide) (by decide) (by decide)]; exact e2.2⟩
  have u3n : (putS S2 n 2 u 1 t).1 10 n = 99 := by rw [k3 10 (by decide) (by decide) (by decide) (by decide)]; exact u2n
  have u3 : (putS S2 n 2 u 1 t).1 10 (n + 1) = 99 := by rw [k3 10 (by decide) (by decide) (by decide) (by decide)]; exact u2
  have r3 : pRows (putS S2 n 2 u 1 t) n = t := by rw [putS_rows, r2]; omega
  have r3' : pRows (putS S2 n 2 u 1 t) (n + 1) = 0 := by rw [← pQ_r, p3.2.2.2.2.1]; rfl
  rw [r2, Nat.zero_add] at b3
  clear k3
  generalize putS S2 n 2 u 1 t = S3 at b3 p3 p3n n3 e3 u3 u3n r3 r3'
  have b4 := ok_line (S := S3) (p := n) (k := 1) (u := 1) (x3 := zI (-1)) (z := -1) (t := t) b3.2 (by omega) (by decide) (by decide) (by decide) (by decide) (by decide) (by decide) ⟨ht.1, by omega⟩ u3n (by rw [p3n.2.2.2.2.2]; decide) (by omega)
  have p4n := pt_put (k := 1) (u := 1) (z := -1) (t := t) p3n (by decide)
  have p4 := pt_put' (p := n) (k := 1) (u := 1) (z := -1) (t := t) p3 (by omega) (by rw [p3n.2.2.2.2.2]; decide) (by decide)
  have k4 : ∀ j, j ≠ 5 → j ≠ 6 → j ≠ 7 → j ≠ 9 → (putS S3 n 1 1 (-1) t).1 j = S3.1 j := fun j a b c d => put_keep _ _ _ _ _ _ a b c d
  have n4 : (putS S3 n 1 1 (-1) t).1 1 0 = n + 2 := by rw [k4 1 (by decide) (by decide) (by decide) (by decide)]; exact n3
  have e4 : (putS S3 n 1 1 (-1) t).1 15 0 = S.1 15 0 ∧ (putS S3 n 1 1 (-1) t).1 19 0 = S.1 19 0 := ⟨by rw [k4 15 (by decide) (by decide) (by decide) (by decide)]; exact e3.1, by rw [k4 19 (by decide) (by decide) (by decide) (by decide)]; exact e3.2⟩
  have u4n : (putS S3 n 1 1 (-1) t).1 10 n = 99 := by rw [k4 10 (by decide) (by decide) (by decide) (by decide)]; exact u3n
  have u4 : (putS S3 n 1 1 (-1) t).1 10 (n + 1) = 99 := by rw [k4 10 (by decide) (by decide) (by decide) (by decide)]; exact u3
  have r4' : pRows (putS S3 n 1 1 (-1) t) (n + 1) = 0 := by rw [← pQ_r, p4.2.2.2.2.1]; rfl
  rw [r3, ← Nat.two_mul] at b4
  clear k4
  generalize putS S3 n 1 1 (-1) t = S4 at b4 p4 p4n n4 e4 u4 u4n r4'
  have b5 := ok_line (S := S4) (p := n + 1) (k := 2) (u := u) (x3 := nI 1) (z := 1) (t := t) b4.2 (by omega) (by decide) (by omega) (by omega) (by decide) (by decide) (by decide) ⟨ht.1, by omega⟩ u4 (by rw [p4.2.2.2.2.2]; decide) (by omega)
  have p5 := pt_put (k := 2) (u := u) (z := 1) (t := t) p4 (by decide)
  have p5n := pt_put' (p := n + 1) (k := 2) (u := u) (z := 1) (t := t) p4n (by omega) (by rw [p4.2.2.2.2.2]; decide) (by decide)
  have k5 : ∀ j, j ≠ 5 → j ≠ 6 → j ≠ 7 → j ≠ 9 → (putS S4 (n + 1) 2 u 1 t).1 j = S4.1 j := fun j a b c d => put_keep _ _ _ _ _ _ a b c d
  have n5 : (putS S4 (n + 1) 2 u 1 t).1 1 0 = n + 2 := by rw [k5 1 (by decide) (by decide) (by decide) (by decide)]; exact n4
  have e5 : (putS S4 (n + 1) 2 u 1 t).1 15 0 = S.1 15 0 ∧ (putS S4 (n + 1) 2 u 1 t).1 19 0 = S.1 19 0 := ⟨by rw [k5 15 (by decide) (by decide) (by decide) (by decide)]; exact e4.1, by rw [k5 19 (by decide) (by decide) (by decide) (by decide)]; exact e4.2⟩
  have u5n : (putS S4 (n + 1) 2 u 1 t).1 10 n = 99 := by rw [k5 10 (by decide) (by decide) (by decide) (by decide)]; exact u4n
  have u5 : (putS S4 (n + 1) 2 u 1 t).1 10 (n + 1) = 99 := by rw [k5 10 (by decide) (by decide) (by decide) (by decide)]; exact u4
  have r5 : pRows (putS S4 (n + 1) 2 u 1 t) (n + 1) = t := by rw [putS_rows, r4']; omega
  rw [r4', Nat.zero_add] at b5
  clear k5
  generalize putS S4 (n + 1) 2 u 1 t = S5 at b5 p5 p5n n5 e5 u5 u5n r5
  have b6 := ok_line (S := S5) (p := n + 1) (k := 1) (u := 1) (x3 := zI (-1)) (z := -1) (t := t) b5.2 (by omega) (by decide) (by decide) (by decide) (by decide) (by decide) (by decide) ⟨ht.1, by omega⟩ u5 (by rw [p5.2.2.2.2.2]; decide) (by omega)
  have p6 := pt_put (k := 1) (u := 1) (z := -1) (t := t) p5 (by decide)
  have p6n := pt_put' (p := n + 1) (k := 1) (u := 1) (z := -1) (t := t) p5n (by omega) (by rw [p5.2.2.2.2.2]; decide) (by decide)
  have k6 : ∀ j, j ≠ 5 → j ≠ 6 → j ≠ 7 → j ≠ 9 → (putS S5 (n + 1) 1 1 (-1) t).1 j = S5.1 j := fun j a b c d => put_keep _ _ _ _ _ _ a b c d
  have n6 : (putS S5 (n + 1) 1 1 (-1) t).1 1 0 = n + 2 := by rw [k6 1 (by decide) (by decide) (by decide) (by decide)]; exact n5
  have e6 : (putS S5 (n + 1) 1 1 (-1) t).1 15 0 = S.1 15 0 ∧ (putS S5 (n + 1) 1 1 (-1) t).1 19 0 = S.1 19 0 := ⟨by rw [k6 15 (by decide) (by decide) (by decide) (by decide)]; exact e5.1, by rw [k6 19 (by decide) (by decide) (by decide) (by decide)]; exact e5.2⟩
  have u6n : (putS S5 (n + 1) 1 1 (-1) t).1 10 n = 99 := by rw [k6 10 (by decide) (by decide) (by decide) (by decide)]; exact u5n
  have u6 : (putS S5 (n + 1) 1 1 (-1) t).1 10 (n + 1) = 99 := by rw [k6 10 (by decide) (by decide) (by decide) (by decide)]; exact u5
  rw [r5, ← Nat.two_mul] at b6
  clear k6
  generalize putS S5 (n + 1) 1 1 (-1) t = S6 at b6 p6 p6n n6 e6 u6 u6n
  have r6 : pRows S6 n = 2 * t := by
    rw [← pQ_r, p6n.2.2.2.2.1]
    show 0 + t + t = 2 * t
    omega
  have b7 := ok_publish (S := S6) (p := n) b6.2 (by omega) u6n (by rw [p6n.2.2.2.2.2]; decide)
  have p7 := pt_pub (p := n) p6
  have p7n := pt_pub (p := n) p6n
  have n7 : (pubS S6 n).1 1 0 = n + 2 := by rw [← n6]; simp [pubS, st_1]
  have e7 : (pubS S6 n).1 15 0 = S.1 15 0 ∧ (pubS S6 n).1 19 0 = S.1 19 0 := ⟨by rw [← e6.1]; simp [pubS, st_1], by rw [← e6.2]; simp [pubS, st_1]⟩
  have hno := b6.2.1.2.2.2
  have u7n : (pubS S6 n).1 10 n ≠ 99 := by rw [pubS_10, if_pos rfl]; omega
  have u7 : (pubS S6 n).1 10 (n + 1) = 99 := by rw [pubS_10, if_neg (by omega)]; exact u6
  generalize pubS S6 n = S7 at b7 p7 p7n n7 e7 u7 u7n
  have b8 := ok_publish (S := S7) (p := n + 1) b7.2 (by omega) u7 (by rw [p7.2.2.2.2.2]; decide)
  have x8 := ext_pubS b7.2 u7
  have o8 := pOrig_ext b7.2 b8.2 x8 (p := n) (by omega) u7n
  have p8 := pt_pub (p := n + 1) p7
  have p8n := pt_pub (p := n + 1) p7n
  have n8 : (pubS S7 (n + 1)).1 1 0 = n + 2 := by rw [← n7]; simp [pubS, st_1]
  have e8 : (pubS S7 (n + 1)).1 15 0 = S.1 15 0 ∧ (pubS S7 (n + 1)).1 19 0 = S.1 19 0 := ⟨by rw [← e7.1]; simp [pubS, st_1], by rw [← e7.2]; simp [pubS, st_1]⟩
  have hno7 := b7.2.1.2.2.2
  have u8n : (pubS S7 (n + 1)).1 10 n ≠ 99 := by rw [pubS_10, if_neg (by omega)]; exact u7n
  have u8 : (pubS S7 (n + 1)).1 10 (n + 1) ≠ 99 := by rw [pubS_10, if_pos rfl]; omega
  generalize pubS S7 (n + 1) = S8 at b8 x8 o8 p8 p8n n8 e8 u8 u8n
  have al : pAlike S8 (n + 1) n := by
    rw [pAl_Q (b8.2.2.1 _ (by omega)).1 (b8.2.2.1 _ (by omega)).1, p8.2.2.2.2.1, p8n.2.2.2.2.1]
    exact ⟨rfl, fun _ _ => rfl⟩
  have o9 : pOrig S8 (n + 1) = pOrig S8 n := pOrig_eq b8.2 (by omega) (by omega) u8 u8n al
  have hp7 := pOrig_pub b7.2 (p := n) (by omega) u7n
  have hle : pOrig S7 n ≤ n := by
    rcases Nat.lt_or_ge n (pOrig S7 n) with q | q
    · have : pOrig S7 n = n + 1 := by omega
      rw [this] at hp7
      exact absurd u7 hp7.2
    · exact q
  rw [o9, o8] at b8
  refine ⟨S1, S2, S3, S4, S5, S6, S7, S8, pOrig S7 n, b1, b2, b3, b4, b5, b6, b7, b8, ⟨n8, by rw [o9, o8], hle, u8n, u8, p8n.1, p8.1, p8.2.1, p8.2.2.1, p8n.2.2.2.1, p8.2.2.2.1, ?_, ?_⟩, e8⟩
  · rw [← pQ_r, p8n.2.2.2.2.1]
    show 0 + t + t = 2 * t
    omega
  · omega
