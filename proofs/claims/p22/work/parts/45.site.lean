/-! THE SITE: its addresses, and what else the reference's state doesn't say: kY -/
abbrev kY : Type := (Nat → Nat) × (Nat → Int32) × (Nat → Nat) × (Nat → Nat) × (Nat → Nat → Nat) × (Nat → Nat) × (Nat → Nat)
/-- the site, its four lists, the money -/
def yH (y : kY) : Nat → Nat := y.1
/-- how often a list was changed -/
def yM (y : kY) : Nat → Int32 := y.2.1
/-- a list's row, and how much goes into it -/
def yB (y : kY) : Nat → Nat := y.2.2.1
def yC (y : kY) : Nat → Nat := y.2.2.2.1
def yP (y : kY) : Nat → Nat → Nat := y.2.2.2.2.1
def yL (y : kY) : Nat → Nat := y.2.2.2.2.2.1
def yJ (y : kY) : Nat → Nat := y.2.2.2.2.2.2
/-- a pattern's own numbers, drawn line by line -/
def pQn (S : kS) (i : Nat) : Nat → kP
  | 0 => ((0, S.1 3 i, 0), ((fun _ => 0), (fun _ => 0), (fun _ => 0), (fun _ => 0)), (fun _ => 0), (fun _ => 0))
  | n + 1 => adP (pQn S i n) (S.1 6 (6 * i + n)) (S.1 7 (6 * i + n)) (S.2.1 (6 * i + n)) (S.1 9 (6 * i + n))
def pQ (S : kS) (i : Nat) : kP := pQn S i (S.1 5 i)
noncomputable def pB (S : kS) (i : Nat) : Nat → Nat := fun j => kb (bought S i j)
noncomputable def pOr (S : kS) (y : kY) (i : Nat) : Option Nat := kif (S.1 10 i = 99) none (some (yP y (pOrig S i) 0))
/-- the pattern that was published as the j-th -/
noncomputable def pSq (S : kS) (j : Nat) : Nat := by
  classical
  exact if h : ∃ p, p < S.1 1 0 ∧ S.1 10 p = j then Classical.choose h else 0
def nQ (S : kS) : Nat → Nat
  | 0 => S.1 1 0
  | 1 => S.1 11 0
  | 2 => S.1 15 0
  | _ => S.1 19 0
noncomputable def eQ (S : kS) (y : kY) : Nat → Nat → Nat
  | 0 => fun i => yP y i 0
  | 1 => fun j => yP y (pSq S j) 0
  | 2 => yL y
  | _ => yJ y
noncomputable def bkC (G : kG) (S : kS) (y : kY) (k : Nat) : va_W := bkL G (nQ S k) (yB y k) (yC y k) (eQ S y k)
/-- a pattern's cells, whatever they hold -/
def patG (G : kG) (A : Nat → Nat) (num ow pr : Nat) (org : Option Nat) (tk ba w : Nat) (q : kP) (B : Nat → Nat) : va_W := [(A 0, .inr (3, [.int (nI (num)), .int (nI (ow)), .int (nI (pr)), .ref (A 2), .ref (A 7), .ref (A 1), va_rf (org), .int (nI (tk)), .int (nI (ba))])), (A 1, aN (kcZ G) 5 B), (A 2, .inr (4, [.int (nI (w)), .ref (A 3), .ref (A 4), .ref (A 5), .ref (A 6), .int (nI (q.1.2.2))])), (A 3, aN (kcI G) 6 q.2.1.1), (A 4, aN (kcI G) 6 q.2.1.2.1), (A 5, aZ (kcI G) 6 q.2.1.2.2.1), (A 6, aN (kcI G) 6 q.2.1.2.2.2), (A 7, .inr (1, [.int (nI (q.1.1)), .ref (A 8), .ref (A 9), .int (nI (q.1.2.1))])), (A 8, aN (kcI G) 1600 q.2.2.1), (A 9, aN (kcI G) 40 q.2.2.2)]
noncomputable def patC (G : kG) (S : kS) (y : kY) (i : Nat) : va_W := patG G (yP y i) i (S.1 2 i) (S.1 4 i) (pOr S y i) (took S i) (S.1 12 i) (S.1 3 i) (pQ S i) (pB S i)
def lotC (S : kS) (y : kY) (a : Nat) : va_W := [(yL y a, .inr (2, [.int (nI (a)), .int (nI (S.1 17 a)), .int (nI (S.1 16 a)), .int (nI (S.1 18 a))]))]
def prjC (S : kS) (y : kY) (j : Nat) : va_W := [(yJ y j, .inr (5, [.int (nI (S.1 20 j)), .ref (yP y (S.1 21 j) 0), .ref (yL y (S.1 22 j)), .int (nI (S.1 23 j))]))]
def sHd (G : kG) (S : kS) (y : kY) : va_W := [(yH y 0, .inr (6, [.ref (yH y 1), .ref (yH y 2), .ref (yH y 3), .ref (yH y 4), .ref (yH y 5)])), (yH y 5, aR (kcI G) 5 S.2.2), (yH y 1, .inr (0, [.int (yM y 0), .ref (yB y 0), .int (nI (S.1 1 0))])), (yH y 2, .inr (0, [.int (yM y 1), .ref (yB y 1), .int (nI (S.1 11 0))])), (yH y 3, .inr (0, [.int (yM y 2), .ref (yB y 2), .int (nI (S.1 15 0))])), (yH y 4, .inr (0, [.int (yM y 3), .ref (yB y 3), .int (nI (S.1 19 0))]))]
noncomputable def sT (G : kG) (S : kS) (y : kY) (Lb Lp Ll Lj : List Nat) : va_W := wsL (bkC G S y) Lb ++ (wsL (patC G S y) Lp ++ (wsL (lotC S y) Ll ++ wsL (prjC S y) Lj))
noncomputable def siteW (G : kG) (S : kS) (y : kY) : va_W := sHd G S y ++ sT G S y (List.range 4) (List.range (S.1 1 0)) (List.range (S.1 15 0)) (List.range (S.1 19 0))
section SITE
variable {G : kG} {S T : kS} {y z : kY} {Lb Lp Ll Lj : List Nat}
theorem bkL_pos {n b cap : Nat} {e : Nat → Nat} (h : 0 < n) : bkL G n b cap e = [(b, .inl (kcO G, cap, .inr (.inr (.inr (.inr (lf n e))))))] := by
  obtain ⟨m, rfl⟩ : ∃ m, n = m + 1 := ⟨n - 1, by omega⟩
  rfl
theorem lf_cong {n : Nat} {e f : Nat → Nat} (h : ∀ i, i < n → e i = f i) : lf n e = lf n f := by
  funext i
  unfold lf
  by_cases c : i < n
  · rw [if_pos c, if_pos c, h i c]
  · rw [if_neg c, if_neg c]
theorem bkL_cong {n b cap : Nat} {e f : Nat → Nat} (h : ∀ i, i < n → e i = f i) : bkL G n b cap e = bkL G n b cap f := by
  cases n with
  | zero => rfl
  | succ n => rw [bkL_pos (Nat.succ_pos n), bkL_pos (Nat.succ_pos n), lf_cong h]
theorem patC_cong {i : Nat} (h0 : yP z i = yP y i) (h2 : T.1 2 i = S.1 2 i) (h4 : T.1 4 i = S.1 4 i) (h3 : T.1 3 i = S.1 3 i) (h12 : T.1 12 i = S.1 12 i) (h13 : T.1 13 i = S.1 13 i) (hq : pQ T i = pQ S i) (ho : pOr T z i = pOr S y i) : patC G T z i = patC G S y i := by
  have hb : pB T i = pB S i := by unfold pB bought; rw [h13]
  have ht : took T i = took S i := by unfold took bought; rw [h13, h4]
  unfold patC; rw [h0, h2, h4, h3, h12, hq, ho, hb, ht]
theorem lotC_cong {a : Nat} (h0 : yL z a = yL y a) (h16 : T.1 16 a = S.1 16 a) (h17 : T.1 17 a = S.1 17 a) (h18 : T.1 18 a = S.1 18 a) : lotC T z a = lotC S y a := by unfold lotC; rw [h0, h16, h17, h18]
theorem prjC_cong {j : Nat} (h0 : yJ z j = yJ y j) (h20 : T.1 20 j = S.1 20 j) (h21 : T.1 21 j = S.1 21 j) (h22 : T.1 22 j = S.1 22 j) (h23 : T.1 23 j = S.1 23 j) (hp : yP z (S.1 21 j) 0 = yP y (S.1 21 j) 0) (hl : yL z (S.1 22 j) = yL y (S.1 22 j)) : prjC T z j = prjC S y j := by unfold prjC; rw [h0, h20, h21, h22, h23, hp, hl]
theorem bkC_cong {k : Nat} (hn : nQ T k = nQ S k) (hb : yB z k = yB y k) (hc : yC z k = yC y k) (he : ∀ i, i < nQ S k → eQ T z k i = eQ S y k i) : bkC G T z k = bkC G S y k := by
  unfold bkC; rw [hn, hb, hc]; exact bkL_cong he
theorem sT_b {k : Nat} (h : k ∈ Lb) (e : Nat × va_E) : wc e (sT G S y Lb Lp Ll Lj) = wc e (bkC G S y k) + wc e (sT G S y (Lb.erase k) Lp Ll Lj) := by
  unfold sT; simp only [wc_app]; rw [wsL_open h]; omega
theorem sT_p {k : Nat} (h : k ∈ Lp) (e : Nat × va_E) : wc e (sT G S y Lb Lp Ll Lj) = wc e (patC G S y k) + wc e (sT G S y Lb (Lp.erase k) Ll Lj) := by
  unfold sT; simp only [wc_app]; rw [wsL_open h]; omega
theorem sT_l {k : Nat} (h : k ∈ Ll) (e : Nat × va_E) : wc e (sT G S y Lb Lp Ll Lj) = wc e (lotC S y k) + wc e (sT G S y Lb Lp (Ll.erase k) Lj) := by
  unfold sT; simp only [wc_app]; rw [wsL_open h]; omega
theorem sT_j {k : Nat} (h : k ∈ Lj) (e : Nat × va_E) : wc e (sT G S y Lb Lp Ll Lj) = wc e (prjC S y k) + wc e (sT G S y Lb Lp Ll (Lj.erase k)) := by
  unfold sT; simp only [wc_app]; rw [wsL_open h]; omega
theorem sT_cong (hb : ∀ k ∈ Lb, bkC G T z k = bkC G S y k) (hp : ∀ k ∈ Lp, patC G T z k = patC G S y k) (hl : ∀ k ∈ Ll, lotC T z k = lotC S y k) (hj : ∀ k ∈ Lj, prjC T z k = prjC S y k) : sT G T z Lb Lp Ll Lj = sT G S y Lb Lp Ll Lj := by
  unfold sT; rw [wsL_cong hb, wsL_cong hp, wsL_cong hl, wsL_cong hj]
end SITE
/-- what holds of the rest: the lists' rows -/
def yI (G : kG) (S : kS) (y : kY) : Prop := ∀ k, k < 4 → (nQ S k = 0 → yB y k = kE0 G) ∧ (0 < nQ S k → nQ S k ≤ yC y k ∧ yC y k ≤ 40)
theorem pSq_spec {S : kS} (h : kInv S) {j : Nat} (hj : j < S.1 11 0) : pSq S j < S.1 1 0 ∧ S.1 10 (pSq S j) = j := by
  have hx := h.2.2.2.2.2.2.2 j hj
  unfold pSq
  rw [dif_pos hx]
  exact Classical.choose_spec hx
theorem pSq_of {S : kS} (h : kInv S) {p : Nat} (hp : p < S.1 1 0) (hn : S.1 10 p ≠ 99) : pSq S (S.1 10 p) = p := by
  have ho := (h.2.1 p hp).2.2.2.1
  obtain ⟨h1, h2⟩ := pSq_spec h (j := S.1 10 p) (by omega)
  exact h.2.2.2.2.2.2.1 _ _ h1 hp h2 (by rw [h2]; exact hn)
