/-! what is thrown is new: the worlds stay -/
theorem va_at_lt {D : va_G} {cl : List vw_C} {q : Nat × va_E} {H : Heap} (h : va_at D cl q H) : q.1 < H.size := by
  obtain ⟨a, e⟩ := q
  cases e with
  | inl e =>
    obtain ⟨cA, n, f⟩ := e
    rcases f with f | f | f | f | f
    all_goals (have h1 := h; simp only [va_at] at h1; first | exact (Array.getElem?_eq_some_iff.mp h1).1 | exact (Array.getElem?_eq_some_iff.mp h1.1).1 | (obtain ⟨_, h2, -⟩ := h1; exact (Array.getElem?_eq_some_iff.mp h2).1))
  | inr e =>
    obtain ⟨r, h1, cell, h2, -⟩ := h
    exact (Array.getElem?_eq_some_iff.mp h2).1
theorem kV_more {G : kG} {ws : va_W} {H H1 : Heap} (hV : kV G ws H) (h : ∀ q : Nat, q < H.size → H1[q]? = H[q]?) : kV G ws H1 :=
  ⟨va_P.kept hV.1 (fun k q hk => h q.1 (va_at_lt (hV.1 k q hk))), hV.2⟩
theorem kF_more {A : Nat → Prop} {s t : State} {H : Heap} {locs : List Loc} (hS : va_S A s.heap H locs) (h1 : H.size ≤ t.heap.size) (h2 : ∀ q : Nat, q < H.size → t.heap[q]? = H[q]?) : va_F A s t :=
  ⟨Nat.le_trans hS.1 h1, fun q hq hA => by rw [h2 q (Nat.lt_of_lt_of_le hq hS.1)]; exact hS.2.1 q hq hA⟩
/-- which exception goes with which number -/
def xI (r : kR) (E : String) : Prop := E = kIOB ∧ r.1 = 1
def xIA (r : kR) (E : String) : Prop := (E = kIOB ∧ r.1 = 1) ∨ (E = kIAE ∧ r.1 = 2)
def xIS (r : kR) (E : String) : Prop := (E = kIOB ∧ r.1 = 1) ∨ (E = kISE ∧ r.1 = 2)
def xIAS (r : kR) (E : String) : Prop := (E = kIOB ∧ r.1 = 1) ∨ (E = kIAE ∧ r.1 = 2) ∨ (E = kISE ∧ r.1 = 3)
