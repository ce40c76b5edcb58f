/-! what is thrown is new: the worlds stay -/
theorem va_at_lt {D : va_G} {cl : List vw_C} {q : Nat × va_E} {H : Heap} (h : va_at D cl q H) : q.1 < H.size := by
  obtain ⟨a, e⟩ := q
  cases e with
  | inl e =>
    obtain ⟨cA, n, f⟩ := e
    rcases f with f | f | f | f | f
    all_goals (have h1 := h; simp only [va_at] at h1; first | exact (Array.getElem?_eq_some_iff.mp h1).1 | exact (Array.getElem?_eq_some_iff.mp h1.1).1 | (obtain ⟨_, h2, -⟩ := h1; exact (Array.getElem?_eq_some_iff.mp h2).1))
  | inr e =>
    obtain ⟨r, h1, cell, h2, -⟩ := h
    exact (Array.getElem?_eq_some_iff.mp h2).1
theorem kV_more {G : kG} {ws : va_W} {H H1 : Heap} (hV : kV G ws H) (h : ∀ q : Nat, q < H.size → H1[q]? = H[q]?) : kV G ws H1 :=
  ⟨va_P.kept hV.1 (fun k q hk => h q.1 (va_at_lt (hV.1 k q hk))), hV.2⟩
theorem kF_more {A : Nat → Prop} {s t : State} {H : Heap} {locs : List Loc} (hS : va_S A s.heap H locs) (h1 : H.size ≤ t.heap.size) (h2 : ∀ q : Nat, q < H.size → t.heap[q]? = H[q]?) : va_F A s t :=
  ⟨Nat.le_trans hS.1 h1, fun q hq hA => by rw [h2 q (Nat.lt_of_lt_of_le hq hS.1)]; exact hS.2.1 q hq hA⟩
/-- which exception goes with which number -/
def xI (r : kR) (E : String) : Prop := E = kIOB ∧ r.1 = 1
def xIA (r : kR) (E : String) : Prop := (E = kIOB ∧ r.1 = 1) ∨ (E = kIAE ∧ r.1 = 2)
def xIS (r : kR) (E : String) : Prop := (E = kIOB ∧ r.1 = 1) ∨ (E = kISE ∧ r.1 = 2)
def xIAS (r : kR) (E : String) : Prop := (E = kIOB ∧ r.1 = 1) ∨ (E = kIAE ∧ r.1 = 2) ∨ (E = kISE ∧ r.1 = 3)
section KQL
variable {p : Program} {l : Launch} {e : Env} {R : Room} {s : State} {m : MethodId} {args : Array Value} {below : List Frame} {meth : Method} {c : Code} {H : Heap} {locs : List Loc} {cells slots : Nat} {Q : State → Prop}
variable {cc : ByteArray} {pc : Nat} {ls : Array Slot} {rest : List Value}
theorem kq_aload_n (hexec : p.tables.exec = Jvm.exec) (hb : c.code = cc) {k : Fin 4} {i : Nat} {o : Option Nat} (hdg : decode cc pc = .ok (.aload_n k, 1)) (hi : (k : Nat) = i) (hl : ls[i]? = some (.val (va_rf o)))
    (kk : W p l e R s m args below meth c H locs cells slots Q (F0 m (pc + 1) ls (va_rf o :: rest))) : W p l e R s m args below meth c H locs cells slots Q (F0 m pc ls rest) := by
  cases o with
  | none => exact lv_aload_nN hexec hb hdg hi hl kk
  | some a => exact lv_aload_n hexec hb hdg hi hl kk
theorem kq_astore_n (hexec : p.tables.exec = Jvm.exec) (hb : c.code = cc) {k : Fin 4} {i nL : Nat} {o : Option Nat} {lv lv' : List (Nat × Value)} (hdg : decode cc pc = .ok (.astore_n k, 1)) (hi : (k : Nat) = i) (h : lv_has ls nL lv) (hn : i < nL) (hl : (i, va_rf o) :: lv.filter (fun q => !(q.1 == i) && !(q.1 + 1 == i && q.2.category == 2)) = lv')
    (kk : ∀ ls' : Array Slot, lv_has ls' nL lv' → W p l e R s m args below meth c H locs cells slots Q (F0 m (pc + 1) ls' rest)) : W p l e R s m args below meth c H locs cells slots Q (F0 m pc ls (va_rf o :: rest)) := by
  cases o with
  | none => exact lv_astore_nN hexec hb hdg hi h hn hl kk
  | some a => exact lv_astore_n hexec hb hdg hi h hn hl kk
end KQL
