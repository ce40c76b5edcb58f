/-! worlds, whatever their order -/
noncomputable def wcD : DecidableEq (Nat × va_E) := fun _ _ => Classical.propDecidable _
noncomputable def wc (e : Nat × va_E) (W : va_W) : Nat := @List.count _ (@instBEqOfDecidableEq _ wcD) e W
theorem wc_app (e : Nat × va_E) (a b : va_W) : wc e (a ++ b) = wc e a + wc e b := by letI := wcD; exact List.count_append ..
theorem wc_nil (e : Nat × va_E) : wc e [] = 0 := by unfold wc; rfl
theorem wc_cons (e x : Nat × va_E) (l : va_W) : wc e (x :: l) = wc e [x] + wc e l := wc_app e [x] l
theorem kV_iff {G : kG} {W : va_W} {H : Heap} : kV G W H ↔ (∀ q ∈ W, va_at (kD G) vwCl q H) ∧ W.Pairwise (fun a b => a.1 ≠ b.1) ∧ ∀ q ∈ W, kA G q.1 := by
  constructor
  · rintro ⟨hP, hD, hA⟩
    refine ⟨fun q hq => ?_, ?_, fun q hq => ?_⟩
    · obtain ⟨k, hk⟩ := List.mem_iff_getElem?.mp hq
      exact hP k q hk
    · rw [List.pairwise_iff_getElem]
      intro i j hi hj hij z
      have := hD i j W[i] W[j] (List.getElem?_eq_getElem hi) (List.getElem?_eq_getElem hj) z
      omega
    · obtain ⟨k, hk⟩ := List.mem_iff_getElem?.mp hq
      exact hA k q hk
  · rintro ⟨h1, h2, h3⟩
    refine ⟨fun k q hk => h1 q (List.mem_of_getElem? hk), ?_, fun k q hk => h3 q (List.mem_of_getElem? hk)⟩
    intro i j p q hp hq e
    obtain ⟨hi, rfl⟩ := List.getElem?_eq_some_iff.mp hp
    obtain ⟨hj, rfl⟩ := List.getElem?_eq_some_iff.mp hq
    rw [List.pairwise_iff_getElem] at h2
    rcases Nat.lt_trichotomy i j with q | q | q
    · exact absurd e (h2 i j hi hj q)
    · exact q
    · exact absurd e.symm (h2 j i hj hi q)
theorem kV_perm {G : kG} {W W' : va_W} {H : Heap} (h : kV G W H) (hp : W.Perm W') : kV G W' H := by
  rw [kV_iff] at h ⊢
  obtain ⟨h1, h2, h3⟩ := h
  exact ⟨fun q hq => h1 q (hp.mem_iff.mpr hq), (hp.pairwise_iff (fun z => fun y => z y.symm)).mp h2, fun q hq => h3 q (hp.mem_iff.mpr hq)⟩
theorem kV_wc {G : kG} {W W' : va_W} {H : Heap} (h : kV G W H) (hc : ∀ e, wc e W = wc e W') : kV G W' H :=
  kV_perm h ((@List.perm_iff_count _ (@instBEqOfDecidableEq _ wcD) _ W W').mpr hc)
/-- what stands at each of some places, one after another -/
def wsL (f : Nat → va_W) (L : List Nat) : va_W := L.flatMap f
theorem wsL_nil (f : Nat → va_W) : wsL f [] = [] := rfl
theorem wsL_cons (f : Nat → va_W) (i : Nat) (L : List Nat) : wsL f (i :: L) = f i ++ wsL f L := rfl
theorem wsL_app (f : Nat → va_W) (a b : List Nat) : wsL f (a ++ b) = wsL f a ++ wsL f b := List.flatMap_append ..
theorem wsL_open {f : Nat → va_W} {i : Nat} {L : List Nat} (h : i ∈ L) (e : Nat × va_E) : wc e (wsL f L) = wc e (f i) + wc e (wsL f (L.erase i)) := by
  induction L with
  | nil => exact absurd h (List.not_mem_nil)
  | cons j L ih =>
    by_cases c : j = i
    · subst c
      rw [List.erase_cons_head, wsL_cons, wc_app]
    · have hm : i ∈ L := (List.mem_cons.mp h).resolve_left (fun z => c z.symm)
      rw [List.erase_cons_tail (by simpa using c), wsL_cons, wsL_cons, wc_app, wc_app, ih hm]
      omega
theorem wsL_cong {f g : Nat → va_W} {L : List Nat} (h : ∀ i ∈ L, f i = g i) : wsL f L = wsL g L := by
  induction L with
  | nil => rfl
  | cons i L ih => rw [wsL_cons, wsL_cons, h i List.mem_cons_self, ih (fun j hj => h j (List.mem_cons_of_mem _ hj))]
theorem wsL_succ (f : Nat → va_W) (n : Nat) : wsL f (List.range (n + 1)) = wsL f (List.range n) ++ f n := by
  rw [List.range_succ, wsL_app]
  show wsL f (List.range n) ++ (f n ++ []) = _
  rw [List.append_nil]
theorem mem_er {i j n : Nat} (hj : j < n) (h : j ≠ i) : j ∈ (List.range n).erase i := (List.mem_erase_of_ne h).mpr (List.mem_range.mpr hj)
theorem of_er {i j n : Nat} (h : j ∈ (List.range n).erase i) : j < n ∧ j ≠ i := by
  have h1 := List.mem_of_mem_erase h
  refine ⟨List.mem_range.mp h1, fun z => ?_⟩
  subst z
  exact (List.nodup_range (n := n)).not_mem_erase h
