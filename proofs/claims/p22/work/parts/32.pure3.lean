section KNEW2
variable {p : Program} {l : Launch} {e : Env} {R : Room} {s : State} {m : MethodId} {args : Array Value} {below : List Frame} {meth : Method} {c : Code} {H : Heap} {locs : List Loc} {cells slots : Nat} {Q : State → Prop}
variable {cc : ByteArray} {pc : Nat} {ls : Array Slot} {rest : List Value} {G : kG} {H0 : Heap} {a wr : va_W}
theorem kn_new {own C : String} {T : u_T} {N ci index : Nat} {Ts : List Cond} (hexec : p.tables.exec = Jvm.exec) (hb : c.code = cc) (hts : ∀ w ∈ Ts, w.before args s = true) (hin : ∀ w ∈ u_ws C T N, w ∈ Ts) (ty : Nat → FieldType) (hty : ∀ k, k < N → parseFieldDescriptor (T k).2.2.1 = some (ty k)) (hown : s.vm.findClass own = some m.cls) (hcl : (Cond.classLink own index C).before args s = true) (hinst : (Cond.instantiable C N).before args s = true) (hini : (Cond.initialized C).before args s = true)
    (hK : va_K (kD G) vwCl (kT G) s) (hV : kV G (a ++ wr) H) (hS : va_S (kA G) H0 H locs) (hA : kB G ≤ H0.size) (hc : vwCl[ci]? = some (C, T, N)) {fs : List Value} (hfs : ∀ j, j < N → defaultValue (ty j) = vp_V fs j) (hcells : cells + 1 ≤ R.cells) (hslots : slots + N ≤ R.slots) (hdg : decode cc pc = .ok (.new index, 3))
    (kk : ∀ (q : Nat) (H1 : Heap), kV G ((a ++ [(q, .inr (ci, fs))]) ++ wr) H1 → va_S (kA G) H0 H1 locs → W p l e R s m args below meth c H1 locs (cells + 1) (slots + N) Q (F0 m (pc + 3) ls (.ref q :: rest))) : W p l e R s m args below meth c H locs cells slots Q (F0 m pc ls rest) :=
  va_new hexec hb hts hin ty hty hown hcl hinst hini hK hV.1 hV.2 hS (fun q h => Nat.le_trans hA h) hc hfs hcells hslots hdg (fun q H1 hP hD hS1 => kk q H1 (kV_in ⟨hP, hD⟩) hS1)
end KNEW2
theorem mx_oft {a : Nat} (h : a < 2 ^ 31) : (if nI 1 < nI a then nI a else nI 1) = nI (if a < 1 then 1 else a) := by
  by_cases c : a < 1
  · rw [if_pos c, if_neg (fun q => by have := (nI_ltI (by decide) h).mp q; omega)]
  · rw [if_neg c]
    by_cases d : a = 1
    · subst d; rw [if_neg (by decide)]
    · rw [if_pos ((nI_ltI (by decide) h).mpr (by omega))]
theorem goS_w1 {t : Nat → Nat} {sh : Nat → Int} {b w r : Nat} : (goS t sh b w (r + 1)).2.2 = clampW (((goS t sh b w r).2.2 : Int) + sh (goS t sh b w r).1) := by
  by_cases h : (goS t sh b w r).2.1 = 1
  · rw [show goS t sh b w (r + 1) = _ from if_pos h]
  · rw [show goS t sh b w (r + 1) = _ from if_neg h]
/-- the row that stands j rows into line i -/
theorem goS_in {t : Nat → Nat} {sh : Nat → Int} {b w n i j : Nat} (ht : ∀ k, k < n → 1 ≤ t (b + k)) (hi : i < n) (hj : j < t (b + i)) : (goS t sh b w (sumN (fun k => t (b + k)) i + j)).1 = b + i := by
  have hle := sumN_le (f := fun k => t (b + k)) (show i + 1 ≤ n from hi)
  have hs := sumN_s (fun k => t (b + k)) i
  obtain ⟨x, hx, e1, e2, e3, e4⟩ := goS_at (t := t) (sh := sh) (b := b) (w := w) (sumN (fun k => t (b + k)) i + j) n ht (by omega)
  have hs2 := sumN_s (fun k => t (b + k)) x
  rw [e1]
  rcases Nat.lt_trichotomy x i with q | q | q
  · have := sumN_le (f := fun k => t (b + k)) (show x + 1 ≤ i from q)
    omega
  · rw [q]
  · have := sumN_le (f := fun k => t (b + k)) (show i + 1 ≤ x from q)
    omega
/-- a pattern's own numbers: rows, next width, lines; the lines; the chart -/
abbrev kP : Type := (Nat × Nat × Nat) × ((Nat → Nat) × (Nat → Nat) × (Nat → Int) × (Nat → Nat)) × (Nat → Nat) × (Nat → Nat)
def adP (q : kP) (k u : Nat) (z : Int) (t : Nat) : kP := ((q.1.1 + t, wN q.1.2.1 z t, q.1.2.2 + 1), (va_up q.2.1.1 q.1.2.2 k, va_up q.2.1.2.1 q.1.2.2 u, va_up q.2.1.2.2.1 q.1.2.2 z, va_up q.2.1.2.2.2 q.1.2.2 t), dlF q.2.2.1 k u z q.1.2.1 q.1.1 t, dlY q.2.2.2 k u z q.1.2.1 q.1.1 t)
def adN (q : kP) (K U : Nat → Nat) (Z : Nat → Int) (T : Nat → Nat) (g : Nat) : Nat → kP
  | 0 => q
  | i + 1 => adP (adN q K U Z T g i) (K i) (U i) (Z i) (oftN (T i) g)
theorem adN_at {q : kP} {K U : Nat → Nat} {Z : Nat → Int} {T : Nat → Nat} {g : Nat} (hw : 1 ≤ q.1.2.1 ∧ q.1.2.1 ≤ 40) : ∀ i, (adN q K U Z T g i).1.1 = q.1.1 + sumN (fun i => oftN (T i) g) i ∧ (adN q K U Z T g i).1.2.2 = q.1.2.2 + i ∧ 1 ≤ (adN q K U Z T g i).1.2.1 ∧ (adN q K U Z T g i).1.2.1 ≤ 40 := by
  intro i
  induction i with
  | zero => exact ⟨rfl, rfl, hw⟩
  | succ i ih =>
    obtain ⟨a1, a2, a3⟩ := ih
    refine ⟨?_, ?_, wN_in a3 _⟩
    · show (adN q K U Z T g i).1.1 + oftN (T i) g = _
      rw [a1, sumN_s]; omega
    · show (adN q K U Z T g i).1.2.2 + 1 = _
      rw [a2]; omega
/-- rows knitted: how many, how far, the yarn left -/
noncomputable def kuN (rc g : Nat) (ok : Prop) (Y : Nat → Nat) : Nat → Nat → Nat → Nat × Nat × Nat
  | 0, d, y => (0, d, y)
  | n + 1, d, y => kif (d < rc ∧ ok ∧ g * Y d ≤ y) ((kuN rc g ok Y n (d + 1) (y - g * Y d)).1 + 1, (kuN rc g ok Y n (d + 1) (y - g * Y d)).2) (0, d, y)
theorem kuN_s (rc g : Nat) (ok : Prop) (Y : Nat → Nat) (n d y : Nat) : kuN rc g ok Y (n + 1) d y = kif (d < rc ∧ ok ∧ g * Y d ≤ y) ((kuN rc g ok Y n (d + 1) (y - g * Y d)).1 + 1, (kuN rc g ok Y n (d + 1) (y - g * Y d)).2) (0, d, y) := rfl
