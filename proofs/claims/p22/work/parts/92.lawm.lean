/-! THE LAW ITSELF: what it draws; whose lots are whose -/
section LAWS
variable {p : Program} {l : Launch} {e : Env} {R : Room} {s : State} {m : MethodId} {args : Array Value} {below : List Frame} {meth : Method} {c : Code} {H : Heap} {locs : List Loc} {cells slots : Nat} {Q : State → Prop}
variable {cc : ByteArray} {pc : Nat} {ls : Array Slot} {rest : List Value} {G : kG}
theorem kn_sld (hexec : p.tables.exec = Jvm.exec) (hb : c.code = cc) {b L : Nat} {xs : Nat → Int32} (hX : va_X b L xs s s.heap) (hbl : b < s.heap.size) (hbA : ¬ kA G b) (hS : va_S (kA G) s.heap H locs) {j : Nat} (hj : j < L) (hL : L < 2 ^ 31) (hdg : decode cc pc = .ok (.iaload, 1))
    (kk : W p l e R s m args below meth c H locs cells slots Q (F0 m (pc + 1) ls (.int (xs j) :: rest))) : W p l e R s m args below meth c H locs cells slots Q (F0 m pc ls (.int (nI j) :: .ref b :: rest)) :=
  va_sld hexec hb hX hbl hbA hS (vp_in_nI hj hL) hdg (by rw [nI_clamp (Nat.lt_trans hj hL)]; exact kk)
def kPX (G : kG) (av : List Value) (wr : va_W) (b L : Nat) (xs : Nat → Int32) : Array Value → State → Prop := va_Pc av (fun U => kE G U U.heap ∧ (kV G wr U.heap ∧ va_X b L xs U U.heap ∧ b < U.heap.size ∧ ¬ kA G b))
theorem kPX_blind {G : kG} {av : List Value} {wr : va_W} {b L : Nat} {xs : Nat → Int32} : FrameBlind (kPX G av wr b L xs) := fun a U g mk q => ⟨q.1, kE_blind g mk a q.2.1, q.2.2.1, va_X.moved (u := U) (U := U.calling g mk a) (Vm.Alike.refl U.vm) q.2.2.2.1, q.2.2.2.2⟩
theorem kPreX {w0 : va_W} {As : List Value} {b L : Nat} {xs : Nat → Int32} {H0 : Heap} (hE : kE G s H0) (hS : va_S (kA G) H0 H locs) (hV : kV G w0 H) (hX : va_X b L xs s H0) (hbl : b < H0.size) (hbA : ¬ kA G b) : PreS s H (kPX G As w0 b L xs) As :=
  ⟨kPX_blind, fun U hU hW => ⟨rfl, by rw [hU]; exact kE_warm hW hS hE, by rw [hU]; exact hV, by rw [hU]; exact va_X.moved hW.alike (va_X.kept hX (hS.2.1 b hbl hbA)), by rw [hU]; exact Nat.lt_of_lt_of_le hbl hS.1, hbA⟩⟩
end LAWS
theorem and31 (v : Int32) : ∃ X : Nat, X < 2 ^ 31 ∧ v &&& nI 2147483647 = nI X := by
  have h : (v &&& nI 2147483647).toBitVec.toNat ≤ 2147483647 := by
    show (v.toBitVec &&& (nI 2147483647).toBitVec).toNat ≤ 2147483647
    rw [BitVec.toNat_and]
    exact Nat.le_trans Nat.and_le_right (by decide)
  refine ⟨(v &&& nI 2147483647).toBitVec.toNat, by omega, ?_⟩
  apply Int32.toBitVec.inj
  apply BitVec.eq_of_toNat_eq
  show _ = (BitVec.ofNat 32 (v &&& nI 2147483647).toBitVec.toNat).toNat
  rw [BitVec.toNat_ofNat, Nat.mod_eq_of_lt (by omega)]
/-- the law's row of persons has the lots' persons -/
def own (S : kS) (h : Nat → Nat) : Prop := ∀ a, a < S.1 15 0 → h a = S.1 16 a
section OWN
variable {S T : kS} {h : Nat → Nat} {x : Nat} {z : Int32}
theorem own_new (hF : actF S x z T) (hw : own S h) (hk : 19 < x % 32 ∧ x % 32 < 23) (hz : ¬ z < 0) : own T (va_up h (S.1 15 0) (x / 32 % 5)) := by
  obtain ⟨-, -, -, -, f5, -, -, -, f9, -, -⟩ := hF
  obtain ⟨-, f9⟩ := f9 hk hz
  have f5 := f5 hk hz
  intro a ha
  rw [f9 a]
  show (if a = S.1 15 0 then x / 32 % 5 else h a) = _
  by_cases c : a = S.1 15 0
  · rw [if_pos c, if_pos c]
  · rw [if_neg c, if_neg c]; exact hw a (by omega)
theorem own_old (hF : actF S x z T) (hw : own S h) (hk : ¬ ((19 < x % 32 ∧ x % 32 < 24) ∧ ¬ z < 0)) : own T h := by
  obtain ⟨-, -, -, -, -, f6, -, -, -, -, f11⟩ := hF
  have f11 := f11 hk
  have f6 := f6 (fun q => hk ⟨⟨q.1.1, by omega⟩, q.2⟩)
  intro a ha
  rw [f11 a]; exact hw a (by omega)
theorem own_swap (hF : actF S x z T) (hw : own S h) (hk : x % 32 = 23) (hz : ¬ z < 0) {la lb : Nat} (hla : x / 32 / 7 % S.1 15 0 = la) (hlb : x / 32 % S.1 15 0 = lb) : own T (va_up (va_up h la (h lb)) lb (h la)) ∧ nI ((va_up (va_up h la (h lb)) lb (h la)) la) = z := by
  obtain ⟨-, -, -, -, -, f6, -, -, -, f10, -⟩ := hF
  obtain ⟨g0, gz, f10⟩ := f10 hk hz
  have f6 := f6 (fun q => by omega)
  have a1 : la < S.1 15 0 := by rw [← hla]; exact Nat.mod_lt _ g0
  have b1 : lb < S.1 15 0 := by rw [← hlb]; exact Nat.mod_lt _ g0
  rw [hlb] at gz f10
  rw [hla] at f10
  have ea := hw la a1
  have eb := hw lb b1
  refine ⟨fun a ha => ?_, ?_⟩
  · rw [f10 a, ea, eb]
    show (if a = lb then S.1 16 la else if a = la then S.1 16 lb else h a) = _
    by_cases c : a = lb
    · rw [if_pos c, if_pos c]
    · rw [if_neg c, if_neg c]
      by_cases d : a = la
      · rw [if_pos d, if_pos d]
      · rw [if_neg d, if_neg d]; exact hw a (by omega)
  · rw [gz]
    congr 1
    show (if la = lb then h la else if la = la then h lb else h la) = _
    by_cases c : la = lb
    · rw [if_pos c, ea, c]
    · rw [if_neg c, if_pos rfl, eb]
end OWN
