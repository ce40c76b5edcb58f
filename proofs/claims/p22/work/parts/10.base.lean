/-! THE BASE: the launch's data, what every method finds (kE), the world of a method (kV), calls, numbers as Nat -/
abbrev kG : Type := va_G × (ClassId × ClassId × ClassId × ClassId) × (Nat × Nat × Nat) × (Nat → Nat)
abbrev kD (G : kG) : va_G := G.1
abbrev kcI (G : kG) : ClassId := G.2.1.1
abbrev kcZ (G : kG) : ClassId := G.2.1.2.1
abbrev kcO (G : kG) : ClassId := G.2.1.2.2.1
abbrev kcL (G : kG) : ClassId := G.2.1.2.2.2
abbrev kB (G : kG) : Nat := G.2.2.1.1
abbrev kE0 (G : kG) : Nat := G.2.2.1.2.1
abbrev kMi (G : kG) : Nat := G.2.2.1.2.2
abbrev kSt (G : kG) : Nat → Nat := G.2.2.2
abbrev kT (G : kG) : List (ClassId × FieldType) := [(kcI G, .int), (kcZ G, .boolean), (kcO G, .object "java/lang/Object")]
def kA (G : kG) : Nat → Prop := fun q => kB G ≤ q
abbrev kIOB : String := "java/lang/IndexOutOfBoundsException"
abbrev kIAE : String := "java/lang/IllegalArgumentException"
abbrev kISE : String := "java/lang/IllegalStateException"
abbrev kUp : List String := ["java/lang/RuntimeException", "java/lang/Exception"]
/-- links between nest mates, and what the tables alone say of the exceptions' classes -/
def kNw : List Cond := [
  .fieldLinkNest "Yarncourt$Pattern" 52 "Yarncourt$Program" "lineCount" "I" "Yarncourt",
  .fieldLinkNest "Yarncourt$Pattern" 65 "Yarncourt$Program" "knits" "[I" "Yarncourt",
  .fieldLinkNest "Yarncourt$Pattern" 69 "Yarncourt$Program" "purls" "[I" "Yarncourt",
  .fieldLinkNest "Yarncourt$Pattern" 72 "Yarncourt$Program" "shaping" "[I" "Yarncourt",
  .methodLinkNest "Yarncourt$Chart" 29 yX5_widthAfter "Yarncourt",
  .methodLinkNest "Yarncourt$Program" 31 yX5_forGauge "Yarncourt",
  .methodLinkNest "Yarncourt$Program" 46 yX5_widthAfter "Yarncourt",
  .castable kIOB kIOB, .castable kIAE kIAE, .castable kISE kISE, .castable "Yarncourt$Pattern" "java/lang/Object", .castable "Yarncourt$Lot" "java/lang/Object", .castable "Yarncourt$Project" "java/lang/Object",
  .declares (Bundle.initS "java/lang/RuntimeException"), .declares (Bundle.initS "java/lang/Exception"), .declares (Bundle.initS "java/lang/Throwable")]
def kNc : List (String × String) := [(kIOB, kIAE), (kIOB, kISE), (kIAE, kIOB), (kIAE, kISE), (kISE, kIOB), (kISE, kIAE)]
def kTx : List (Nat × String) := [(103, "the pattern can't be worked out for that gauge"), (126, "the pattern can't be published"), (161, "the pattern is not for sale to that person"), (170, "the pattern is no copy, or is barred"), (176, "no more lots"), (189, "both lots are one person's"), (194, "the project can't be begun"), (206, "the lot is another one's"), (221, "no such pattern"), (228, "no such lot"), (230, "no such project"), (232, "no more patterns"), (239, "no such person"), (241, "no such row or place"), (243, "out of range"), (56, "a line without stitches"), (71, "the pattern takes no such line")]
abbrev kArr : String := "java/util/ArrayList"
abbrev kDef : String := "DEFAULTCAPACITY_EMPTY_ELEMENTDATA"
abbrev kObs : String := "[Ljava/lang/Object;"
def kX (G : kG) (U : State) (H : Heap) : Prop :=
  (∀ w ∈ kNw, va_Nw w U) ∧ (∀ q ∈ kNc, va_Nc q.1 q.2 U) ∧ (∀ q ∈ kTx, vk_R RX5 q.1 q.2 (kSt G q.1) U) ∧
  vx_Zq Bundle.tN "UNASSIGNED_STACK" Bundle.steD (kA G) U H ∧ vx_Zq Bundle.tN "SUPPRESSED_SENTINEL" Bundle.listD (kA G) U H ∧
  va_Z kArr kDef kObs (.ref (kE0 G)) (kA G) U H ∧ va_T (.object "java/lang/Object") (kE0 G) 0 (fun _ => .null) (kA G) U H ∧ va_Mi kObs (kMi G) U ∧ va_Dc U ∧ va_AO "java/lang/Object" U
def kE (G : kG) (U : State) (H : Heap) : Prop := va_K (kD G) vwCl (kT G) U ∧ kB G ≤ H.size ∧ kX G U H
theorem kNw_warm {s U : State} (hW : s.WarmedH U.vm) (h : ∀ w ∈ kNw, va_Nw w s) : ∀ w ∈ kNw, va_Nw w U := by
  have hF : ∀ a i b n d o, Cond.fieldLinkNest a i b n d o ∈ kNw → va_Nw (.fieldLinkNest a i b n d o) U := fun a i b n d o hm => va_Nw.warmF hW (h _ hm)
  have hM : ∀ a i b o, Cond.methodLinkNest a i b o ∈ kNw → va_Nw (.methodLinkNest a i b o) U := fun a i b o hm => va_Nw.warmM hW (h _ hm)
  have hC : ∀ a b, Cond.castable a b ∈ kNw → va_Nw (.castable a b) U := fun a b hm => va_Nw.warmC hW (h _ hm)
  have hL : ∀ a, Cond.declares a ∈ kNw → va_Nw (.declares a) U := fun a hm => va_Nw.warmD hW (h _ hm)
  intro w hw
  have hw0 := hw
  unfold kNw at hw
  simp only [List.mem_cons, List.not_mem_nil, or_false] at hw
  rcases hw with rfl | rfl | rfl | rfl | rfl | rfl | rfl | rfl | rfl | rfl | rfl | rfl | rfl | rfl | rfl | rfl
  · exact hF _ _ _ _ _ _ hw0
  · exact hF _ _ _ _ _ _ hw0
  · exact hF _ _ _ _ _ _ hw0
  · exact hF _ _ _ _ _ _ hw0
  · exact hM _ _ _ _ hw0
  · exact hM _ _ _ _ hw0
  · exact hM _ _ _ _ hw0
  · exact hC _ _ hw0
  · exact hC _ _ hw0
  · exact hC _ _ hw0
  · exact hC _ _ hw0
  · exact hC _ _ hw0
  · exact hC _ _ hw0
  · exact hL _ hw0
  · exact hL _ hw0
  · exact hL _ hw0
theorem kNw_same {u U : State} (hv : u.vm = U.vm) (h : ∀ w ∈ kNw, va_Nw w u) : ∀ w ∈ kNw, va_Nw w U := by
  intro w hw
  refine va_Nw.same ?_ hv (h w hw)
  unfold kNw at hw
  simp only [List.mem_cons, List.not_mem_nil, or_false] at hw
  rcases hw with rfl | rfl | rfl | rfl | rfl | rfl | rfl | rfl | rfl | rfl | rfl | rfl | rfl | rfl | rfl | rfl <;> rfl
/-- from a method's start to a callee's: the machine is warmer, the heap has changed in A alone -/
theorem kE_warm {G : kG} {s U : State} {H0 H : Heap} {locs : List Loc} (hW : s.WarmedH U.vm) (hS : va_S (kA G) H0 H locs) (h : kE G s H0) : kE G U H := by
  obtain ⟨h1, h2, h3, h4, h5, h6, h7, h8, h9, h10, h11, h12⟩ := h
  have hk : ∀ a : Nat, a < H0.size → ¬ kA G a → H[a]? = H0[a]? := hS.2.1
  refine ⟨h1.moved hW.alike, Nat.le_trans h2 hS.1, kNw_warm hW h3, fun q hq => (h4 q hq).moved hW.alike, fun q hq => (h5 q hq).warm hW, ?_, ?_, ?_, ?_, h10.moved hW.alike, h11.moved hW.alike, h12.moved hW.alike⟩
  · exact vx_Zq.moved hW.alike (vx_Zq.kept h6 hk)
  · exact vx_Zq.moved hW.alike (vx_Zq.kept h7 hk)
  · exact va_Z.moved hW.alike (va_Z.kept h8 hk)
  · exact va_T.moved hW.alike (va_T.kept h9 hk)
theorem kE_blind {G : kG} {U : State} (g : JFrame) (mk : MethodId) (a : Array Value) (h : kE G U U.heap) : kE G (U.calling g mk a) (U.calling g mk a).heap := by
  obtain ⟨h1, h2, h3, h4, h5, h6, h7, h8, h9, h10, h11, h12⟩ := h
  have hv : U.vm = (U.calling g mk a).vm := rfl
  have hal : U.vm.Alike (U.calling g mk a).vm := Vm.Alike.refl U.vm
  exact ⟨va_K.moved (u := U) (U := U.calling g mk a) hal h1, h2, kNw_same hv h3, fun q hq => va_Nc.moved (u := U) (U := U.calling g mk a) hal (h4 q hq), fun q hq => vk_R.same hv.symm (h5 q hq),
    vx_Zq.moved (u := U) (U := U.calling g mk a) hal h6, vx_Zq.moved (u := U) (U := U.calling g mk a) hal h7, va_Z.moved (u := U) (U := U.calling g mk a) hal h8, va_T.moved (u := U) (U := U.calling g mk a) hal h9, va_Mi.moved (u := U) (U := U.calling g mk a) hal h10, va_Dc.moved (u := U) (U := U.calling g mk a) hal h11, va_AO.moved (u := U) (U := U.calling g mk a) hal h12⟩
/-- the world of a method -/
def kV (G : kG) (ws : va_W) (H : Heap) : Prop := va_P (kD G) vwCl ws H ∧ va_D (kA G) ws
def kPc (G : kG) (av : List Value) (ws : va_W) : Array Value → State → Prop := va_Pc av (fun U => kE G U U.heap ∧ kV G ws U.heap)
theorem kPc_blind {G : kG} {av : List Value} {ws : va_W} : FrameBlind (kPc G av ws) := fun a _ g mk q => ⟨q.1, kE_blind g mk a q.2.1, q.2.2⟩
abbrev kQi (G : kG) {S : Type} (post : Int32 → S → Prop) (wf : S → va_W) : Array Value → State → Outcome → State → Prop := va_Qi post (fun u t => kV G (wf u) t.heap) (kA G)
abbrev kQv (G : kG) {S : Type} (post : S → Prop) (wf : S → va_W) : Array Value → State → Outcome → State → Prop := va_Qv post (fun u t => kV G (wf u) t.heap) (kA G)
abbrev kQq (G : kG) {S : Type} (post : Option Nat → S → Prop) (wf : S → va_W) : Array Value → State → Outcome → State → Prop := va_Qq post (fun u t => kV G (wf u) t.heap) (kA G)
/-- a method that throws leaves its world as it was -/
abbrev kXC (G : kG) (xc : String → Prop) (ws : va_W) : String → State → State → Prop := vx_X (S := Unit) (fun _ => True) (fun E _ t => xc E ∧ kV G ws t.heap) (kA G)
section KVXQ
variable {p : Program} {l : Launch} {e : Env} {R : Room} {s : State} {m : MethodId} {args : Array Value} {below : List Frame} {meth : Method} {c : Code} {H : Heap} {locs : List Loc} {cells slots : Nat} {Q : State → Prop}
variable {pc : Nat} {ls : Array Slot} {rest st0 : List Value} {a : Array Value} {A0 A1 : Nat → Prop} {H0 : Heap} {mc ms : Nat} {free : Addr → Prop}
theorem vx_callq {S SX : Type} {post : Option Nat → S → Prop} {px : SX → Prop} {B : S → State → Prop} {BX : String → SX → State → Prop} {AX : Nat → Prop} (hr : vx_Run p l e R s m args below meth c H locs cells slots mc ms (F0 m pc ls st0) rest (va_Qq post B A1 a) (vx_X px BX AX) free) (hS : va_S A0 H0 H locs) (hA : ∀ q, q < H.size → A1 q → A0 q) (hf : ∀ q, free q → A0 q) (hAX : ∀ q, q < H.size → AX q → A0 q)
    (kx : ∀ (E : String) (ce : Cell) (q9 : Addr) (u : SX) (t : State) (H1 : Heap) (locs1 : List Loc), t.heap = H1 → s.vm.Alike t.vm → px u → BX E u t → H.size ≤ H1.size → (∀ q : Nat, q < H.size → ¬ AX q → H1[q]? = H[q]?) → va_S A0 H0 H1 locs1 → H1[q9]? = some ce → ce.vm = .none → s.vm.findClass E = some ce.cls → vx_W p l e R s m args below meth c H1 locs1 (cells + mc) (slots + ms) Q (F0 m pc ls rest) q9)
    (kk : ∀ (r : Option Nat) (u : S) (t : State) (H1 : Heap) (locs1 : List Loc), t.heap = H1 → s.vm.Alike t.vm → post r u → B u t → H.size ≤ H1.size → (∀ q : Nat, q < H.size → ¬ A1 q → H1[q]? = H[q]?) → va_S A0 H0 H1 locs1 → W p l e R s m args below meth c H1 locs1 (cells + mc) (slots + ms) Q (F0 m (pc + 3) ls (va_rf r :: rest))) : W p l e R s m args below meth c H locs cells slots Q (F0 m pc ls st0) := by
  intro T hT X
  rcases hr T hT X with ⟨v, st₀, t, T', L, h0, X', hL, e1, e2, ⟨⟨r, u, hv, hp, hb⟩, hF⟩, st⟩ | ⟨q, st₀, t, T', L, E, ce, h0, X', hL, e1, e2, ⟨u, hp, hb, hF⟩, hce, hcv, hcl, st⟩
  · cases hv
    obtain ⟨k1, k2, k3⟩ := vx_keep h0 e1 hS hA hf hL hF
    obtain ⟨t2, a1, b1⟩ := kk r u t T'.heap (locs ++ L) e1.symm (by rw [← e2]; exact X'.warmed.alike) hp hb k1 k2 k3 T' rfl X'
    exact ⟨t2, st t2 a1, b1⟩
  · obtain ⟨k1, k2, k3⟩ := vx_keep h0 e1 hS hAX hf hL hF
    obtain ⟨t2, a1, b1⟩ := kx E ce q u t T'.heap (locs ++ L) e1.symm (by rw [← e2]; exact X'.warmed.alike) hp hb k1 k2 k3 (by rw [e1]; exact hce) hcv hcl T' rfl X'
    exact ⟨t2, st.trans a1, b1⟩
end KVXQ
section KCALL
variable {p : Program} {l : Launch} {e : Env} {R : Room} {s : State} {m : MethodId} {args : Array Value} {below : List Frame} {meth : Method} {c : Code} {H : Heap} {locs : List Loc} {cells slots : Nat} {Q : State → Prop}
variable {pc : Nat} {ls : Array Slot} {rest st0 : List Value} {a : Array Value} {mc ms : Nat} {G : kG} {H0 : Heap}
theorem kPreS {w0 : va_W} {As : List Value} (hE : kE G s H0) (hS : va_S (kA G) H0 H locs) (hV : kV G w0 H) : PreS s H (kPc G As w0) As :=
  ⟨kPc_blind, fun U hU hW => ⟨rfl, by rw [hU]; exact kE_warm hW hS hE, by rw [hU]; exact hV⟩⟩
theorem kPreV {w0 : va_W} {As : List Value} {b ci : Nat} {fs : List Value} {C : String} {T : u_T} {N : Nat} (hE : kE G s H0) (hS : va_S (kA G) H0 H locs) (hV : kV G w0 H) (q0 : Nat) (he : w0[q0]? = some (b, .inr (ci, fs))) (hc : vwCl[ci]? = some (C, T, N)) : PreV s H C b (kPc G (.ref b :: As) w0) As :=
  ⟨kPc_blind, va_recv (tys := kT G) hE.1 hV.1 hc he, fun U hU hW => ⟨rfl, by rw [hU]; exact kE_warm hW hS hE, by rw [hU]; exact hV⟩⟩
theorem kPreI {w0 : va_W} {As : List Value} {b : Nat} (hE : kE G s H0) (hS : va_S (kA G) H0 H locs) (hV : kV G w0 H) : PreS s H (kPc G (.ref b :: As) w0) (.ref b :: As) := kPreS hE hS hV
theorem kc_i {S : Type} {post : Int32 → S → Prop} {wf : S → va_W} (hr : va_Run p l e R s m args below meth c H locs cells slots mc ms (F0 m pc ls st0) rest (kQi G post wf a) (kA G)) (hS : va_S (kA G) H0 H locs)
    (kk : ∀ (r : Int32) (u : S) (H1 : Heap) (locs1 : List Loc), post r u → kV G (wf u) H1 → va_S (kA G) H0 H1 locs1 → W p l e R s m args below meth c H1 locs1 (cells + mc) (slots + ms) Q (F0 m (pc + 3) ls (.int r :: rest))) : W p l e R s m args below meth c H locs cells slots Q (F0 m pc ls st0) :=
  va_calli hr hS (fun _ _ h => h) (fun _ h => h) (fun r u t H1 locs1 ht _ hp hB _ _ hS1 => kk r u H1 locs1 hp (ht ▸ hB) hS1)
theorem kc_v {S : Type} {post : S → Prop} {wf : S → va_W} (hr : va_Run p l e R s m args below meth c H locs cells slots mc ms (F0 m pc ls st0) rest (kQv G post wf a) (kA G)) (hS : va_S (kA G) H0 H locs)
    (kk : ∀ (u : S) (H1 : Heap) (locs1 : List Loc), post u → kV G (wf u) H1 → va_S (kA G) H0 H1 locs1 → W p l e R s m args below meth c H1 locs1 (cells + mc) (slots + ms) Q (F0 m (pc + 3) ls rest)) : W p l e R s m args below meth c H locs cells slots Q (F0 m pc ls st0) :=
  va_callv hr hS (fun _ _ h => h) (fun _ h => h) (fun u t H1 locs1 ht _ hp hB _ _ hS1 => kk u H1 locs1 hp (ht ▸ hB) hS1)
theorem kc_q {S : Type} {post : Option Nat → S → Prop} {wf : S → va_W} (hr : va_Run p l e R s m args below meth c H locs cells slots mc ms (F0 m pc ls st0) rest (kQq G post wf a) (kA G)) (hS : va_S (kA G) H0 H locs)
    (kk : ∀ (r : Option Nat) (u : S) (H1 : Heap) (locs1 : List Loc), post r u → kV G (wf u) H1 → va_S (kA G) H0 H1 locs1 → W p l e R s m args below meth c H1 locs1 (cells + mc) (slots + ms) Q (F0 m (pc + 3) ls (va_rf r :: rest))) : W p l e R s m args below meth c H locs cells slots Q (F0 m pc ls st0) :=
  va_callq hr hS (fun _ _ h => h) (fun _ h => h) (fun r u t H1 locs1 ht _ hp hB _ _ hS1 => kk r u H1 locs1 hp (ht ▸ hB) hS1)
theorem kx_i {S : Type} {post : Int32 → S → Prop} {wf : S → va_W} {xc : String → Prop} {w0 : va_W} (hr : vx_Run p l e R s m args below meth c H locs cells slots mc ms (F0 m pc ls st0) rest (kQi G post wf a) (kXC G xc w0) (kA G)) (hS : va_S (kA G) H0 H locs)
    (kx : ∀ (E : String) (ce : Cell) (q9 : Addr) (H1 : Heap) (locs1 : List Loc), xc E → kV G w0 H1 → va_S (kA G) H0 H1 locs1 → H1[q9]? = some ce → ce.vm = .none → s.vm.findClass E = some ce.cls → vx_W p l e R s m args below meth c H1 locs1 (cells + mc) (slots + ms) Q (F0 m pc ls rest) q9)
    (kk : ∀ (r : Int32) (u : S) (H1 : Heap) (locs1 : List Loc), post r u → kV G (wf u) H1 → va_S (kA G) H0 H1 locs1 → W p l e R s m args below meth c H1 locs1 (cells + mc) (slots + ms) Q (F0 m (pc + 3) ls (.int r :: rest))) : W p l e R s m args below meth c H locs cells slots Q (F0 m pc ls st0) :=
  vx_calli hr hS (fun _ _ h => h) (fun _ h => h) (fun _ _ h => h) (fun E ce q9 _ t H1 locs1 ht _ _ hB _ _ hS1 g1 g2 g3 => kx E ce q9 H1 locs1 hB.1 (ht ▸ hB.2) hS1 g1 g2 g3) (fun r u t H1 locs1 ht _ hp hB _ _ hS1 => kk r u H1 locs1 hp (ht ▸ hB) hS1)
theorem kx_v {S : Type} {post : S → Prop} {wf : S → va_W} {xc : String → Prop} {w0 : va_W} (hr : vx_Run p l e R s m args below meth c H locs cells slots mc ms (F0 m pc ls st0) rest (kQv G post wf a) (kXC G xc w0) (kA G)) (hS : va_S (kA G) H0 H locs)
    (kx : ∀ (E : String) (ce : Cell) (q9 : Addr) (H1 : Heap) (locs1 : List Loc), xc E → kV G w0 H1 → va_S (kA G) H0 H1 locs1 → H1[q9]? = some ce → ce.vm = .none → s.vm.findClass E = some ce.cls → vx_W p l e R s m args below meth c H1 locs1 (cells + mc) (slots + ms) Q (F0 m pc ls rest) q9)
    (kk : ∀ (u : S) (H1 : Heap) (locs1 : List Loc), post u → kV G (wf u) H1 → va_S (kA G) H0 H1 locs1 → W p l e R s m args below meth c H1 locs1 (cells + mc) (slots + ms) Q (F0 m (pc + 3) ls rest)) : W p l e R s m args below meth c H locs cells slots Q (F0 m pc ls st0) :=
  vx_callv hr hS (fun _ _ h => h) (fun _ h => h) (fun _ _ h => h) (fun E ce q9 _ t H1 locs1 ht _ _ hB _ _ hS1 g1 g2 g3 => kx E ce q9 H1 locs1 hB.1 (ht ▸ hB.2) hS1 g1 g2 g3) (fun u t H1 locs1 ht _ hp hB _ _ hS1 => kk u H1 locs1 hp (ht ▸ hB) hS1)
theorem kx_q {S : Type} {post : Option Nat → S → Prop} {wf : S → va_W} {xc : String → Prop} {w0 : va_W} (hr : vx_Run p l e R s m args below meth c H locs cells slots mc ms (F0 m pc ls st0) rest (kQq G post wf a) (kXC G xc w0) (kA G)) (hS : va_S (kA G) H0 H locs)
    (kx : ∀ (E : String) (ce : Cell) (q9 : Addr) (H1 : Heap) (locs1 : List Loc), xc E → kV G w0 H1 → va_S (kA G) H0 H1 locs1 → H1[q9]? = some ce → ce.vm = .none → s.vm.findClass E = some ce.cls → vx_W p l e R s m args below meth c H1 locs1 (cells + mc) (slots + ms) Q (F0 m pc ls rest) q9)
    (kk : ∀ (r : Option Nat) (u : S) (H1 : Heap) (locs1 : List Loc), post r u → kV G (wf u) H1 → va_S (kA G) H0 H1 locs1 → W p l e R s m args below meth c H1 locs1 (cells + mc) (slots + ms) Q (F0 m (pc + 3) ls (va_rf r :: rest))) : W p l e R s m args below meth c H locs cells slots Q (F0 m pc ls st0) :=
  vx_callq hr hS (fun _ _ h => h) (fun _ h => h) (fun _ _ h => h) (fun E ce q9 _ t H1 locs1 ht _ _ hB _ _ hS1 g1 g2 g3 => kx E ce q9 H1 locs1 hB.1 (ht ▸ hB.2) hS1 g1 g2 g3) (fun r u t H1 locs1 ht _ hp hB _ _ hS1 => kk r u H1 locs1 hp (ht ▸ hB) hS1)
end KCALL
/-! cells whose numbers are counts -/
abbrev aN (cA : ClassId) (n : Nat) (g : Nat → Nat) : va_E := .inl (cA, n, .inl (fun i => nI (g i)))
def zI (z : Int) : Int32 := Int32.ofInt z
abbrev aZ (cA : ClassId) (n : Nat) (g : Nat → Int) : va_E := .inl (cA, n, .inl (fun i => zI (g i)))
abbrev aR (cA : ClassId) (n : Nat) (g : Nat → Int32) : va_E := .inl (cA, n, .inl g)
theorem kn_upd {g : Nat → Nat} {j v : Nat} (hj : j < 2 ^ 31) : upd (fun i => nI (g i)) (nI j).toNatClampNeg (nI v) = fun i => nI (va_up g j v i) := by
  rw [nI_clamp hj]
  funext i
  simp only [upd, va_up]
  by_cases h : i = j <;> simp [h]
theorem kz_upd {g : Nat → Int} {j : Nat} {v : Int} (hj : j < 2 ^ 31) : upd (fun i => zI (g i)) (nI j).toNatClampNeg (zI v) = fun i => zI (va_up g j v i) := by
  rw [nI_clamp hj]
  funext i
  simp only [upd, va_up]
  by_cases h : i = j <;> simp [h]
theorem kr_upd {g : Nat → Int32} {j : Nat} {v : Int32} (hj : j < 2 ^ 31) : upd g (nI j).toNatClampNeg v = va_up g j v := by
  rw [nI_clamp hj]
  funext i
  simp only [upd, va_up]
section KNUM
variable {p : Program} {l : Launch} {e : Env} {R : Room} {s : State} {m : MethodId} {args : Array Value} {below : List Frame} {meth : Method} {c : Code} {H : Heap} {locs : List Loc} {cells slots : Nat} {Q : State → Prop}
variable {cc : ByteArray} {pc : Nat} {ls : Array Slot} {rest : List Value} {G : kG} {H0 : Heap} {ws : va_W} {a : Nat}
theorem kn_add (hexec : p.tables.exec = Jvm.exec) (hb : c.code = cc) {x y : Nat} (hdg : decode cc pc = .ok (.iadd, 1))
    (k : W p l e R s m args below meth c H locs cells slots Q (F0 m (pc + 1) ls (.int (nI (x + y)) :: rest))) : W p l e R s m args below meth c H locs cells slots Q (F0 m pc ls (.int (nI y) :: .int (nI x) :: rest)) :=
  lv_iadd hexec hb hdg (by rw [nI_add]; exact k)
theorem kn_sub (hexec : p.tables.exec = Jvm.exec) (hb : c.code = cc) {x y : Nat} (h : y ≤ x) (hdg : decode cc pc = .ok (.isub, 1))
    (k : W p l e R s m args below meth c H locs cells slots Q (F0 m (pc + 1) ls (.int (nI (x - y)) :: rest))) : W p l e R s m args below meth c H locs cells slots Q (F0 m pc ls (.int (nI y) :: .int (nI x) :: rest)) :=
  lv_isub hexec hb hdg (by rw [pk_sub h]; exact k)
theorem kn_mul (hexec : p.tables.exec = Jvm.exec) (hb : c.code = cc) {x y : Nat} (hdg : decode cc pc = .ok (.imul, 1))
    (k : W p l e R s m args below meth c H locs cells slots Q (F0 m (pc + 1) ls (.int (nI (x * y)) :: rest))) : W p l e R s m args below meth c H locs cells slots Q (F0 m pc ls (.int (nI y) :: .int (nI x) :: rest)) :=
  lv_imul hexec hb hdg (by rw [pk_mul]; exact k)
theorem kn_div (hexec : p.tables.exec = Jvm.exec) (hb : c.code = cc) {x y : Nat} (hx : x < 2 ^ 31) (h0 : 0 < y) (hy : y < 2 ^ 31) (hdg : decode cc pc = .ok (.idiv, 1))
    (k : W p l e R s m args below meth c H locs cells slots Q (F0 m (pc + 1) ls (.int (nI (x / y)) :: rest))) : W p l e R s m args below meth c H locs cells slots Q (F0 m pc ls (.int (nI y) :: .int (nI x) :: rest)) :=
  lv_idiv hexec hb hdg (nI_ne0 h0 hy) (by rw [pk_div hx h0 hy]; exact k)
theorem kn_rem (hexec : p.tables.exec = Jvm.exec) (hb : c.code = cc) {x y : Nat} (hx : x < 2 ^ 31) (h0 : 0 < y) (hy : y < 2 ^ 31) (hdg : decode cc pc = .ok (.irem, 1))
    (k : W p l e R s m args below meth c H locs cells slots Q (F0 m (pc + 1) ls (.int (nI (x % y)) :: rest))) : W p l e R s m args below meth c H locs cells slots Q (F0 m pc ls (.int (nI y) :: .int (nI x) :: rest)) :=
  lv_irem hexec hb hdg (nI_ne0 h0 hy) (by rw [pk_rem hx h0 hy]; exact k)
theorem kn_lt (hexec : p.tables.exec = Jvm.exec) (hb : c.code = cc) {x y : Nat} {off : Int} {tgt : Nat} (hx : x < 2 ^ 31) (hy : y < 2 ^ 31) (hdg : decode cc pc = .ok (.if_icmp .lt off, 3)) (ht : (pc : Int) + off = (tgt : Int))
    (kt : x < y → W p l e R s m args below meth c H locs cells slots Q (F0 m tgt ls rest)) (kf : y ≤ x → W p l e R s m args below meth c H locs cells slots Q (F0 m (pc + 3) ls rest)) : W p l e R s m args below meth c H locs cells slots Q (F0 m pc ls (.int (nI y) :: .int (nI x) :: rest)) :=
  lv_icmp_lt hexec hb hdg ht (fun h => kt ((nI_ltI hx hy).mp h)) (fun h => kf (Nat.not_lt.mp (fun z => h ((nI_ltI hx hy).mpr z))))
theorem kn_ge (hexec : p.tables.exec = Jvm.exec) (hb : c.code = cc) {x y : Nat} {off : Int} {tgt : Nat} (hx : x < 2 ^ 31) (hy : y < 2 ^ 31) (hdg : decode cc pc = .ok (.if_icmp .ge off, 3)) (ht : (pc : Int) + off = (tgt : Int))
    (kt : y ≤ x → W p l e R s m args below meth c H locs cells slots Q (F0 m tgt ls rest)) (kf : x < y → W p l e R s m args below meth c H locs cells slots Q (F0 m (pc + 3) ls rest)) : W p l e R s m args below meth c H locs cells slots Q (F0 m pc ls (.int (nI y) :: .int (nI x) :: rest)) :=
  lv_icmp_ge hexec hb hdg ht (fun h => kt ((nI_leI hy hx).mp h)) (fun h => kf (Nat.not_le.mp (fun z => h ((nI_leI hy hx).mpr z))))
theorem kn_gt (hexec : p.tables.exec = Jvm.exec) (hb : c.code = cc) {x y : Nat} {off : Int} {tgt : Nat} (hx : x < 2 ^ 31) (hy : y < 2 ^ 31) (hdg : decode cc pc = .ok (.if_icmp .gt off, 3)) (ht : (pc : Int) + off = (tgt : Int))
    (kt : y < x → W p l e R s m args below meth c H locs cells slots Q (F0 m tgt ls rest)) (kf : x ≤ y → W p l e R s m args below meth c H locs cells slots Q (F0 m (pc + 3) ls rest)) : W p l e R s m args below meth c H locs cells slots Q (F0 m pc ls (.int (nI y) :: .int (nI x) :: rest)) :=
  lv_icmp_gt hexec hb hdg ht (fun h => kt ((nI_ltI hy hx).mp h)) (fun h => kf (Nat.not_lt.mp (fun z => h ((nI_ltI hy hx).mpr z))))
theorem kn_le (hexec : p.tables.exec = Jvm.exec) (hb : c.code = cc) {x y : Nat} {off : Int} {tgt : Nat} (hx : x < 2 ^ 31) (hy : y < 2 ^ 31) (hdg : decode cc pc = .ok (.if_icmp .le off, 3)) (ht : (pc : Int) + off = (tgt : Int))
    (kt : x ≤ y → W p l e R s m args below meth c H locs cells slots Q (F0 m tgt ls rest)) (kf : y < x → W p l e R s m args below meth c H locs cells slots Q (F0 m (pc + 3) ls rest)) : W p l e R s m args below meth c H locs cells slots Q (F0 m pc ls (.int (nI y) :: .int (nI x) :: rest)) :=
  lv_icmp_le hexec hb hdg ht (fun h => kt ((nI_leI hx hy).mp h)) (fun h => kf (Nat.not_le.mp (fun z => h ((nI_leI hx hy).mpr z))))
theorem kn_eq (hexec : p.tables.exec = Jvm.exec) (hb : c.code = cc) {x y : Nat} {off : Int} {tgt : Nat} (hx : x < 2 ^ 31) (hy : y < 2 ^ 31) (hdg : decode cc pc = .ok (.if_icmp .eq off, 3)) (ht : (pc : Int) + off = (tgt : Int))
    (kt : x = y → W p l e R s m args below meth c H locs cells slots Q (F0 m tgt ls rest)) (kf : x ≠ y → W p l e R s m args below meth c H locs cells slots Q (F0 m (pc + 3) ls rest)) : W p l e R s m args below meth c H locs cells slots Q (F0 m pc ls (.int (nI y) :: .int (nI x) :: rest)) :=
  lv_icmp_eq hexec hb hdg ht (fun h => kt ((nI_eq hx hy).mp h)) (fun h => kf (fun z => h ((nI_eq hx hy).mpr z)))
theorem kn_ne (hexec : p.tables.exec = Jvm.exec) (hb : c.code = cc) {x y : Nat} {off : Int} {tgt : Nat} (hx : x < 2 ^ 31) (hy : y < 2 ^ 31) (hdg : decode cc pc = .ok (.if_icmp .ne off, 3)) (ht : (pc : Int) + off = (tgt : Int))
    (kt : x ≠ y → W p l e R s m args below meth c H locs cells slots Q (F0 m tgt ls rest)) (kf : x = y → W p l e R s m args below meth c H locs cells slots Q (F0 m (pc + 3) ls rest)) : W p l e R s m args below meth c H locs cells slots Q (F0 m pc ls (.int (nI y) :: .int (nI x) :: rest)) :=
  lv_icmp_ne hexec hb hdg ht (fun h => kt (fun z => h ((nI_eq hx hy).mpr z))) (fun h => kf ((nI_eq hx hy).mp h))
theorem kn_if_eq (hexec : p.tables.exec = Jvm.exec) (hb : c.code = cc) {x : Nat} {off : Int} {tgt : Nat} (hx : x < 2 ^ 31) (hdg : decode cc pc = .ok (.ifCond .eq off, 3)) (ht : (pc : Int) + off = (tgt : Int))
    (kt : x = 0 → W p l e R s m args below meth c H locs cells slots Q (F0 m tgt ls rest)) (kf : x ≠ 0 → W p l e R s m args below meth c H locs cells slots Q (F0 m (pc + 3) ls rest)) : W p l e R s m args below meth c H locs cells slots Q (F0 m pc ls (.int (nI x) :: rest)) :=
  lv_if_eq hexec hb hdg ht (fun h => kt ((nI_eq hx (by decide)).mp (h.trans nI_0.symm))) (fun h => kf (fun z => h (by rw [z]; exact nI_0)))
theorem kn_if_ne (hexec : p.tables.exec = Jvm.exec) (hb : c.code = cc) {x : Nat} {off : Int} {tgt : Nat} (hx : x < 2 ^ 31) (hdg : decode cc pc = .ok (.ifCond .ne off, 3)) (ht : (pc : Int) + off = (tgt : Int))
    (kt : x ≠ 0 → W p l e R s m args below meth c H locs cells slots Q (F0 m tgt ls rest)) (kf : x = 0 → W p l e R s m args below meth c H locs cells slots Q (F0 m (pc + 3) ls rest)) : W p l e R s m args below meth c H locs cells slots Q (F0 m pc ls (.int (nI x) :: rest)) :=
  lv_if_ne hexec hb hdg ht (fun h => kt (fun z => h (by rw [z]; exact nI_0))) (fun h => kf ((nI_eq hx (by decide)).mp (h.trans nI_0.symm)))
theorem kn_iald (hexec : p.tables.exec = Jvm.exec) (hb : c.code = cc) (hK : va_K (kD G) vwCl (kT G) s) (hV : kV G ws H) (q0 : Nat) {n : Nat} {g : Nat → Nat} (ha : ws[q0]? = some (a, aN (kcI G) n g)) {j : Nat} (hj : j < n) (hn : n < 2 ^ 31) (hdg : decode cc pc = .ok (.iaload, 1))
    (kk : W p l e R s m args below meth c H locs cells slots Q (F0 m (pc + 1) ls (.int (nI (g j)) :: rest))) : W p l e R s m args below meth c H locs cells slots Q (F0 m pc ls (.int (nI j) :: .ref a :: rest)) :=
  va_iald hexec hb hK hV.1 q0 0 ha rfl (vp_in_nI hj hn) hdg (by rw [nI_clamp (Nat.lt_trans hj hn)]; exact kk)
theorem kz_iald (hexec : p.tables.exec = Jvm.exec) (hb : c.code = cc) (hK : va_K (kD G) vwCl (kT G) s) (hV : kV G ws H) (q0 : Nat) {n : Nat} {g : Nat → Int} (ha : ws[q0]? = some (a, aZ (kcI G) n g)) {j : Nat} (hj : j < n) (hn : n < 2 ^ 31) (hdg : decode cc pc = .ok (.iaload, 1))
    (kk : W p l e R s m args below meth c H locs cells slots Q (F0 m (pc + 1) ls (.int (zI (g j)) :: rest))) : W p l e R s m args below meth c H locs cells slots Q (F0 m pc ls (.int (nI j) :: .ref a :: rest)) :=
  va_iald hexec hb hK hV.1 q0 0 ha rfl (vp_in_nI hj hn) hdg (by rw [nI_clamp (Nat.lt_trans hj hn)]; exact kk)
theorem kr_iald (hexec : p.tables.exec = Jvm.exec) (hb : c.code = cc) (hK : va_K (kD G) vwCl (kT G) s) (hV : kV G ws H) (q0 : Nat) {n : Nat} {g : Nat → Int32} (ha : ws[q0]? = some (a, aR (kcI G) n g)) {j : Nat} (hj : j < n) (hn : n < 2 ^ 31) (hdg : decode cc pc = .ok (.iaload, 1))
    (kk : W p l e R s m args below meth c H locs cells slots Q (F0 m (pc + 1) ls (.int (g j) :: rest))) : W p l e R s m args below meth c H locs cells slots Q (F0 m pc ls (.int (nI j) :: .ref a :: rest)) :=
  va_iald hexec hb hK hV.1 q0 0 ha rfl (vp_in_nI hj hn) hdg (by rw [nI_clamp (Nat.lt_trans hj hn)]; exact kk)
theorem kn_zald (hexec : p.tables.exec = Jvm.exec) (hb : c.code = cc) (hK : va_K (kD G) vwCl (kT G) s) (hV : kV G ws H) (q0 : Nat) {n : Nat} {g : Nat → Nat} (ha : ws[q0]? = some (a, aN (kcZ G) n g)) {j : Nat} (hj : j < n) (hn : n < 2 ^ 31) (hdg : decode cc pc = .ok (.baload, 1))
    (kk : W p l e R s m args below meth c H locs cells slots Q (F0 m (pc + 1) ls (.int (nI (g j)) :: rest))) : W p l e R s m args below meth c H locs cells slots Q (F0 m pc ls (.int (nI j) :: .ref a :: rest)) :=
  va_zald hexec hb hK hV.1 q0 1 ha rfl (vp_in_nI hj hn) hdg (by rw [nI_clamp (Nat.lt_trans hj hn)]; exact kk)
theorem kn_iast (hexec : p.tables.exec = Jvm.exec) (hb : c.code = cc) (hK : va_K (kD G) vwCl (kT G) s) (hV : kV G ws H) (hS : va_S (kA G) H0 H locs) (q0 : Nat) {n : Nat} {g : Nat → Nat} (ha : ws[q0]? = some (a, aN (kcI G) n g)) {j v : Nat} (hj : j < n) (hn : n < 2 ^ 31) (hdg : decode cc pc = .ok (.iastore, 1))
    (kk : ∀ (H1 : Heap) (locs1 : List Loc), kV G (ws.set q0 (a, aN (kcI G) n (va_up g j v))) H1 → va_S (kA G) H0 H1 locs1 → W p l e R s m args below meth c H1 locs1 cells slots Q (F0 m (pc + 1) ls rest)) : W p l e R s m args below meth c H locs cells slots Q (F0 m pc ls (.int (nI v) :: .int (nI j) :: .ref a :: rest)) :=
  va_iast hexec hb hK hV.1 hV.2 hS q0 0 ha rfl (vp_in_nI hj hn) hdg (by rw [kn_upd (Nat.lt_trans hj hn)]; exact fun H1 locs1 h1 h2 h3 => kk H1 locs1 ⟨h1, h2⟩ h3)
theorem kz_iast (hexec : p.tables.exec = Jvm.exec) (hb : c.code = cc) (hK : va_K (kD G) vwCl (kT G) s) (hV : kV G ws H) (hS : va_S (kA G) H0 H locs) (q0 : Nat) {n : Nat} {g : Nat → Int} (ha : ws[q0]? = some (a, aZ (kcI G) n g)) {j : Nat} {v : Int} (hj : j < n) (hn : n < 2 ^ 31) (hdg : decode cc pc = .ok (.iastore, 1))
    (kk : ∀ (H1 : Heap) (locs1 : List Loc), kV G (ws.set q0 (a, aZ (kcI G) n (va_up g j v))) H1 → va_S (kA G) H0 H1 locs1 → W p l e R s m args below meth c H1 locs1 cells slots Q (F0 m (pc + 1) ls rest)) : W p l e R s m args below meth c H locs cells slots Q (F0 m pc ls (.int (zI v) :: .int (nI j) :: .ref a :: rest)) :=
  va_iast hexec hb hK hV.1 hV.2 hS q0 0 ha rfl (vp_in_nI hj hn) hdg (by rw [kz_upd (Nat.lt_trans hj hn)]; exact fun H1 locs1 h1 h2 h3 => kk H1 locs1 ⟨h1, h2⟩ h3)
theorem kr_iast (hexec : p.tables.exec = Jvm.exec) (hb : c.code = cc) (hK : va_K (kD G) vwCl (kT G) s) (hV : kV G ws H) (hS : va_S (kA G) H0 H locs) (q0 : Nat) {n : Nat} {g : Nat → Int32} (ha : ws[q0]? = some (a, aR (kcI G) n g)) {j : Nat} {v : Int32} (hj : j < n) (hn : n < 2 ^ 31) (hdg : decode cc pc = .ok (.iastore, 1))
    (kk : ∀ (H1 : Heap) (locs1 : List Loc), kV G (ws.set q0 (a, aR (kcI G) n (va_up g j v))) H1 → va_S (kA G) H0 H1 locs1 → W p l e R s m args below meth c H1 locs1 cells slots Q (F0 m (pc + 1) ls rest)) : W p l e R s m args below meth c H locs cells slots Q (F0 m pc ls (.int v :: .int (nI j) :: .ref a :: rest)) :=
  va_iast hexec hb hK hV.1 hV.2 hS q0 0 ha rfl (vp_in_nI hj hn) hdg (by rw [kr_upd (Nat.lt_trans hj hn)]; exact fun H1 locs1 h1 h2 h3 => kk H1 locs1 ⟨h1, h2⟩ h3)
/-- a boolean array is told 1 -/
theorem kn_zast1 (hexec : p.tables.exec = Jvm.exec) (hb : c.code = cc) (hK : va_K (kD G) vwCl (kT G) s) (hV : kV G ws H) (hS : va_S (kA G) H0 H locs) (q0 : Nat) {n : Nat} {g : Nat → Nat} (ha : ws[q0]? = some (a, aN (kcZ G) n g)) {j : Nat} (hj : j < n) (hn : n < 2 ^ 31) (hdg : decode cc pc = .ok (.bastore, 1))
    (kk : ∀ (H1 : Heap) (locs1 : List Loc), kV G (ws.set q0 (a, aN (kcZ G) n (va_up g j 1))) H1 → va_S (kA G) H0 H1 locs1 → W p l e R s m args below meth c H1 locs1 cells slots Q (F0 m (pc + 1) ls rest)) : W p l e R s m args below meth c H locs cells slots Q (F0 m pc ls (.int (nI 1) :: .int (nI j) :: .ref a :: rest)) :=
  va_zast hexec hb hK hV.1 hV.2 hS q0 1 ha rfl (vp_in_nI hj hn) hdg (by rw [show vp_nar .boolean (nI 1) = nI 1 from by decide, kn_upd (Nat.lt_trans hj hn)]; exact fun H1 locs1 h1 h2 h3 => kk H1 locs1 ⟨h1, h2⟩ h3)
end KNUM
theorem kn_iinc (x : Nat) (n : Nat) : nI x + Int32.ofInt (n : Int) = nI (x + n) := by
  rw [show Int32.ofInt (n : Int) = nI n from rfl, nI_add]
/-! truth values as 0 and 1; a choice that asks for no decision -/
noncomputable def kb (c : Prop) : Nat := @ite _ c (Classical.propDecidable c) 1 0
theorem kb_t {c : Prop} (h : c) : kb c = 1 := by unfold kb; exact if_pos h
theorem kb_f {c : Prop} (h : ¬ c) : kb c = 0 := by unfold kb; exact if_neg h
theorem kb_lt (c : Prop) : kb c < 2 ^ 31 := by
  by_cases h : c
  · rw [kb_t h]; decide
  · rw [kb_f h]; decide
theorem kb_nar (c : Prop) : narrow .boolean (.int (nI (kb c))) = .int (nI (kb c)) := by
  by_cases h : c
  · rw [kb_t h]; decide
  · rw [kb_f h]; decide
noncomputable def kif {α : Sort _} (c : Prop) (a b : α) : α := @ite α c (Classical.propDecidable c) a b
theorem kif_t {α : Sort _} {c : Prop} {a b : α} (h : c) : kif c a b = a := by unfold kif; exact if_pos h
theorem kif_f {α : Sort _} {c : Prop} {a b : α} (h : ¬ c) : kif c a b = b := by unfold kif; exact if_neg h
section KNUM2
variable {p : Program} {l : Launch} {e : Env} {R : Room} {s : State} {m : MethodId} {args : Array Value} {below : List Frame} {meth : Method} {c : Code} {H : Heap} {locs : List Loc} {cells slots : Nat} {Q : State → Prop}
variable {cc : ByteArray} {pc : Nat} {ls : Array Slot} {rest : List Value}
theorem kb_if_eq (hexec : p.tables.exec = Jvm.exec) (hb : c.code = cc) {x : Prop} {off : Int} {tgt : Nat} (hdg : decode cc pc = .ok (.ifCond .eq off, 3)) (ht : (pc : Int) + off = (tgt : Int))
    (kt : ¬ x → W p l e R s m args below meth c H locs cells slots Q (F0 m tgt ls rest)) (kf : x → W p l e R s m args below meth c H locs cells slots Q (F0 m (pc + 3) ls rest)) : W p l e R s m args below meth c H locs cells slots Q (F0 m pc ls (.int (nI (kb x)) :: rest)) :=
  kn_if_eq hexec hb (kb_lt x) hdg ht (fun h => kt (fun z => by rw [kb_t z] at h; cases h)) (fun h => kf (Classical.byContradiction fun z => h (kb_f z)))
theorem kb_if_ne (hexec : p.tables.exec = Jvm.exec) (hb : c.code = cc) {x : Prop} {off : Int} {tgt : Nat} (hdg : decode cc pc = .ok (.ifCond .ne off, 3)) (ht : (pc : Int) + off = (tgt : Int))
    (kt : x → W p l e R s m args below meth c H locs cells slots Q (F0 m tgt ls rest)) (kf : ¬ x → W p l e R s m args below meth c H locs cells slots Q (F0 m (pc + 3) ls rest)) : W p l e R s m args below meth c H locs cells slots Q (F0 m pc ls (.int (nI (kb x)) :: rest)) :=
  kn_if_ne hexec hb (kb_lt x) hdg ht (fun h => kt (Classical.byContradiction fun z => h (kb_f z))) (fun h => kf (fun z => by rw [kb_t z] at h; cases h))
theorem kn_if_eq_lit (hexec : p.tables.exec = Jvm.exec) (hb : c.code = cc) {x : Nat} {off : Int} {tgt : Nat} (hx : x = 0) (hdg : decode cc pc = .ok (.ifCond .eq off, 3)) (ht : (pc : Int) + off = (tgt : Int))
    (k : W p l e R s m args below meth c H locs cells slots Q (F0 m tgt ls rest)) : W p l e R s m args below meth c H locs cells slots Q (F0 m pc ls (.int (nI x) :: rest)) :=
  lv_if_eq hexec hb hdg ht (fun _ => k) (fun h => absurd (by rw [hx]; exact nI_0) h)
theorem kn_if_eq_not (hexec : p.tables.exec = Jvm.exec) (hb : c.code = cc) {x : Nat} {off : Int} (hx : 0 < x ∧ x < 2 ^ 31) (hdg : decode cc pc = .ok (.ifCond .eq off, 3))
    (k : W p l e R s m args below meth c H locs cells slots Q (F0 m (pc + 3) ls rest)) (tgt : Nat) (ht : (pc : Int) + off = (tgt : Int)) : W p l e R s m args below meth c H locs cells slots Q (F0 m pc ls (.int (nI x) :: rest)) :=
  lv_if_eq hexec hb hdg ht (fun h => absurd h (nI_ne0 hx.1 hx.2)) (fun _ => k)
theorem kn_if_ne_lit (hexec : p.tables.exec = Jvm.exec) (hb : c.code = cc) {x : Nat} {off : Int} {tgt : Nat} (hx : 0 < x ∧ x < 2 ^ 31) (hdg : decode cc pc = .ok (.ifCond .ne off, 3)) (ht : (pc : Int) + off = (tgt : Int))
    (k : W p l e R s m args below meth c H locs cells slots Q (F0 m tgt ls rest)) : W p l e R s m args below meth c H locs cells slots Q (F0 m pc ls (.int (nI x) :: rest)) :=
  lv_if_ne hexec hb hdg ht (fun _ => k) (fun h => absurd h (nI_ne0 hx.1 hx.2))
theorem kn_if_ne_not (hexec : p.tables.exec = Jvm.exec) (hb : c.code = cc) {x : Nat} {off : Int} (hx : x = 0) (hdg : decode cc pc = .ok (.ifCond .ne off, 3))
    (k : W p l e R s m args below meth c H locs cells slots Q (F0 m (pc + 3) ls rest)) (tgt : Nat) (ht : (pc : Int) + off = (tgt : Int)) : W p l e R s m args below meth c H locs cells slots Q (F0 m pc ls (.int (nI x) :: rest)) :=
  lv_if_ne hexec hb hdg ht (fun h => absurd (by rw [hx]; exact nI_0) h) (fun _ => k)
theorem kn_if_le (hexec : p.tables.exec = Jvm.exec) (hb : c.code = cc) {x : Nat} {off : Int} {tgt : Nat} (hx : x < 2 ^ 31) (hdg : decode cc pc = .ok (.ifCond .le off, 3)) (ht : (pc : Int) + off = (tgt : Int))
    (kt : x = 0 → W p l e R s m args below meth c H locs cells slots Q (F0 m tgt ls rest)) (kf : 0 < x → W p l e R s m args below meth c H locs cells slots Q (F0 m (pc + 3) ls rest)) : W p l e R s m args below meth c H locs cells slots Q (F0 m pc ls (.int (nI x) :: rest)) :=
  lv_if_le hexec hb hdg ht (fun h => kt (by
    rcases Nat.eq_zero_or_pos x with q | q
    · exact q
    · exact absurd h (nI_nle q hx))) (fun h => kf (by
    rcases Nat.eq_zero_or_pos x with q | q
    · subst q; exact absurd (by decide) h
    · exact q))
theorem kn_if_gt (hexec : p.tables.exec = Jvm.exec) (hb : c.code = cc) {x : Nat} {off : Int} {tgt : Nat} (hx : x < 2 ^ 31) (hdg : decode cc pc = .ok (.ifCond .gt off, 3)) (ht : (pc : Int) + off = (tgt : Int))
    (kt : 0 < x → W p l e R s m args below meth c H locs cells slots Q (F0 m tgt ls rest)) (kf : x = 0 → W p l e R s m args below meth c H locs cells slots Q (F0 m (pc + 3) ls rest)) : W p l e R s m args below meth c H locs cells slots Q (F0 m pc ls (.int (nI x) :: rest)) :=
  lv_if_gt hexec hb hdg ht (fun h => kt (by
    rcases Nat.eq_zero_or_pos x with q | q
    · subst q; exact absurd h (by decide)
    · exact q)) (fun h => kf (by
    rcases Nat.eq_zero_or_pos x with q | q
    · exact q
    · exact absurd ((nI_ltI (a := 0) (by decide) hx).mpr q) h))
/-- a negative jump's row for a value that may be a reference or null -/
theorem kq_ifnull (hexec : p.tables.exec = Jvm.exec) (hb : c.code = cc) {o : Option Nat} {off : Int} {tgt : Nat} (hdg : decode cc pc = .ok (.ifnull off, 3)) (ht : (pc : Int) + off = (tgt : Int))
    (kt : o = none → W p l e R s m args below meth c H locs cells slots Q (F0 m tgt ls rest)) (kf : o ≠ none → W p l e R s m args below meth c H locs cells slots Q (F0 m (pc + 3) ls rest)) : W p l e R s m args below meth c H locs cells slots Q (F0 m pc ls (va_rf o :: rest)) := by
  cases o with
  | none => exact lv_ifnullN hexec hb hdg ht (kt rfl)
  | some x => exact lv_ifnull hexec hb hdg (kf (fun h => nomatch h))
theorem kq_ifnonnull (hexec : p.tables.exec = Jvm.exec) (hb : c.code = cc) {o : Option Nat} {off : Int} {tgt : Nat} (hdg : decode cc pc = .ok (.ifnonnull off, 3)) (ht : (pc : Int) + off = (tgt : Int))
    (kt : o ≠ none → W p l e R s m args below meth c H locs cells slots Q (F0 m tgt ls rest)) (kf : o = none → W p l e R s m args below meth c H locs cells slots Q (F0 m (pc + 3) ls rest)) : W p l e R s m args below meth c H locs cells slots Q (F0 m pc ls (va_rf o :: rest)) := by
  cases o with
  | none => exact lv_ifnonnullN hexec hb hdg (kf rfl)
  | some x => exact lv_ifnonnull hexec hb hdg ht (kt (fun h => nomatch h))
theorem zI_add (a b : Int) : zI a + zI b = zI (a + b) := (Int32.ofInt_add a b).symm
theorem zI_nI (n : Nat) : nI n = zI (n : Int) := rfl
theorem kz_add (hexec : p.tables.exec = Jvm.exec) (hb : c.code = cc) {x : Nat} {y : Int} (hdg : decode cc pc = .ok (.iadd, 1))
    (k : W p l e R s m args below meth c H locs cells slots Q (F0 m (pc + 1) ls (.int (zI ((x : Int) + y)) :: rest))) : W p l e R s m args below meth c H locs cells slots Q (F0 m pc ls (.int (zI y) :: .int (nI x) :: rest)) :=
  lv_iadd hexec hb hdg (by rw [zI_nI, zI_add]; exact k)
end KNUM2
theorem kn_idec {x n : Nat} (h : n ≤ x) : nI x + Int32.ofInt (-(n : Int)) = nI (x - n) := by
  rw [show Int32.ofInt (-(n : Int)) = zI (-(n : Int)) from rfl, zI_nI, zI_add, zI_nI]
  congr 1
  omega
/-- a list's words by their places -/
theorem tb_of {big ws : List Cond} (ps : List Nat) (hp : ws = ps.filterMap (fun i => big[i]?)) : ∀ w ∈ ws, w ∈ big := by
  intro w hw
  rw [hp] at hw
  obtain ⟨i, -, hi⟩ := List.mem_filterMap.mp hw
  exact List.mem_of_getElem? hi
/-- a world's known cells, in another order -/
theorem kV_part {G : kG} {X cx pl : va_W} {H : Heap} (h : kV G (X ++ pl) H) (is : List Nat) (hn : va_nd is = true) (hs : is.map (fun i => X[i]?) = cx.map some) : kV G (cx ++ pl) H := ⟨h.1.part is hs, h.2.part is hn hs⟩
