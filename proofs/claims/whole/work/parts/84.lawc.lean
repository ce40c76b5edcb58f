/-! the law's switch: a case, from its first instruction to the switch's end -/
noncomputable abbrev lwV (G : kG) (S : kS) (y : kY) (ol : Nat) (g : Nat → Int64) (h : Nat) (ad : Nat → Nat) (rf rl rw : Nat) : va_W := siteW G S y ++ ([(ol, .inl (kcL G, 1, .inr (.inl g)))] ++ kM G h ad rf rl rw S)
theorem lgc_self (x : Int64) : lg_cmp x x = 0 := by
  unfold lg_cmp
  rw [if_neg (fun z => Int64.lt_irrefl z), if_pos rfl]
section LAWS
variable {p : Program} {l : Launch} {e : Env} {R : Room} {s : State} {m : MethodId} {args : Array Value} {below : List Frame} {meth : Method} {c : Code} {H : Heap} {locs : List Loc} {cells slots : Nat} {Q : State → Prop}
variable {cc : ByteArray} {pc : Nat} {ls : Array Slot} {rest : List Value} {G : kG}
theorem kn_sld (hexec : p.tables.exec = Jvm.exec) (hb : c.code = cc) {b L : Nat} {xs : Nat → Int32} (hX : va_X b L xs s s.heap) (hbl : b < s.heap.size) (hbA : ¬ kA G b) (hS : va_S (kA G) s.heap H locs) {j : Nat} (hj : j < L) (hL : L < 2 ^ 31) (hdg : decode cc pc = .ok (.iaload, 1))
    (kk : W p l e R s m args below meth c H locs cells slots Q (F0 m (pc + 1) ls (.int (xs j) :: rest))) : W p l e R s m args below meth c H locs cells slots Q (F0 m pc ls (.int (nI j) :: .ref b :: rest)) :=
  va_sld hexec hb hX hbl hbA hS (vp_in_nI hj hL) hdg (by rw [nI_clamp (Nat.lt_trans hj hL)]; exact kk)
end LAWS
section LAWC
variable {pp : Program} {l : Launch} {ee : Env} {s : State} {m : MethodId} {below : List Frame} {meth : Method} {cc0 : Code} {b L : Nat} {xs : Nat → Int32} {G : kG} {Q : State → Prop}

set_option maxHeartbeats 4000000 in
set_option maxRecDepth 100000 in
theorem lw_c_begin (hlt : l.stackTraces = false) (hL : L ≤ 3072) (hx : pp.tables.exec = Jvm.exec) (hb : cc0.code = cL_law) (hml : cc0.maxLocals = 7) (hown : s.vm.findClass RL = some m.cls) (hts : ∀ w ∈ wsL_law, w.before #[Value.ref b] s = true) (hX : va_X b L xs s s.heap) (hbl : b < s.heap.size) (hbA : ¬ kA G b) (hE : kE G s s.heap)
    (i : Nat) (hi : i + 6 ≤ L) (S : kS) (y : kY) (ol : Nat) (g : Nat → Int64) (h : Nat) (ad : Nat → Nat) (rf rl rw : Nat) (hI : kInv S) (hY : yI G S y) (cells slots : Nat) (hcs : cells + 20 ≤ 601024) (hsl : slots + 2000 ≤ 7293034) (H : Heap) (locs : List Loc) (hV : kV G (lwV G S y ol g h ad rf rl rw) H) (hS : va_S (kA G) s.heap H locs) (ls : Array Slot) (hl : lv_has ls 7 [(0, .ref b), (1, .ref (yH y 0)), (2, .ref h), (3, .ref ol), (4, .int (nI i))])
    (kk : ∀ (S2 : kS) (y2 : kY) (g2 : Nat → Int64) (rf2 rl2 rw2 : Nat) (H : Heap) (locs : List Loc), kInv S2 → yI G S2 y2 → yH y2 0 = yH y 0 → kV G (lwV G S2 y2 ol g2 h ad rf2 rl2 rw2) H → va_S (kA G) s.heap H locs → ∀ (ls : Array Slot), lv_has ls 7 [(0, .ref b), (1, .ref (yH y 0)), (2, .ref h), (3, .ref ol), (4, .int (nI i))] → W pp l ee room_1 s m #[Value.ref b] below meth cc0 H locs (cells + 20) (slots + 2000) Q (F0 m 1436 ls [])) :
    W pp l ee room_1 s m #[Value.ref b] below meth cc0 H locs cells slots Q (F0 m 132 ls []) := by
  have hK := hE.1
  have hF : CallFix pp m cc0 cL_law 7 s #[Value.ref b] wsL_law RL := ⟨hx, hb, hml, hown, hts⟩
  refine lv_aload_n hx hb dL_law_132 rfl (lv_at hl 1 rfl) ?_
  refine lv_aload_n hx hb dL_law_133 rfl (lv_at hl 0 rfl) ?_
  refine lv_iload hx hb dL_law_134 (lv_at hl 4 rfl) ?_
  refine lv_iconst (v := nI 1) hx hb dL_law_136 (by decide) ?_
  refine kn_add hx hb dL_law_137 ?_
  refine kn_sld hx hb hX hbl hbA hS (j := i + 1) (by omega) (by omega) dL_law_138 ?_
  refine lv_aload_n hx hb dL_law_139 rfl (lv_at hl 0 rfl) ?_
  refine lv_iload hx hb dL_law_140 (lv_at hl 4 rfl) ?_
  refine lv_iconst (v := nI 2) hx hb dL_law_142 (by decide) ?_
  refine kn_add hx hb dL_law_143 ?_
  refine kn_sld hx hb hX hbl hbA hS (j := i + 2) (by omega) (by omega) dL_law_144 ?_
  refine lv_aload_n hx hb dL_law_145 rfl (lv_at hl 0 rfl) ?_
  refine lv_iload hx hb dL_law_146 (lv_at hl 4 rfl) ?_
  refine lv_iconst (v := nI 3) hx hb dL_law_148 (by decide) ?_
  refine kn_add hx hb dL_law_149 ?_
  refine kn_sld hx hb hX hbl hbA hS (j := i + 3) (by omega) (by omega) dL_law_150 ?_
  refine lv_aload_n hx hb dL_law_151 rfl (lv_at hl 3 rfl) ?_
  refine kc_i (vx_runSW (As := [.ref (yH y 0), .int (xs (i + 1)), .int (xs (i + 2)), .int (xs (i + 3)), .ref ol]) (rest := []) hF (c_L_begin l G S y ol g (kM G h ad rf rl rw S) (xs (i + 1)) (xs (i + 2)) (xs (i + 3)) hlt hI hY) (vx_cwSW 5 hts gL_law_L_begin rfl rfl rfl (by decide +kernel) ⟨Nat.le_of_ble_eq_true rfl, Nat.le_of_ble_eq_true rfl⟩) (kPreS hE hS hV) rfl rfl hl.1 rfl (lv_room (Nat.le_of_ble_eq_true rfl)) dL_law_152 ⟨(show cells + 16 ≤ 601024 by omega), (show slots + 1760 ≤ 7293034 by omega)⟩) hS (fun r1 u1 H locs hp hV hS => ?_)
  obtain ⟨hp0, hp1, hp2, hp3⟩ := hp
  subst hp0
  refine lv_istore (lv' := [(5, .int (nI (opBegin S (xs (i + 1)) (xs (i + 2)) (xs (i + 3))).1)), (0, .ref b), (1, .ref (yH y 0)), (2, .ref h), (3, .ref ol), (4, .int (nI i))]) hx hb dL_law_155 hl (by decide) rfl (fun ls hl => ?_)
  have hV : kV G (kM G h ad rf rl rw S ++ (siteW G (opBegin S (xs (i + 1)) (xs (i + 2)) (xs (i + 3))).2.2 u1.1 ++ [(ol, .inl (kcL G, 1, .inr (.inl u1.2)))])) _ := kV_wc hV (fun e => by simp only [wc_app]; omega)
  refine lv_aload_n hx hb dL_law_157 rfl (lv_at hl 3 rfl) ?_
  refine lv_aload_n hx hb dL_law_158 rfl (lv_at hl 1 rfl) ?_
  refine lv_iload hx hb dL_law_159 (lv_at hl 5 rfl) ?_
  refine lv_iconst (v := nI 1) hx hb dL_law_161 (by decide) ?_
  refine kn_add hx hb dL_law_162 ?_
  refine kn_sld hx hb hX hbl hbA hS (j := i + 1) (by omega) (by omega) dL_law_163 ?_
  refine lv_aload_n hx hb dL_law_164 rfl (lv_at hl 1 rfl) ?_
  refine lv_iload hx hb dL_law_165 (lv_at hl 5 rfl) ?_
  refine lv_iconst (v := nI 2) hx hb dL_law_167 (by decide) ?_
  refine kn_add hx hb dL_law_168 ?_
  refine kn_sld hx hb hX hbl hbA hS (j := i + 2) (by omega) (by omega) dL_law_169 ?_
  refine lv_aload_n hx hb dL_law_170 rfl (lv_at hl 1 rfl) ?_
  refine lv_iload hx hb dL_law_171 (lv_at hl 5 rfl) ?_
  refine lv_iconst (v := nI 3) hx hb dL_law_173 (by decide) ?_
  refine kn_add hx hb dL_law_174 ?_
  refine kn_sld hx hb hX hbl hbA hS (j := i + 3) (by omega) (by omega) dL_law_175 ?_
  refine kc_i (va_runV (As := [.int (xs (i + 1)), .int (xs (i + 2)), .int (xs (i + 3))]) (rest := []) hF (c_X6_begin l G h ad rf rl rw S (siteW G (opBegin S (xs (i + 1)) (xs (i + 2)) (xs (i + 3))).2.2 u1.1 ++ [(ol, .inl (kcL G, 1, .inr (.inl u1.2)))]) (xs (i + 1)) (xs (i + 2)) (xs (i + 3)) hI) (cwV 3 hts gL_law_X6_begin rfl rfl rfl (by decide +kernel) ⟨Nat.le_of_ble_eq_true rfl, Nat.le_of_ble_eq_true rfl⟩) (kPreV hE hS hV 0 rfl rfl) rfl rfl hl.1 rfl (lv_room (Nat.le_of_ble_eq_true rfl)) dL_law_176 ⟨(show cells + 16 + 0 ≤ 601024 by omega), (show slots + 1760 + 0 ≤ 7293034 by omega)⟩) hS (fun r2 u2 H locs hq hV hS => ?_)
  subst hq
  refine lv_istore (lv' := [(6, .int (opBegin S (xs (i + 1)) (xs (i + 2)) (xs (i + 3))).2.1), (5, .int (nI (opBegin S (xs (i + 1)) (xs (i + 2)) (xs (i + 3))).1)), (0, .ref b), (1, .ref (yH y 0)), (2, .ref h), (3, .ref ol), (4, .int (nI i))]) hx hb dL_law_179 hl (by decide) rfl (fun ls hl => ?_)
  have hV : kV G (kM G h ad (opBegin S (xs (i + 1)) (xs (i + 2)) (xs (i + 3))).1 u2.1 u2.2 (opBegin S (xs (i + 1)) (xs (i + 2)) (xs (i + 3))).2.2 ++ (siteW G (opBegin S (xs (i + 1)) (xs (i + 2)) (xs (i + 3))).2.2 u1.1 ++ [(ol, .inl (kcL G, 1, .inr (.inl u1.2)))])) _ := hV
  refine lv_aload_n hx hb dL_law_181 rfl (lv_at hl 4 rfl) ?_
  refine kc_i (va_runV (As := []) (rest := []) hF (c_X6_thrown l G h ad (opBegin S (xs (i + 1)) (xs (i + 2)) (xs (i + 3))).1 u2.1 u2.2 (opBegin S (xs (i + 1)) (xs (i + 2)) (xs (i + 3))).2.2 (siteW G (opBegin S (xs (i + 1)) (xs (i + 2)) (xs (i + 3))).2.2 u1.1 ++ [(ol, .inl (kcL G, 1, .inr (.inl u1.2)))])) (cwV 0 hts gL_law_X6_thrown rfl rfl rfl (by decide +kernel) ⟨Nat.le_of_ble_eq_true rfl, Nat.le_of_ble_eq_true rfl⟩) (kPreV hE hS hV 0 rfl rfl) rfl rfl hl.1 rfl (lv_room (Nat.le_of_ble_eq_true rfl)) dL_law_182 ⟨(show cells + 16 + 0 + 0 ≤ 601024 by omega), (show slots + 1760 + 0 + 0 ≤ 7293034 by omega)⟩) hS (fun r3 u3 H locs hq3 hV hS => ?_)
  subst hq3
  have hV1 : kV G (kM G h ad (opBegin S (xs (i + 1)) (xs (i + 2)) (xs (i + 3))).1 u2.1 u2.2 (opBegin S (xs (i + 1)) (xs (i + 2)) (xs (i + 3))).2.2 ++ (siteW G (opBegin S (xs (i + 1)) (xs (i + 2)) (xs (i + 3))).2.2 u1.1 ++ [(ol, .inl (kcL G, 1, .inr (.inl u1.2)))])) _ := hV
  have hV2 : kV G (lwV G (opBegin S (xs (i + 1)) (xs (i + 2)) (xs (i + 3))).2.2 u1.1 ol u1.2 h ad (opBegin S (xs (i + 1)) (xs (i + 2)) (xs (i + 3))).1 u2.1 u2.2) _ := kV_wc hV1 (fun e => by simp only [wc_app]; omega)
  have hV3 : kV G ([(ol, .inl (kcL G, 1, .inr (.inl u1.2)))] ++ (siteW G (opBegin S (xs (i + 1)) (xs (i + 2)) (xs (i + 3))).2.2 u1.1 ++ kM G h ad (opBegin S (xs (i + 1)) (xs (i + 2)) (xs (i + 3))).1 u2.1 u2.2 (opBegin S (xs (i + 1)) (xs (i + 2)) (xs (i + 3))).2.2)) _ := kV_wc hV1 (fun e => by simp only [wc_app]; omega)
  have hl9 : lv_has ls 7 [(0, .ref b), (1, .ref (yH y 0)), (2, .ref h), (3, .ref ol), (4, .int (nI i))] := lv_sub hl [2, 3, 4, 5, 6] rfl
  have hfin : W pp l ee room_1 s m #[Value.ref b] below meth cc0 H locs (cells + 16 + 0 + 0) (slots + 1760 + 0 + 0) Q (F0 m 1436 ls []) := by
    refine W.widen (k := cells + 20) (n := slots + 2000) (by omega) (by omega) ?_
    exact kk (opBegin S (xs (i + 1)) (xs (i + 2)) (xs (i + 3))).2.2 u1.1 u1.2 (opBegin S (xs (i + 1)) (xs (i + 2)) (xs (i + 3))).1 u2.1 u2.2 H locs (kI_Begin hI (xs (i + 1)) (xs (i + 2)) (xs (i + 3))) hp1 hp2 hV2 hS ls hl9
  refine lv_iload hx hb dL_law_185 (lv_at hl 1 rfl) ?_
  refine lv_icmp_eq (tgt := 192) hx hb dL_law_187 (by decide) (fun _ => ?_) (fun z => absurd rfl z)
  refine lv_iload hx hb dL_law_192 (lv_at hl 1 rfl) ?_
  refine kn_if_ne (tgt := 209) hx hb (o1_Begin _ _ _ _) dL_law_194 (by decide) (fun _ => lv_goto (tgt := 1436) hx hb dL_law_209 (by decide) hfin) (fun hz => ?_)
  refine lv_aload_n hx hb dL_law_197 rfl (lv_at hl 5 rfl) ?_
  refine lv_iconst (v := nI 0) hx hb dL_law_198 (by decide) ?_
  refine va_lald hx hb hK hV3.1 0 3 rfl rfl (show vp_in (nI 0) 1 from vp_in_nI (by decide) (by decide)) dL_law_199 ?_
  rw [show u1.2 (nI 0).toNatClampNeg = (opBegin S (xs (i + 1)) (xs (i + 2)) (xs (i + 3))).2.1.toInt64 from hp3 hz]
  refine lv_iload hx hb dL_law_200 (lv_at hl 0 rfl) ?_
  refine lv_i2l (v := (opBegin S (xs (i + 1)) (xs (i + 2)) (xs (i + 3))).2.1.toInt64) hx hb dL_law_202 rfl ?_
  refine W.lcmp hx hb dL_law_203 ?_
  rw [lgc_self]
  refine lv_if_eq (tgt := 209) hx hb dL_law_204 (by decide) (fun _ => lv_goto (tgt := 1436) hx hb dL_law_209 (by decide) hfin) (fun z => absurd rfl z)
set_option maxHeartbeats 4000000 in
set_option maxRecDepth 100000 in
theorem lw_c_line (hlt : l.stackTraces = false) (hL : L ≤ 3072) (hx : pp.tables.exec = Jvm.exec) (hb : cc0.code = cL_law) (hml : cc0.maxLocals = 7) (hown : s.vm.findClass RL = some m.cls) (hts : ∀ w ∈ wsL_law, w.before #[Value.ref b] s = true) (hX : va_X b L xs s s.heap) (hbl : b < s.heap.size) (hbA : ¬ kA G b) (hE : kE G s s.heap)
    (i : Nat) (hi : i + 6 ≤ L) (S : kS) (y : kY) (ol : Nat) (g : Nat → Int64) (h : Nat) (ad : Nat → Nat) (rf rl rw : Nat) (hI : kInv S) (hY : yI G S y) (cells slots : Nat) (hcs : cells + 20 ≤ 601024) (hsl : slots + 2000 ≤ 7293034) (H : Heap) (locs : List Loc) (hV : kV G (lwV G S y ol g h ad rf rl rw) H) (hS : va_S (kA G) s.heap H locs) (ls : Array Slot) (hl : lv_has ls 7 [(0, .ref b), (1, .ref (yH y 0)), (2, .ref h), (3, .ref ol), (4, .int (nI i))])
    (kk : ∀ (S2 : kS) (y2 : kY) (g2 : Nat → Int64) (rf2 rl2 rw2 : Nat) (H : Heap) (locs : List Loc), kInv S2 → yI G S2 y2 → yH y2 0 = yH y 0 → kV G (lwV G S2 y2 ol g2 h ad rf2 rl2 rw2) H → va_S (kA G) s.heap H locs → ∀ (ls : Array Slot), lv_has ls 7 [(0, .ref b), (1, .ref (yH y 0)), (2, .ref h), (3, .ref ol), (4, .int (nI i))] → W pp l ee room_1 s m #[Value.ref b] below meth cc0 H locs (cells + 20) (slots + 2000) Q (F0 m 1436 ls [])) :
    W pp l ee room_1 s m #[Value.ref b] below meth cc0 H locs cells slots Q (F0 m 212 ls []) := by
  have hK := hE.1
  have hF : CallFix pp m cc0 cL_law 7 s #[Value.ref b] wsL_law RL := ⟨hx, hb, hml, hown, hts⟩
  refine lv_aload_n hx hb dL_law_212 rfl (lv_at hl 1 rfl) ?_
  refine lv_aload_n hx hb dL_law_213 rfl (lv_at hl 0 rfl) ?_
  refine lv_iload hx hb dL_law_214 (lv_at hl 4 rfl) ?_
  refine lv_iconst (v := nI 1) hx hb dL_law_216 (by decide) ?_
  refine kn_add hx hb dL_law_217 ?_
  refine kn_sld hx hb hX hbl hbA hS (j := i + 1) (by omega) (by omega) dL_law_218 ?_
  refine lv_aload_n hx hb dL_law_219 rfl (lv_at hl 0 rfl) ?_
  refine lv_iload hx hb dL_law_220 (lv_at hl 4 rfl) ?_
  refine lv_iconst (v := nI 2) hx hb dL_law_222 (by decide) ?_
  refine kn_add hx hb dL_law_223 ?_
  refine kn_sld hx hb hX hbl hbA hS (j := i + 2) (by omega) (by omega) dL_law_224 ?_
  refine lv_aload_n hx hb dL_law_225 rfl (lv_at hl 0 rfl) ?_
  refine lv_iload hx hb dL_law_226 (lv_at hl 4 rfl) ?_
  refine lv_iconst (v := nI 3) hx hb dL_law_228 (by decide) ?_
  refine kn_add hx hb dL_law_229 ?_
  refine kn_sld hx hb hX hbl hbA hS (j := i + 3) (by omega) (by omega) dL_law_230 ?_
  refine lv_aload_n hx hb dL_law_231 rfl (lv_at hl 0 rfl) ?_
  refine lv_iload hx hb dL_law_232 (lv_at hl 4 rfl) ?_
  refine lv_iconst (v := nI 4) hx hb dL_law_234 (by decide) ?_
  refine kn_add hx hb dL_law_235 ?_
  refine kn_sld hx hb hX hbl hbA hS (j := i + 4) (by omega) (by omega) dL_law_236 ?_
  refine lv_aload_n hx hb dL_law_237 rfl (lv_at hl 0 rfl) ?_
  refine lv_iload hx hb dL_law_238 (lv_at hl 4 rfl) ?_
  refine lv_iconst (v := nI 5) hx hb dL_law_240 (by decide) ?_
  refine kn_add hx hb dL_law_241 ?_
  refine kn_sld hx hb hX hbl hbA hS (j := i + 5) (by omega) (by omega) dL_law_242 ?_
  refine lv_aload_n hx hb dL_law_243 rfl (lv_at hl 3 rfl) ?_
  refine kc_i (vx_runSW (As := [.ref (yH y 0), .int (xs (i + 1)), .int (xs (i + 2)), .int (xs (i + 3)), .int (xs (i + 4)), .int (xs (i + 5)), .ref ol]) (rest := []) hF (c_L_line l G S y ol g (kM G h ad rf rl rw S) (xs (i + 1)) (xs (i + 2)) (xs (i + 3)) (xs (i + 4)) (xs (i + 5)) hlt hI hY) (vx_cwSW 7 hts gL_law_L_line rfl rfl rfl (by decide +kernel) ⟨Nat.le_of_ble_eq_true rfl, Nat.le_of_ble_eq_true rfl⟩) (kPreS hE hS hV) rfl rfl hl.1 rfl (lv_room (Nat.le_of_ble_eq_true rfl)) dL_law_244 ⟨(show cells + 6 ≤ 601024 by omega), (show slots + 36 ≤ 7293034 by omega)⟩) hS (fun r1 u1 H locs hp hV hS => ?_)
  obtain ⟨hp0, hp1, hp2, hp3⟩ := hp
  subst hp0
  refine lv_istore (lv' := [(5, .int (nI (opLine S (xs (i + 1)) (xs (i + 2)) (xs (i + 3)) (xs (i + 4)) (xs (i + 5))).1)), (0, .ref b), (1, .ref (yH y 0)), (2, .ref h), (3, .ref ol), (4, .int (nI i))]) hx hb dL_law_247 hl (by decide) rfl (fun ls hl => ?_)
  have hV : kV G (kM G h ad rf rl rw S ++ (siteW G (opLine S (xs (i + 1)) (xs (i + 2)) (xs (i + 3)) (xs (i + 4)) (xs (i + 5))).2.2 u1.1 ++ [(ol, .inl (kcL G, 1, .inr (.inl u1.2)))])) _ := kV_wc hV (fun e => by simp only [wc_app]; omega)
  refine lv_aload_n hx hb dL_law_249 rfl (lv_at hl 3 rfl) ?_
  refine lv_aload_n hx hb dL_law_250 rfl (lv_at hl 1 rfl) ?_
  refine lv_iload hx hb dL_law_251 (lv_at hl 5 rfl) ?_
  refine lv_iconst (v := nI 1) hx hb dL_law_253 (by decide) ?_
  refine kn_add hx hb dL_law_254 ?_
  refine kn_sld hx hb hX hbl hbA hS (j := i + 1) (by omega) (by omega) dL_law_255 ?_
  refine lv_aload_n hx hb dL_law_256 rfl (lv_at hl 1 rfl) ?_
  refine lv_iload hx hb dL_law_257 (lv_at hl 5 rfl) ?_
  refine lv_iconst (v := nI 2) hx hb dL_law_259 (by decide) ?_
  refine kn_add hx hb dL_law_260 ?_
  refine kn_sld hx hb hX hbl hbA hS (j := i + 2) (by omega) (by omega) dL_law_261 ?_
  refine lv_aload_n hx hb dL_law_262 rfl (lv_at hl 1 rfl) ?_
  refine lv_iload hx hb dL_law_263 (lv_at hl 5 rfl) ?_
  refine lv_iconst (v := nI 3) hx hb dL_law_265 (by decide) ?_
  refine kn_add hx hb dL_law_266 ?_
  refine kn_sld hx hb hX hbl hbA hS (j := i + 3) (by omega) (by omega) dL_law_267 ?_
  refine lv_aload_n hx hb dL_law_268 rfl (lv_at hl 1 rfl) ?_
  refine lv_iload hx hb dL_law_269 (lv_at hl 5 rfl) ?_
  refine lv_iconst (v := nI 4) hx hb dL_law_271 (by decide) ?_
  refine kn_add hx hb dL_law_272 ?_
  refine kn_sld hx hb hX hbl hbA hS (j := i + 4) (by omega) (by omega) dL_law_273 ?_
  refine lv_aload_n hx hb dL_law_274 rfl (lv_at hl 1 rfl) ?_
  refine lv_iload hx hb dL_law_275 (lv_at hl 5 rfl) ?_
  refine lv_iconst (v := nI 5) hx hb dL_law_277 (by decide) ?_
  refine kn_add hx hb dL_law_278 ?_
  refine kn_sld hx hb hX hbl hbA hS (j := i + 5) (by omega) (by omega) dL_law_279 ?_
  refine kc_i (va_runV (As := [.int (xs (i + 1)), .int (xs (i + 2)), .int (xs (i + 3)), .int (xs (i + 4)), .int (xs (i + 5))]) (rest := []) hF (c_X6_line l G h ad rf rl rw S (siteW G (opLine S (xs (i + 1)) (xs (i + 2)) (xs (i + 3)) (xs (i + 4)) (xs (i + 5))).2.2 u1.1 ++ [(ol, .inl (kcL G, 1, .inr (.inl u1.2)))]) (xs (i + 1)) (xs (i + 2)) (xs (i + 3)) (xs (i + 4)) (xs (i + 5)) hI) (cwV 5 hts gL_law_X6_line rfl rfl rfl (by decide +kernel) ⟨Nat.le_of_ble_eq_true rfl, Nat.le_of_ble_eq_true rfl⟩) (kPreV hE hS hV 0 rfl rfl) rfl rfl hl.1 rfl (lv_room (Nat.le_of_ble_eq_true rfl)) dL_law_280 ⟨(show cells + 6 + 0 ≤ 601024 by omega), (show slots + 36 + 0 ≤ 7293034 by omega)⟩) hS (fun r2 u2 H locs hq hV hS => ?_)
  subst hq
  refine lv_istore (lv' := [(6, .int (opLine S (xs (i + 1)) (xs (i + 2)) (xs (i + 3)) (xs (i + 4)) (xs (i + 5))).2.1), (5, .int (nI (opLine S (xs (i + 1)) (xs (i + 2)) (xs (i + 3)) (xs (i + 4)) (xs (i + 5))).1)), (0, .ref b), (1, .ref (yH y 0)), (2, .ref h), (3, .ref ol), (4, .int (nI i))]) hx hb dL_law_283 hl (by decide) rfl (fun ls hl => ?_)
  have hV : kV G (kM G h ad (opLine S (xs (i + 1)) (xs (i + 2)) (xs (i + 3)) (xs (i + 4)) (xs (i + 5))).1 u2.1 u2.2 (opLine S (xs (i + 1)) (xs (i + 2)) (xs (i + 3)) (xs (i + 4)) (xs (i + 5))).2.2 ++ (siteW G (opLine S (xs (i + 1)) (xs (i + 2)) (xs (i + 3)) (xs (i + 4)) (xs (i + 5))).2.2 u1.1 ++ [(ol, .inl (kcL G, 1, .inr (.inl u1.2)))])) _ := hV
  refine lv_aload_n hx hb dL_law_285 rfl (lv_at hl 4 rfl) ?_
  refine kc_i (va_runV (As := []) (rest := []) hF (c_X6_thrown l G h ad (opLine S (xs (i + 1)) (xs (i + 2)) (xs (i + 3)) (xs (i + 4)) (xs (i + 5))).1 u2.1 u2.2 (opLine S (xs (i + 1)) (xs (i + 2)) (xs (i + 3)) (xs (i + 4)) (xs (i + 5))).2.2 (siteW G (opLine S (xs (i + 1)) (xs (i + 2)) (xs (i + 3)) (xs (i + 4)) (xs (i + 5))).2.2 u1.1 ++ [(ol, .inl (kcL G, 1, .inr (.inl u1.2)))])) (cwV 0 hts gL_law_X6_thrown rfl rfl rfl (by decide +kernel) ⟨Nat.le_of_ble_eq_true rfl, Nat.le_of_ble_eq_true rfl⟩) (kPreV hE hS hV 0 rfl rfl) rfl rfl hl.1 rfl (lv_room (Nat.le_of_ble_eq_true rfl)) dL_law_286 ⟨(show cells + 6 + 0 + 0 ≤ 601024 by omega), (show slots + 36 + 0 + 0 ≤ 7293034 by omega)⟩) hS (fun r3 u3 H locs hq3 hV hS => ?_)
  subst hq3
  have hV1 : kV G (kM G h ad (opLine S (xs (i + 1)) (xs (i + 2)) (xs (i + 3)) (xs (i + 4)) (xs (i + 5))).1 u2.1 u2.2 (opLine S (xs (i + 1)) (xs (i + 2)) (xs (i + 3)) (xs (i + 4)) (xs (i + 5))).2.2 ++ (siteW G (opLine S (xs (i + 1)) (xs (i + 2)) (xs (i + 3)) (xs (i + 4)) (xs (i + 5))).2.2 u1.1 ++ [(ol, .inl (kcL G, 1, .inr (.inl u1.2)))])) _ := hV
  have hV2 : kV G (lwV G (opLine S (xs (i + 1)) (xs (i + 2)) (xs (i + 3)) (xs (i + 4)) (xs (i + 5))).2.2 u1.1 ol u1.2 h ad (opLine S (xs (i + 1)) (xs (i + 2)) (xs (i + 3)) (xs (i + 4)) (xs (i + 5))).1 u2.1 u2.2) _ := kV_wc hV1 (fun e => by simp only [wc_app]; omega)
  have hV3 : kV G ([(ol, .inl (kcL G, 1, .inr (.inl u1.2)))] ++ (siteW G (opLine S (xs (i + 1)) (xs (i + 2)) (xs (i + 3)) (xs (i + 4)) (xs (i + 5))).2.2 u1.1 ++ kM G h ad (opLine S (xs (i + 1)) (xs (i + 2)) (xs (i + 3)) (xs (i + 4)) (xs (i + 5))).1 u2.1 u2.2 (opLine S (xs (i + 1)) (xs (i + 2)) (xs (i + 3)) (xs (i + 4)) (xs (i + 5))).2.2)) _ := kV_wc hV1 (fun e => by simp only [wc_app]; omega)
  have hl9 : lv_has ls 7 [(0, .ref b), (1, .ref (yH y 0)), (2, .ref h), (3, .ref ol), (4, .int (nI i))] := lv_sub hl [2, 3, 4, 5, 6] rfl
  have hfin : W pp l ee room_1 s m #[Value.ref b] below meth cc0 H locs (cells + 6 + 0 + 0) (slots + 36 + 0 + 0) Q (F0 m 1436 ls []) := by
    refine W.widen (k := cells + 20) (n := slots + 2000) (by omega) (by omega) ?_
    exact kk (opLine S (xs (i + 1)) (xs (i + 2)) (xs (i + 3)) (xs (i + 4)) (xs (i + 5))).2.2 u1.1 u1.2 (opLine S (xs (i + 1)) (xs (i + 2)) (xs (i + 3)) (xs (i + 4)) (xs (i + 5))).1 u2.1 u2.2 H locs (kI_Line hI (xs (i + 1)) (xs (i + 2)) (xs (i + 3)) (xs (i + 4)) (xs (i + 5))) hp1 hp2 hV2 hS ls hl9
  refine lv_iload hx hb dL_law_289 (lv_at hl 1 rfl) ?_
  refine lv_icmp_eq (tgt := 296) hx hb dL_law_291 (by decide) (fun _ => ?_) (fun z => absurd rfl z)
  refine lv_iload hx hb dL_law_296 (lv_at hl 1 rfl) ?_
  refine kn_if_ne (tgt := 313) hx hb (o1_Line _ _ _ _ _ _) dL_law_298 (by decide) (fun _ => lv_goto (tgt := 1436) hx hb dL_law_313 (by decide) hfin) (fun hz => ?_)
  refine lv_aload_n hx hb dL_law_301 rfl (lv_at hl 5 rfl) ?_
  refine lv_iconst (v := nI 0) hx hb dL_law_302 (by decide) ?_
  refine va_lald hx hb hK hV3.1 0 3 rfl rfl (show vp_in (nI 0) 1 from vp_in_nI (by decide) (by decide)) dL_law_303 ?_
  rw [show u1.2 (nI 0).toNatClampNeg = (opLine S (xs (i + 1)) (xs (i + 2)) (xs (i + 3)) (xs (i + 4)) (xs (i + 5))).2.1.toInt64 from hp3 hz]
  refine lv_iload hx hb dL_law_304 (lv_at hl 0 rfl) ?_
  refine lv_i2l (v := (opLine S (xs (i + 1)) (xs (i + 2)) (xs (i + 3)) (xs (i + 4)) (xs (i + 5))).2.1.toInt64) hx hb dL_law_306 rfl ?_
  refine W.lcmp hx hb dL_law_307 ?_
  rw [lgc_self]
  refine lv_if_eq (tgt := 313) hx hb dL_law_308 (by decide) (fun _ => lv_goto (tgt := 1436) hx hb dL_law_313 (by decide) hfin) (fun z => absurd rfl z)
set_option maxHeartbeats 4000000 in
set_option maxRecDepth 100000 in
theorem lw_c_anew (hlt : l.stackTraces = false) (hL : L ≤ 3072) (hx : pp.tables.exec = Jvm.exec) (hb : cc0.code = cL_law) (hml : cc0.maxLocals = 7) (hown : s.vm.findClass RL = some m.cls) (hts : ∀ w ∈ wsL_law, w.before #[Value.ref b] s = true) (hX : va_X b L xs s s.heap) (hbl : b < s.heap.size) (hbA : ¬ kA G b) (hE : kE G s s.heap)
    (i : Nat) (hi : i + 6 ≤ L) (S : kS) (y : kY) (ol : Nat) (g : Nat → Int64) (h : Nat) (ad : Nat → Nat) (rf rl rw : Nat) (hI : kInv S) (hY : yI G S y) (cells slots : Nat) (hcs : cells + 20 ≤ 601024) (hsl : slots + 2000 ≤ 7293034) (H : Heap) (locs : List Loc) (hV : kV G (lwV G S y ol g h ad rf rl rw) H) (hS : va_S (kA G) s.heap H locs) (ls : Array Slot) (hl : lv_has ls 7 [(0, .ref b), (1, .ref (yH y 0)), (2, .ref h), (3, .ref ol), (4, .int (nI i))])
    (kk : ∀ (S2 : kS) (y2 : kY) (g2 : Nat → Int64) (rf2 rl2 rw2 : Nat) (H : Heap) (locs : List Loc), kInv S2 → yI G S2 y2 → yH y2 0 = yH y 0 → kV G (lwV G S2 y2 ol g2 h ad rf2 rl2 rw2) H → va_S (kA G) s.heap H locs → ∀ (ls : Array Slot), lv_has ls 7 [(0, .ref b), (1, .ref (yH y 0)), (2, .ref h), (3, .ref ol), (4, .int (nI i))] → W pp l ee room_1 s m #[Value.ref b] below meth cc0 H locs (cells + 20) (slots + 2000) Q (F0 m 1436 ls [])) :
    W pp l ee room_1 s m #[Value.ref b] below meth cc0 H locs cells slots Q (F0 m 316 ls []) := by
  have hK := hE.1
  have hF : CallFix pp m cc0 cL_law 7 s #[Value.ref b] wsL_law RL := ⟨hx, hb, hml, hown, hts⟩
  refine lv_aload_n hx hb dL_law_316 rfl (lv_at hl 1 rfl) ?_
  refine lv_aload_n hx hb dL_law_317 rfl (lv_at hl 0 rfl) ?_
  refine lv_iload hx hb dL_law_318 (lv_at hl 4 rfl) ?_
  refine lv_iconst (v := nI 1) hx hb dL_law_320 (by decide) ?_
  refine kn_add hx hb dL_law_321 ?_
  refine kn_sld hx hb hX hbl hbA hS (j := i + 1) (by omega) (by omega) dL_law_322 ?_
  refine lv_aload_n hx hb dL_law_323 rfl (lv_at hl 0 rfl) ?_
  refine lv_iload hx hb dL_law_324 (lv_at hl 4 rfl) ?_
  refine lv_iconst (v := nI 2) hx hb dL_law_326 (by decide) ?_
  refine kn_add hx hb dL_law_327 ?_
  refine kn_sld hx hb hX hbl hbA hS (j := i + 2) (by omega) (by omega) dL_law_328 ?_
  refine lv_aload_n hx hb dL_law_329 rfl (lv_at hl 3 rfl) ?_
  refine kc_i (vx_runSW (As := [.ref (yH y 0), .int (xs (i + 1)), .int (xs (i + 2)), .ref ol]) (rest := []) hF (c_L_anew l G S y ol g (kM G h ad rf rl rw S) (xs (i + 1)) (xs (i + 2)) hlt hI hY) (vx_cwSW 4 hts gL_law_L_anew rfl rfl rfl (by decide +kernel) ⟨Nat.le_of_ble_eq_true rfl, Nat.le_of_ble_eq_true rfl⟩) (kPreS hE hS hV) rfl rfl hl.1 rfl (lv_room (Nat.le_of_ble_eq_true rfl)) dL_law_330 ⟨(show cells + 18 ≤ 601024 by omega), (show slots + 1772 ≤ 7293034 by omega)⟩) hS (fun r1 u1 H locs hp hV hS => ?_)
  obtain ⟨hp0, hp1, hp2, hp3⟩ := hp
  subst hp0
  refine lv_istore (lv' := [(5, .int (nI (opAnew S (xs (i + 1)) (xs (i + 2))).1)), (0, .ref b), (1, .ref (yH y 0)), (2, .ref h), (3, .ref ol), (4, .int (nI i))]) hx hb dL_law_333 hl (by decide) rfl (fun ls hl => ?_)
  have hV : kV G (kM G h ad rf rl rw S ++ (siteW G (opAnew S (xs (i + 1)) (xs (i + 2))).2.2 u1.1 ++ [(ol, .inl (kcL G, 1, .inr (.inl u1.2)))])) _ := kV_wc hV (fun e => by simp only [wc_app]; omega)
  refine lv_aload_n hx hb dL_law_335 rfl (lv_at hl 3 rfl) ?_
  refine lv_aload_n hx hb dL_law_336 rfl (lv_at hl 1 rfl) ?_
  refine lv_iload hx hb dL_law_337 (lv_at hl 5 rfl) ?_
  refine lv_iconst (v := nI 1) hx hb dL_law_339 (by decide) ?_
  refine kn_add hx hb dL_law_340 ?_
  refine kn_sld hx hb hX hbl hbA hS (j := i + 1) (by omega) (by omega) dL_law_341 ?_
  refine lv_aload_n hx hb dL_law_342 rfl (lv_at hl 1 rfl) ?_
  refine lv_iload hx hb dL_law_343 (lv_at hl 5 rfl) ?_
  refine lv_iconst (v := nI 2) hx hb dL_law_345 (by decide) ?_
  refine kn_add hx hb dL_law_346 ?_
  refine kn_sld hx hb hX hbl hbA hS (j := i + 2) (by omega) (by omega) dL_law_347 ?_
  refine kc_i (va_runV (As := [.int (xs (i + 1)), .int (xs (i + 2))]) (rest := []) hF (c_X6_anew l G h ad rf rl rw S (siteW G (opAnew S (xs (i + 1)) (xs (i + 2))).2.2 u1.1 ++ [(ol, .inl (kcL G, 1, .inr (.inl u1.2)))]) (xs (i + 1)) (xs (i + 2)) hI) (cwV 2 hts gL_law_X6_anew rfl rfl rfl (by decide +kernel) ⟨Nat.le_of_ble_eq_true rfl, Nat.le_of_ble_eq_true rfl⟩) (kPreV hE hS hV 0 rfl rfl) rfl rfl hl.1 rfl (lv_room (Nat.le_of_ble_eq_true rfl)) dL_law_348 ⟨(show cells + 18 + 0 ≤ 601024 by omega), (show slots + 1772 + 0 ≤ 7293034 by omega)⟩) hS (fun r2 u2 H locs hq hV hS => ?_)
  subst hq
  refine lv_istore (lv' := [(6, .int (opAnew S (xs (i + 1)) (xs (i + 2))).2.1), (5, .int (nI (opAnew S (xs (i + 1)) (xs (i + 2))).1)), (0, .ref b), (1, .ref (yH y 0)), (2, .ref h), (3, .ref ol), (4, .int (nI i))]) hx hb dL_law_351 hl (by decide) rfl (fun ls hl => ?_)
  have hV : kV G (kM G h ad (opAnew S (xs (i + 1)) (xs (i + 2))).1 u2.1 u2.2 (opAnew S (xs (i + 1)) (xs (i + 2))).2.2 ++ (siteW G (opAnew S (xs (i + 1)) (xs (i + 2))).2.2 u1.1 ++ [(ol, .inl (kcL G, 1, .inr (.inl u1.2)))])) _ := hV
  refine lv_aload_n hx hb dL_law_353 rfl (lv_at hl 4 rfl) ?_
  refine kc_i (va_runV (As := []) (rest := []) hF (c_X6_thrown l G h ad (opAnew S (xs (i + 1)) (xs (i + 2))).1 u2.1 u2.2 (opAnew S (xs (i + 1)) (xs (i + 2))).2.2 (siteW G (opAnew S (xs (i + 1)) (xs (i + 2))).2.2 u1.1 ++ [(ol, .inl (kcL G, 1, .inr (.inl u1.2)))])) (cwV 0 hts gL_law_X6_thrown rfl rfl rfl (by decide +kernel) ⟨Nat.le_of_ble_eq_true rfl, Nat.le_of_ble_eq_true rfl⟩) (kPreV hE hS hV 0 rfl rfl) rfl rfl hl.1 rfl (lv_room (Nat.le_of_ble_eq_true rfl)) dL_law_354 ⟨(show cells + 18 + 0 + 0 ≤ 601024 by omega), (show slots + 1772 + 0 + 0 ≤ 7293034 by omega)⟩) hS (fun r3 u3 H locs hq3 hV hS => ?_)
  subst hq3
  have hV1 : kV G (kM G h ad (opAnew S (xs (i + 1)) (xs (i + 2))).1 u2.1 u2.2 (opAnew S (xs (i + 1)) (xs (i + 2))).2.2 ++ (siteW G (opAnew S (xs (i + 1)) (xs (i + 2))).2.2 u1.1 ++ [(ol, .inl (kcL G, 1, .inr (.inl u1.2)))])) _ := hV
  have hV2 : kV G (lwV G (opAnew S (xs (i + 1)) (xs (i + 2))).2.2 u1.1 ol u1.2 h ad (opAnew S (xs (i + 1)) (xs (i + 2))).1 u2.1 u2.2) _ := kV_wc hV1 (fun e => by simp only [wc_app]; omega)
  have hV3 : kV G ([(ol, .inl (kcL G, 1, .inr (.inl u1.2)))] ++ (siteW G (opAnew S (xs (i + 1)) (xs (i + 2))).2.2 u1.1 ++ kM G h ad (opAnew S (xs (i + 1)) (xs (i + 2))).1 u2.1 u2.2 (opAnew S (xs (i + 1)) (xs (i + 2))).2.2)) _ := kV_wc hV1 (fun e => by simp only [wc_app]; omega)
  have hl9 : lv_has ls 7 [(0, .ref b), (1, .ref (yH y 0)), (2, .ref h), (3, .ref ol), (4, .int (nI i))] := lv_sub hl [2, 3, 4, 5, 6] rfl
  have hfin : W pp l ee room_1 s m #[Value.ref b] below meth cc0 H locs (cells + 18 + 0 + 0) (slots + 1772 + 0 + 0) Q (F0 m 1436 ls []) := by
    refine W.widen (k := cells + 20) (n := slots + 2000) (by omega) (by omega) ?_
    exact kk (opAnew S (xs (i + 1)) (xs (i + 2))).2.2 u1.1 u1.2 (opAnew S (xs (i + 1)) (xs (i + 2))).1 u2.1 u2.2 H locs (kI_Anew hI (xs (i + 1)) (xs (i + 2))) hp1 hp2 hV2 hS ls hl9
  refine lv_iload hx hb dL_law_357 (lv_at hl 1 rfl) ?_
  refine lv_icmp_eq (tgt := 364) hx hb dL_law_359 (by decide) (fun _ => ?_) (fun z => absurd rfl z)
  refine lv_iload hx hb dL_law_364 (lv_at hl 1 rfl) ?_
  refine kn_if_ne (tgt := 381) hx hb (o1_Anew _ _ _) dL_law_366 (by decide) (fun _ => lv_goto (tgt := 1436) hx hb dL_law_381 (by decide) hfin) (fun hz => ?_)
  refine lv_aload_n hx hb dL_law_369 rfl (lv_at hl 5 rfl) ?_
  refine lv_iconst (v := nI 0) hx hb dL_law_370 (by decide) ?_
  refine va_lald hx hb hK hV3.1 0 3 rfl rfl (show vp_in (nI 0) 1 from vp_in_nI (by decide) (by decide)) dL_law_371 ?_
  rw [show u1.2 (nI 0).toNatClampNeg = (opAnew S (xs (i + 1)) (xs (i + 2))).2.1.toInt64 from hp3 hz]
  refine lv_iload hx hb dL_law_372 (lv_at hl 0 rfl) ?_
  refine lv_i2l (v := (opAnew S (xs (i + 1)) (xs (i + 2))).2.1.toInt64) hx hb dL_law_374 rfl ?_
  refine W.lcmp hx hb dL_law_375 ?_
  rw [lgc_self]
  refine lv_if_eq (tgt := 381) hx hb dL_law_376 (by decide) (fun _ => lv_goto (tgt := 1436) hx hb dL_law_381 (by decide) hfin) (fun z => absurd rfl z)
set_option maxHeartbeats 4000000 in
set_option maxRecDepth 100000 in
theorem lw_c_publish (hlt : l.stackTraces = false) (hL : L ≤ 3072) (hx : pp.tables.exec = Jvm.exec) (hb : cc0.code = cL_law) (hml : cc0.maxLocals = 7) (hown : s.vm.findClass RL = some m.cls) (hts : ∀ w ∈ wsL_law, w.before #[Value.ref b] s = true) (hX : va_X b L xs s s.heap) (hbl : b < s.heap.size) (hbA : ¬ kA G b) (hE : kE G s s.heap)
    (i : Nat) (hi : i + 6 ≤ L) (S : kS) (y : kY) (ol : Nat) (g : Nat → Int64) (h : Nat) (ad : Nat → Nat) (rf rl rw : Nat) (hI : kInv S) (hY : yI G S y) (cells slots : Nat) (hcs : cells + 20 ≤ 601024) (hsl : slots + 2000 ≤ 7293034) (H : Heap) (locs : List Loc) (hV : kV G (lwV G S y ol g h ad rf rl rw) H) (hS : va_S (kA G) s.heap H locs) (ls : Array Slot) (hl : lv_has ls 7 [(0, .ref b), (1, .ref (yH y 0)), (2, .ref h), (3, .ref ol), (4, .int (nI i))])
    (kk : ∀ (S2 : kS) (y2 : kY) (g2 : Nat → Int64) (rf2 rl2 rw2 : Nat) (H : Heap) (locs : List Loc), kInv S2 → yI G S2 y2 → yH y2 0 = yH y 0 → kV G (lwV G S2 y2 ol g2 h ad rf2 rl2 rw2) H → va_S (kA G) s.heap H locs → ∀ (ls : Array Slot), lv_has ls 7 [(0, .ref b), (1, .ref (yH y 0)), (2, .ref h), (3, .ref ol), (4, .int (nI i))] → W pp l ee room_1 s m #[Value.ref b] below meth cc0 H locs (cells + 20) (slots + 2000) Q (F0 m 1436 ls [])) :
    W pp l ee room_1 s m #[Value.ref b] below meth cc0 H locs cells slots Q (F0 m 384 ls []) := by
  have hK := hE.1
  have hF : CallFix pp m cc0 cL_law 7 s #[Value.ref b] wsL_law RL := ⟨hx, hb, hml, hown, hts⟩
  refine lv_aload_n hx hb dL_law_384 rfl (lv_at hl 1 rfl) ?_
  refine lv_aload_n hx hb dL_law_385 rfl (lv_at hl 0 rfl) ?_
  refine lv_iload hx hb dL_law_386 (lv_at hl 4 rfl) ?_
  refine lv_iconst (v := nI 1) hx hb dL_law_388 (by decide) ?_
  refine kn_add hx hb dL_law_389 ?_
  refine kn_sld hx hb hX hbl hbA hS (j := i + 1) (by omega) (by omega) dL_law_390 ?_
  refine lv_aload_n hx hb dL_law_391 rfl (lv_at hl 3 rfl) ?_
  refine kc_i (vx_runSW (As := [.ref (yH y 0), .int (xs (i + 1)), .ref ol]) (rest := []) hF (c_L_publish l G S y ol g (kM G h ad rf rl rw S) (xs (i + 1)) hlt hI hY) (vx_cwSW 3 hts gL_law_L_publish rfl rfl rfl (by decide +kernel) ⟨Nat.le_of_ble_eq_true rfl, Nat.le_of_ble_eq_true rfl⟩) (kPreS hE hS hV) rfl rfl hl.1 rfl (lv_room (Nat.le_of_ble_eq_true rfl)) dL_law_392 ⟨(show cells + 6 ≤ 601024 by omega), (show slots + 80 ≤ 7293034 by omega)⟩) hS (fun r1 u1 H locs hp hV hS => ?_)
  obtain ⟨hp0, hp1, hp2, hp3⟩ := hp
  subst hp0
  refine lv_istore (lv' := [(5, .int (nI (opPublish S (xs (i + 1))).1)), (0, .ref b), (1, .ref (yH y 0)), (2, .ref h), (3, .ref ol), (4, .int (nI i))]) hx hb dL_law_395 hl (by decide) rfl (fun ls hl => ?_)
  have hV : kV G (kM G h ad rf rl rw S ++ (siteW G (opPublish S (xs (i + 1))).2.2 u1.1 ++ [(ol, .inl (kcL G, 1, .inr (.inl u1.2)))])) _ := kV_wc hV (fun e => by simp only [wc_app]; omega)
  refine lv_aload_n hx hb dL_law_397 rfl (lv_at hl 3 rfl) ?_
  refine lv_aload_n hx hb dL_law_398 rfl (lv_at hl 1 rfl) ?_
  refine lv_iload hx hb dL_law_399 (lv_at hl 5 rfl) ?_
  refine lv_iconst (v := nI 1) hx hb dL_law_401 (by decide) ?_
  refine kn_add hx hb dL_law_402 ?_
  refine kn_sld hx hb hX hbl hbA hS (j := i + 1) (by omega) (by omega) dL_law_403 ?_
  refine kc_i (va_runV (As := [.int (xs (i + 1))]) (rest := []) hF (c_X6_publish l G h ad rf rl rw S (siteW G (opPublish S (xs (i + 1))).2.2 u1.1 ++ [(ol, .inl (kcL G, 1, .inr (.inl u1.2)))]) (xs (i + 1)) hI) (cwV 1 hts gL_law_X6_publish rfl rfl rfl (by decide +kernel) ⟨Nat.le_of_ble_eq_true rfl, Nat.le_of_ble_eq_true rfl⟩) (kPreV hE hS hV 0 rfl rfl) rfl rfl hl.1 rfl (lv_room (Nat.le_of_ble_eq_true rfl)) dL_law_404 ⟨(show cells + 6 + 0 ≤ 601024 by omega), (show slots + 80 + 0 ≤ 7293034 by omega)⟩) hS (fun r2 u2 H locs hq hV hS => ?_)
  subst hq
  refine lv_istore (lv' := [(6, .int (opPublish S (xs (i + 1))).2.1), (5, .int (nI (opPublish S (xs (i + 1))).1)), (0, .ref b), (1, .ref (yH y 0)), (2, .ref h), (3, .ref ol), (4, .int (nI i))]) hx hb dL_law_407 hl (by decide) rfl (fun ls hl => ?_)
  have hV : kV G (kM G h ad (opPublish S (xs (i + 1))).1 u2.1 u2.2 (opPublish S (xs (i + 1))).2.2 ++ (siteW G (opPublish S (xs (i + 1))).2.2 u1.1 ++ [(ol, .inl (kcL G, 1, .inr (.inl u1.2)))])) _ := hV
  refine lv_aload_n hx hb dL_law_409 rfl (lv_at hl 4 rfl) ?_
  refine kc_i (va_runV (As := []) (rest := []) hF (c_X6_thrown l G h ad (opPublish S (xs (i + 1))).1 u2.1 u2.2 (opPublish S (xs (i + 1))).2.2 (siteW G (opPublish S (xs (i + 1))).2.2 u1.1 ++ [(ol, .inl (kcL G, 1, .inr (.inl u1.2)))])) (cwV 0 hts gL_law_X6_thrown rfl rfl rfl (by decide +kernel) ⟨Nat.le_of_ble_eq_true rfl, Nat.le_of_ble_eq_true rfl⟩) (kPreV hE hS hV 0 rfl rfl) rfl rfl hl.1 rfl (lv_room (Nat.le_of_ble_eq_true rfl)) dL_law_410 ⟨(show cells + 6 + 0 + 0 ≤ 601024 by omega), (show slots + 80 + 0 + 0 ≤ 7293034 by omega)⟩) hS (fun r3 u3 H locs hq3 hV hS => ?_)
  subst hq3
  have hV1 : kV G (kM G h ad (opPublish S (xs (i + 1))).1 u2.1 u2.2 (opPublish S (xs (i + 1))).2.2 ++ (siteW G (opPublish S (xs (i + 1))).2.2 u1.1 ++ [(ol, .inl (kcL G, 1, .inr (.inl u1.2)))])) _ := hV
  have hV2 : kV G (lwV G (opPublish S (xs (i + 1))).2.2 u1.1 ol u1.2 h ad (opPublish S (xs (i + 1))).1 u2.1 u2.2) _ := kV_wc hV1 (fun e => by simp only [wc_app]; omega)
  have hV3 : kV G ([(ol, .inl (kcL G, 1, .inr (.inl u1.2)))] ++ (siteW G (opPublish S (xs (i + 1))).2.2 u1.1 ++ kM G h ad (opPublish S (xs (i + 1))).1 u2.1 u2.2 (opPublish S (xs (i + 1))).2.2)) _ := kV_wc hV1 (fun e => by simp only [wc_app]; omega)
  have hl9 : lv_has ls 7 [(0, .ref b), (1, .ref (yH y 0)), (2, .ref h), (3, .ref ol), (4, .int (nI i))] := lv_sub hl [2, 3, 4, 5, 6] rfl
  have hfin : W pp l ee room_1 s m #[Value.ref b] below meth cc0 H locs (cells + 6 + 0 + 0) (slots + 80 + 0 + 0) Q (F0 m 1436 ls []) := by
    refine W.widen (k := cells + 20) (n := slots + 2000) (by omega) (by omega) ?_
    exact kk (opPublish S (xs (i + 1))).2.2 u1.1 u1.2 (opPublish S (xs (i + 1))).1 u2.1 u2.2 H locs (kI_Publish hI (xs (i + 1))) hp1 hp2 hV2 hS ls hl9
  refine lv_iload hx hb dL_law_413 (lv_at hl 1 rfl) ?_
  refine lv_icmp_eq (tgt := 420) hx hb dL_law_415 (by decide) (fun _ => ?_) (fun z => absurd rfl z)
  refine lv_iload hx hb dL_law_420 (lv_at hl 1 rfl) ?_
  refine kn_if_ne (tgt := 437) hx hb (o1_Publish _ _) dL_law_422 (by decide) (fun _ => lv_goto (tgt := 1436) hx hb dL_law_437 (by decide) hfin) (fun hz => ?_)
  refine lv_aload_n hx hb dL_law_425 rfl (lv_at hl 5 rfl) ?_
  refine lv_iconst (v := nI 0) hx hb dL_law_426 (by decide) ?_
  refine va_lald hx hb hK hV3.1 0 3 rfl rfl (show vp_in (nI 0) 1 from vp_in_nI (by decide) (by decide)) dL_law_427 ?_
  rw [show u1.2 (nI 0).toNatClampNeg = (opPublish S (xs (i + 1))).2.1.toInt64 from hp3 hz]
  refine lv_iload hx hb dL_law_428 (lv_at hl 0 rfl) ?_
  refine lv_i2l (v := (opPublish S (xs (i + 1))).2.1.toInt64) hx hb dL_law_430 rfl ?_
  refine W.lcmp hx hb dL_law_431 ?_
  rw [lgc_self]
  refine lv_if_eq (tgt := 437) hx hb dL_law_432 (by decide) (fun _ => lv_goto (tgt := 1436) hx hb dL_law_437 (by decide) hfin) (fun z => absurd rfl z)
set_option maxHeartbeats 4000000 in
set_option maxRecDepth 100000 in
theorem lw_c_original (hlt : l.stackTraces = false) (hL : L ≤ 3072) (hx : pp.tables.exec = Jvm.exec) (hb : cc0.code = cL_law) (hml : cc0.maxLocals = 7) (hown : s.vm.findClass RL = some m.cls) (hts : ∀ w ∈ wsL_law, w.before #[Value.ref b] s = true) (hX : va_X b L xs s s.heap) (hbl : b < s.heap.size) (hbA : ¬ kA G b) (hE : kE G s s.heap)
    (i : Nat) (hi : i + 6 ≤ L) (S : kS) (y : kY) (ol : Nat) (g : Nat → Int64) (h : Nat) (ad : Nat → Nat) (rf rl rw : Nat) (hI : kInv S) (hY : yI G S y) (cells slots : Nat) (hcs : cells + 20 ≤ 601024) (hsl : slots + 2000 ≤ 7293034) (H : Heap) (locs : List Loc) (hV : kV G (lwV G S y ol g h ad rf rl rw) H) (hS : va_S (kA G) s.heap H locs) (ls : Array Slot) (hl : lv_has ls 7 [(0, .ref b), (1, .ref (yH y 0)), (2, .ref h), (3, .ref ol), (4, .int (nI i))])
    (kk : ∀ (S2 : kS) (y2 : kY) (g2 : Nat → Int64) (rf2 rl2 rw2 : Nat) (H : Heap) (locs : List Loc), kInv S2 → yI G S2 y2 → yH y2 0 = yH y 0 → kV G (lwV G S2 y2 ol g2 h ad rf2 rl2 rw2) H → va_S (kA G) s.heap H locs → ∀ (ls : Array Slot), lv_has ls 7 [(0, .ref b), (1, .ref (yH y 0)), (2, .ref h), (3, .ref ol), (4, .int (nI i))] → W pp l ee room_1 s m #[Value.ref b] below meth cc0 H locs (cells + 20) (slots + 2000) Q (F0 m 1436 ls [])) :
    W pp l ee room_1 s m #[Value.ref b] below meth cc0 H locs cells slots Q (F0 m 440 ls []) := by
  have hK := hE.1
  have hF : CallFix pp m cc0 cL_law 7 s #[Value.ref b] wsL_law RL := ⟨hx, hb, hml, hown, hts⟩
  refine lv_aload_n hx hb dL_law_440 rfl (lv_at hl 1 rfl) ?_
  refine lv_aload_n hx hb dL_law_441 rfl (lv_at hl 0 rfl) ?_
  refine lv_iload hx hb dL_law_442 (lv_at hl 4 rfl) ?_
  refine lv_iconst (v := nI 1) hx hb dL_law_444 (by decide) ?_
  refine kn_add hx hb dL_law_445 ?_
  refine kn_sld hx hb hX hbl hbA hS (j := i + 1) (by omega) (by omega) dL_law_446 ?_
  refine lv_aload_n hx hb dL_law_447 rfl (lv_at hl 3 rfl) ?_
  refine kc_i (vx_runSW (As := [.ref (yH y 0), .int (xs (i + 1)), .ref ol]) (rest := []) hF (c_L_original l G S y ol g (kM G h ad rf rl rw S) (xs (i + 1)) hlt hI hY) (vx_cwSW 3 hts gL_law_L_original rfl rfl rfl (by decide +kernel) ⟨Nat.le_of_ble_eq_true rfl, Nat.le_of_ble_eq_true rfl⟩) (kPreS hE hS hV) rfl rfl hl.1 rfl (lv_room (Nat.le_of_ble_eq_true rfl)) dL_law_448 ⟨(show cells + 1 ≤ 601024 by omega), (show slots + 6 ≤ 7293034 by omega)⟩) hS (fun r1 u1 H locs hp hV hS => ?_)
  obtain ⟨hp0, hp1, hp2, hp3⟩ := hp
  subst hp0
  refine lv_istore (lv' := [(5, .int (nI (opOriginal S (xs (i + 1))).1)), (0, .ref b), (1, .ref (yH y 0)), (2, .ref h), (3, .ref ol), (4, .int (nI i))]) hx hb dL_law_451 hl (by decide) rfl (fun ls hl => ?_)
  have hV : kV G (kM G h ad rf rl rw S ++ (siteW G (opOriginal S (xs (i + 1))).2.2 u1.1 ++ [(ol, .inl (kcL G, 1, .inr (.inl u1.2)))])) _ := kV_wc hV (fun e => by simp only [wc_app]; omega)
  refine lv_aload_n hx hb dL_law_453 rfl (lv_at hl 3 rfl) ?_
  refine lv_aload_n hx hb dL_law_454 rfl (lv_at hl 1 rfl) ?_
  refine lv_iload hx hb dL_law_455 (lv_at hl 5 rfl) ?_
  refine lv_iconst (v := nI 1) hx hb dL_law_457 (by decide) ?_
  refine kn_add hx hb dL_law_458 ?_
  refine kn_sld hx hb hX hbl hbA hS (j := i + 1) (by omega) (by omega) dL_law_459 ?_
  refine kc_i (va_runV (As := [.int (xs (i + 1))]) (rest := []) hF (c_X6_original l G h ad rf rl rw S (siteW G (opOriginal S (xs (i + 1))).2.2 u1.1 ++ [(ol, .inl (kcL G, 1, .inr (.inl u1.2)))]) (xs (i + 1)) hI) (cwV 1 hts gL_law_X6_original rfl rfl rfl (by decide +kernel) ⟨Nat.le_of_ble_eq_true rfl, Nat.le_of_ble_eq_true rfl⟩) (kPreV hE hS hV 0 rfl rfl) rfl rfl hl.1 rfl (lv_room (Nat.le_of_ble_eq_true rfl)) dL_law_460 ⟨(show cells + 1 + 0 ≤ 601024 by omega), (show slots + 6 + 0 ≤ 7293034 by omega)⟩) hS (fun r2 u2 H locs hq hV hS => ?_)
  subst hq
  refine lv_istore (lv' := [(6, .int (opOriginal S (xs (i + 1))).2.1), (5, .int (nI (opOriginal S (xs (i + 1))).1)), (0, .ref b), (1, .ref (yH y 0)), (2, .ref h), (3, .ref ol), (4, .int (nI i))]) hx hb dL_law_463 hl (by decide) rfl (fun ls hl => ?_)
  have hV : kV G (kM G h ad (opOriginal S (xs (i + 1))).1 u2.1 u2.2 (opOriginal S (xs (i + 1))).2.2 ++ (siteW G (opOriginal S (xs (i + 1))).2.2 u1.1 ++ [(ol, .inl (kcL G, 1, .inr (.inl u1.2)))])) _ := hV
  refine lv_aload_n hx hb dL_law_465 rfl (lv_at hl 4 rfl) ?_
  refine kc_i (va_runV (As := []) (rest := []) hF (c_X6_thrown l G h ad (opOriginal S (xs (i + 1))).1 u2.1 u2.2 (opOriginal S (xs (i + 1))).2.2 (siteW G (opOriginal S (xs (i + 1))).2.2 u1.1 ++ [(ol, .inl (kcL G, 1, .inr (.inl u1.2)))])) (cwV 0 hts gL_law_X6_thrown rfl rfl rfl (by decide +kernel) ⟨Nat.le_of_ble_eq_true rfl, Nat.le_of_ble_eq_true rfl⟩) (kPreV hE hS hV 0 rfl rfl) rfl rfl hl.1 rfl (lv_room (Nat.le_of_ble_eq_true rfl)) dL_law_466 ⟨(show cells + 1 + 0 + 0 ≤ 601024 by omega), (show slots + 6 + 0 + 0 ≤ 7293034 by omega)⟩) hS (fun r3 u3 H locs hq3 hV hS => ?_)
  subst hq3
  have hV1 : kV G (kM G h ad (opOriginal S (xs (i + 1))).1 u2.1 u2.2 (opOriginal S (xs (i + 1))).2.2 ++ (siteW G (opOriginal S (xs (i + 1))).2.2 u1.1 ++ [(ol, .inl (kcL G, 1, .inr (.inl u1.2)))])) _ := hV
  have hV2 : kV G (lwV G (opOriginal S (xs (i + 1))).2.2 u1.1 ol u1.2 h ad (opOriginal S (xs (i + 1))).1 u2.1 u2.2) _ := kV_wc hV1 (fun e => by simp only [wc_app]; omega)
  have hV3 : kV G ([(ol, .inl (kcL G, 1, .inr (.inl u1.2)))] ++ (siteW G (opOriginal S (xs (i + 1))).2.2 u1.1 ++ kM G h ad (opOriginal S (xs (i + 1))).1 u2.1 u2.2 (opOriginal S (xs (i + 1))).2.2)) _ := kV_wc hV1 (fun e => by simp only [wc_app]; omega)
  have hl9 : lv_has ls 7 [(0, .ref b), (1, .ref (yH y 0)), (2, .ref h), (3, .ref ol), (4, .int (nI i))] := lv_sub hl [2, 3, 4, 5, 6] rfl
  have hfin : W pp l ee room_1 s m #[Value.ref b] below meth cc0 H locs (cells + 1 + 0 + 0) (slots + 6 + 0 + 0) Q (F0 m 1436 ls []) := by
    refine W.widen (k := cells + 20) (n := slots + 2000) (by omega) (by omega) ?_
    exact kk (opOriginal S (xs (i + 1))).2.2 u1.1 u1.2 (opOriginal S (xs (i + 1))).1 u2.1 u2.2 H locs (kI_Original hI (xs (i + 1))) hp1 hp2 hV2 hS ls hl9
  refine lv_iload hx hb dL_law_469 (lv_at hl 1 rfl) ?_
  refine lv_icmp_eq (tgt := 476) hx hb dL_law_471 (by decide) (fun _ => ?_) (fun z => absurd rfl z)
  refine lv_iload hx hb dL_law_476 (lv_at hl 1 rfl) ?_
  refine kn_if_ne (tgt := 493) hx hb (o1_Original _ _) dL_law_478 (by decide) (fun _ => lv_goto (tgt := 1436) hx hb dL_law_493 (by decide) hfin) (fun hz => ?_)
  refine lv_aload_n hx hb dL_law_481 rfl (lv_at hl 5 rfl) ?_
  refine lv_iconst (v := nI 0) hx hb dL_law_482 (by decide) ?_
  refine va_lald hx hb hK hV3.1 0 3 rfl rfl (show vp_in (nI 0) 1 from vp_in_nI (by decide) (by decide)) dL_law_483 ?_
  rw [show u1.2 (nI 0).toNatClampNeg = (opOriginal S (xs (i + 1))).2.1.toInt64 from hp3 hz]
  refine lv_iload hx hb dL_law_484 (lv_at hl 0 rfl) ?_
  refine lv_i2l (v := (opOriginal S (xs (i + 1))).2.1.toInt64) hx hb dL_law_486 rfl ?_
  refine W.lcmp hx hb dL_law_487 ?_
  rw [lgc_self]
  refine lv_if_eq (tgt := 493) hx hb dL_law_488 (by decide) (fun _ => lv_goto (tgt := 1436) hx hb dL_law_493 (by decide) hfin) (fun z => absurd rfl z)
set_option maxHeartbeats 4000000 in
set_option maxRecDepth 100000 in
theorem lw_c_rows (hlt : l.stackTraces = false) (hL : L ≤ 3072) (hx : pp.tables.exec = Jvm.exec) (hb : cc0.code = cL_law) (hml : cc0.maxLocals = 7) (hown : s.vm.findClass RL = some m.cls) (hts : ∀ w ∈ wsL_law, w.before #[Value.ref b] s = true) (hX : va_X b L xs s s.heap) (hbl : b < s.heap.size) (hbA : ¬ kA G b) (hE : kE G s s.heap)
    (i : Nat) (hi : i + 6 ≤ L) (S : kS) (y : kY) (ol : Nat) (g : Nat → Int64) (h : Nat) (ad : Nat → Nat) (rf rl rw : Nat) (hI : kInv S) (hY : yI G S y) (cells slots : Nat) (hcs : cells + 20 ≤ 601024) (hsl : slots + 2000 ≤ 7293034) (H : Heap) (locs : List Loc) (hV : kV G (lwV G S y ol g h ad rf rl rw) H) (hS : va_S (kA G) s.heap H locs) (ls : Array Slot) (hl : lv_has ls 7 [(0, .ref b), (1, .ref (yH y 0)), (2, .ref h), (3, .ref ol), (4, .int (nI i))])
    (kk : ∀ (S2 : kS) (y2 : kY) (g2 : Nat → Int64) (rf2 rl2 rw2 : Nat) (H : Heap) (locs : List Loc), kInv S2 → yI G S2 y2 → yH y2 0 = yH y 0 → kV G (lwV G S2 y2 ol g2 h ad rf2 rl2 rw2) H → va_S (kA G) s.heap H locs → ∀ (ls : Array Slot), lv_has ls 7 [(0, .ref b), (1, .ref (yH y 0)), (2, .ref h), (3, .ref ol), (4, .int (nI i))] → W pp l ee room_1 s m #[Value.ref b] below meth cc0 H locs (cells + 20) (slots + 2000) Q (F0 m 1436 ls [])) :
    W pp l ee room_1 s m #[Value.ref b] below meth cc0 H locs cells slots Q (F0 m 496 ls []) := by
  have hK := hE.1
  have hF : CallFix pp m cc0 cL_law 7 s #[Value.ref b] wsL_law RL := ⟨hx, hb, hml, hown, hts⟩
  refine lv_aload_n hx hb dL_law_496 rfl (lv_at hl 1 rfl) ?_
  refine lv_aload_n hx hb dL_law_497 rfl (lv_at hl 0 rfl) ?_
  refine lv_iload hx hb dL_law_498 (lv_at hl 4 rfl) ?_
  refine lv_iconst (v := nI 1) hx hb dL_law_500 (by decide) ?_
  refine kn_add hx hb dL_law_501 ?_
  refine kn_sld hx hb hX hbl hbA hS (j := i + 1) (by omega) (by omega) dL_law_502 ?_
  refine lv_aload_n hx hb dL_law_503 rfl (lv_at hl 3 rfl) ?_
  refine kc_i (vx_runSW (As := [.ref (yH y 0), .int (xs (i + 1)), .ref ol]) (rest := []) hF (c_L_rows l G S y ol g (kM G h ad rf rl rw S) (xs (i + 1)) hlt hI hY) (vx_cwSW 3 hts gL_law_L_rows rfl rfl rfl (by decide +kernel) ⟨Nat.le_of_ble_eq_true rfl, Nat.le_of_ble_eq_true rfl⟩) (kPreS hE hS hV) rfl rfl hl.1 rfl (lv_room (Nat.le_of_ble_eq_true rfl)) dL_law_504 ⟨(show cells + 1 ≤ 601024 by omega), (show slots + 6 ≤ 7293034 by omega)⟩) hS (fun r1 u1 H locs hp hV hS => ?_)
  obtain ⟨hp0, hp1, hp2, hp3⟩ := hp
  subst hp0
  refine lv_istore (lv' := [(5, .int (nI (opRows S (xs (i + 1))).1)), (0, .ref b), (1, .ref (yH y 0)), (2, .ref h), (3, .ref ol), (4, .int (nI i))]) hx hb dL_law_507 hl (by decide) rfl (fun ls hl => ?_)
  have hV : kV G (kM G h ad rf rl rw S ++ (siteW G (opRows S (xs (i + 1))).2.2 u1.1 ++ [(ol, .inl (kcL G, 1, .inr (.inl u1.2)))])) _ := kV_wc hV (fun e => by simp only [wc_app]; omega)
  refine lv_aload_n hx hb dL_law_509 rfl (lv_at hl 3 rfl) ?_
  refine lv_aload_n hx hb dL_law_510 rfl (lv_at hl 1 rfl) ?_
  refine lv_iload hx hb dL_law_511 (lv_at hl 5 rfl) ?_
  refine lv_iconst (v := nI 1) hx hb dL_law_513 (by decide) ?_
  refine kn_add hx hb dL_law_514 ?_
  refine kn_sld hx hb hX hbl hbA hS (j := i + 1) (by omega) (by omega) dL_law_515 ?_
  refine kc_i (va_runV (As := [.int (xs (i + 1))]) (rest := []) hF (c_X6_rows l G h ad rf rl rw S (siteW G (opRows S (xs (i + 1))).2.2 u1.1 ++ [(ol, .inl (kcL G, 1, .inr (.inl u1.2)))]) (xs (i + 1)) hI) (cwV 1 hts gL_law_X6_rows rfl rfl rfl (by decide +kernel) ⟨Nat.le_of_ble_eq_true rfl, Nat.le_of_ble_eq_true rfl⟩) (kPreV hE hS hV 0 rfl rfl) rfl rfl hl.1 rfl (lv_room (Nat.le_of_ble_eq_true rfl)) dL_law_516 ⟨(show cells + 1 + 0 ≤ 601024 by omega), (show slots + 6 + 0 ≤ 7293034 by omega)⟩) hS (fun r2 u2 H locs hq hV hS => ?_)
  subst hq
  refine lv_istore (lv' := [(6, .int (opRows S (xs (i + 1))).2.1), (5, .int (nI (opRows S (xs (i + 1))).1)), (0, .ref b), (1, .ref (yH y 0)), (2, .ref h), (3, .ref ol), (4, .int (nI i))]) hx hb dL_law_519 hl (by decide) rfl (fun ls hl => ?_)
  have hV : kV G (kM G h ad (opRows S (xs (i + 1))).1 u2.1 u2.2 (opRows S (xs (i + 1))).2.2 ++ (siteW G (opRows S (xs (i + 1))).2.2 u1.1 ++ [(ol, .inl (kcL G, 1, .inr (.inl u1.2)))])) _ := hV
  refine lv_aload_n hx hb dL_law_521 rfl (lv_at hl 4 rfl) ?_
  refine kc_i (va_runV (As := []) (rest := []) hF (c_X6_thrown l G h ad (opRows S (xs (i + 1))).1 u2.1 u2.2 (opRows S (xs (i + 1))).2.2 (siteW G (opRows S (xs (i + 1))).2.2 u1.1 ++ [(ol, .inl (kcL G, 1, .inr (.inl u1.2)))])) (cwV 0 hts gL_law_X6_thrown rfl rfl rfl (by decide +kernel) ⟨Nat.le_of_ble_eq_true rfl, Nat.le_of_ble_eq_true rfl⟩) (kPreV hE hS hV 0 rfl rfl) rfl rfl hl.1 rfl (lv_room (Nat.le_of_ble_eq_true rfl)) dL_law_522 ⟨(show cells + 1 + 0 + 0 ≤ 601024 by omega), (show slots + 6 + 0 + 0 ≤ 7293034 by omega)⟩) hS (fun r3 u3 H locs hq3 hV hS => ?_)
  subst hq3
  have hV1 : kV G (kM G h ad (opRows S (xs (i + 1))).1 u2.1 u2.2 (opRows S (xs (i + 1))).2.2 ++ (siteW G (opRows S (xs (i + 1))).2.2 u1.1 ++ [(ol, .inl (kcL G, 1, .inr (.inl u1.2)))])) _ := hV
  have hV2 : kV G (lwV G (opRows S (xs (i + 1))).2.2 u1.1 ol u1.2 h ad (opRows S (xs (i + 1))).1 u2.1 u2.2) _ := kV_wc hV1 (fun e => by simp only [wc_app]; omega)
  have hV3 : kV G ([(ol, .inl (kcL G, 1, .inr (.inl u1.2)))] ++ (siteW G (opRows S (xs (i + 1))).2.2 u1.1 ++ kM G h ad (opRows S (xs (i + 1))).1 u2.1 u2.2 (opRows S (xs (i + 1))).2.2)) _ := kV_wc hV1 (fun e => by simp only [wc_app]; omega)
  have hl9 : lv_has ls 7 [(0, .ref b), (1, .ref (yH y 0)), (2, .ref h), (3, .ref ol), (4, .int (nI i))] := lv_sub hl [2, 3, 4, 5, 6] rfl
  have hfin : W pp l ee room_1 s m #[Value.ref b] below meth cc0 H locs (cells + 1 + 0 + 0) (slots + 6 + 0 + 0) Q (F0 m 1436 ls []) := by
    refine W.widen (k := cells + 20) (n := slots + 2000) (by omega) (by omega) ?_
    exact kk (opRows S (xs (i + 1))).2.2 u1.1 u1.2 (opRows S (xs (i + 1))).1 u2.1 u2.2 H locs (kI_Rows hI (xs (i + 1))) hp1 hp2 hV2 hS ls hl9
  refine lv_iload hx hb dL_law_525 (lv_at hl 1 rfl) ?_
  refine lv_icmp_eq (tgt := 532) hx hb dL_law_527 (by decide) (fun _ => ?_) (fun z => absurd rfl z)
  refine lv_iload hx hb dL_law_532 (lv_at hl 1 rfl) ?_
  refine kn_if_ne (tgt := 549) hx hb (o1_Rows _ _) dL_law_534 (by decide) (fun _ => lv_goto (tgt := 1436) hx hb dL_law_549 (by decide) hfin) (fun hz => ?_)
  refine lv_aload_n hx hb dL_law_537 rfl (lv_at hl 5 rfl) ?_
  refine lv_iconst (v := nI 0) hx hb dL_law_538 (by decide) ?_
  refine va_lald hx hb hK hV3.1 0 3 rfl rfl (show vp_in (nI 0) 1 from vp_in_nI (by decide) (by decide)) dL_law_539 ?_
  rw [show u1.2 (nI 0).toNatClampNeg = (opRows S (xs (i + 1))).2.1.toInt64 from hp3 hz]
  refine lv_iload hx hb dL_law_540 (lv_at hl 0 rfl) ?_
  refine lv_i2l (v := (opRows S (xs (i + 1))).2.1.toInt64) hx hb dL_law_542 rfl ?_
  refine W.lcmp hx hb dL_law_543 ?_
  rw [lgc_self]
  refine lv_if_eq (tgt := 549) hx hb dL_law_544 (by decide) (fun _ => lv_goto (tgt := 1436) hx hb dL_law_549 (by decide) hfin) (fun z => absurd rfl z)
set_option maxHeartbeats 4000000 in
set_option maxRecDepth 100000 in
theorem lw_c_stitch (hlt : l.stackTraces = false) (hL : L ≤ 3072) (hx : pp.tables.exec = Jvm.exec) (hb : cc0.code = cL_law) (hml : cc0.maxLocals = 7) (hown : s.vm.findClass RL = some m.cls) (hts : ∀ w ∈ wsL_law, w.before #[Value.ref b] s = true) (hX : va_X b L xs s s.heap) (hbl : b < s.heap.size) (hbA : ¬ kA G b) (hE : kE G s s.heap)
    (i : Nat) (hi : i + 6 ≤ L) (S : kS) (y : kY) (ol : Nat) (g : Nat → Int64) (h : Nat) (ad : Nat → Nat) (rf rl rw : Nat) (hI : kInv S) (hY : yI G S y) (cells slots : Nat) (hcs : cells + 20 ≤ 601024) (hsl : slots + 2000 ≤ 7293034) (H : Heap) (locs : List Loc) (hV : kV G (lwV G S y ol g h ad rf rl rw) H) (hS : va_S (kA G) s.heap H locs) (ls : Array Slot) (hl : lv_has ls 7 [(0, .ref b), (1, .ref (yH y 0)), (2, .ref h), (3, .ref ol), (4, .int (nI i))])
    (kk : ∀ (S2 : kS) (y2 : kY) (g2 : Nat → Int64) (rf2 rl2 rw2 : Nat) (H : Heap) (locs : List Loc), kInv S2 → yI G S2 y2 → yH y2 0 = yH y 0 → kV G (lwV G S2 y2 ol g2 h ad rf2 rl2 rw2) H → va_S (kA G) s.heap H locs → ∀ (ls : Array Slot), lv_has ls 7 [(0, .ref b), (1, .ref (yH y 0)), (2, .ref h), (3, .ref ol), (4, .int (nI i))] → W pp l ee room_1 s m #[Value.ref b] below meth cc0 H locs (cells + 20) (slots + 2000) Q (F0 m 1436 ls [])) :
    W pp l ee room_1 s m #[Value.ref b] below meth cc0 H locs cells slots Q (F0 m 552 ls []) := by
  have hK := hE.1
  have hF : CallFix pp m cc0 cL_law 7 s #[Value.ref b] wsL_law RL := ⟨hx, hb, hml, hown, hts⟩
  refine lv_aload_n hx hb dL_law_552 rfl (lv_at hl 1 rfl) ?_
  refine lv_aload_n hx hb dL_law_553 rfl (lv_at hl 0 rfl) ?_
  refine lv_iload hx hb dL_law_554 (lv_at hl 4 rfl) ?_
  refine lv_iconst (v := nI 1) hx hb dL_law_556 (by decide) ?_
  refine kn_add hx hb dL_law_557 ?_
  refine kn_sld hx hb hX hbl hbA hS (j := i + 1) (by omega) (by omega) dL_law_558 ?_
  refine lv_aload_n hx hb dL_law_559 rfl (lv_at hl 0 rfl) ?_
  refine lv_iload hx hb dL_law_560 (lv_at hl 4 rfl) ?_
  refine lv_iconst (v := nI 2) hx hb dL_law_562 (by decide) ?_
  refine kn_add hx hb dL_law_563 ?_
  refine kn_sld hx hb hX hbl hbA hS (j := i + 2) (by omega) (by omega) dL_law_564 ?_
  refine lv_aload_n hx hb dL_law_565 rfl (lv_at hl 0 rfl) ?_
  refine lv_iload hx hb dL_law_566 (lv_at hl 4 rfl) ?_
  refine lv_iconst (v := nI 3) hx hb dL_law_568 (by decide) ?_
  refine kn_add hx hb dL_law_569 ?_
  refine kn_sld hx hb hX hbl hbA hS (j := i + 3) (by omega) (by omega) dL_law_570 ?_
  refine lv_aload_n hx hb dL_law_571 rfl (lv_at hl 3 rfl) ?_
  refine kc_i (vx_runSW (As := [.ref (yH y 0), .int (xs (i + 1)), .int (xs (i + 2)), .int (xs (i + 3)), .ref ol]) (rest := []) hF (c_L_stitch l G S y ol g (kM G h ad rf rl rw S) (xs (i + 1)) (xs (i + 2)) (xs (i + 3)) hlt hI hY) (vx_cwSW 5 hts gL_law_L_stitch rfl rfl rfl (by decide +kernel) ⟨Nat.le_of_ble_eq_true rfl, Nat.le_of_ble_eq_true rfl⟩) (kPreS hE hS hV) rfl rfl hl.1 rfl (lv_room (Nat.le_of_ble_eq_true rfl)) dL_law_572 ⟨(show cells + 2 ≤ 601024 by omega), (show slots + 12 ≤ 7293034 by omega)⟩) hS (fun r1 u1 H locs hp hV hS => ?_)
  obtain ⟨hp0, hp1, hp2, hp3⟩ := hp
  subst hp0
  refine lv_istore (lv' := [(5, .int (nI (opStitch S (xs (i + 1)) (xs (i + 2)) (xs (i + 3))).1)), (0, .ref b), (1, .ref (yH y 0)), (2, .ref h), (3, .ref ol), (4, .int (nI i))]) hx hb dL_law_575 hl (by decide) rfl (fun ls hl => ?_)
  have hV : kV G (kM G h ad rf rl rw S ++ (siteW G (opStitch S (xs (i + 1)) (xs (i + 2)) (xs (i + 3))).2.2 u1.1 ++ [(ol, .inl (kcL G, 1, .inr (.inl u1.2)))])) _ := kV_wc hV (fun e => by simp only [wc_app]; omega)
  refine lv_aload_n hx hb dL_law_577 rfl (lv_at hl 3 rfl) ?_
  refine lv_aload_n hx hb dL_law_578 rfl (lv_at hl 1 rfl) ?_
  refine lv_iload hx hb dL_law_579 (lv_at hl 5 rfl) ?_
  refine lv_iconst (v := nI 1) hx hb dL_law_581 (by decide) ?_
  refine kn_add hx hb dL_law_582 ?_
  refine kn_sld hx hb hX hbl hbA hS (j := i + 1) (by omega) (by omega) dL_law_583 ?_
  refine lv_aload_n hx hb dL_law_584 rfl (lv_at hl 1 rfl) ?_
  refine lv_iload hx hb dL_law_585 (lv_at hl 5 rfl) ?_
  refine lv_iconst (v := nI 2) hx hb dL_law_587 (by decide) ?_
  refine kn_add hx hb dL_law_588 ?_
  refine kn_sld hx hb hX hbl hbA hS (j := i + 2) (by omega) (by omega) dL_law_589 ?_
  refine lv_aload_n hx hb dL_law_590 rfl (lv_at hl 1 rfl) ?_
  refine lv_iload hx hb dL_law_591 (lv_at hl 5 rfl) ?_
  refine lv_iconst (v := nI 3) hx hb dL_law_593 (by decide) ?_
  refine kn_add hx hb dL_law_594 ?_
  refine kn_sld hx hb hX hbl hbA hS (j := i + 3) (by omega) (by omega) dL_law_595 ?_
  refine kc_i (va_runV (As := [.int (xs (i + 1)), .int (xs (i + 2)), .int (xs (i + 3))]) (rest := []) hF (c_X6_stitch l G h ad rf rl rw S (siteW G (opStitch S (xs (i + 1)) (xs (i + 2)) (xs (i + 3))).2.2 u1.1 ++ [(ol, .inl (kcL G, 1, .inr (.inl u1.2)))]) (xs (i + 1)) (xs (i + 2)) (xs (i + 3)) hI) (cwV 3 hts gL_law_X6_stitch rfl rfl rfl (by decide +kernel) ⟨Nat.le_of_ble_eq_true rfl, Nat.le_of_ble_eq_true rfl⟩) (kPreV hE hS hV 0 rfl rfl) rfl rfl hl.1 rfl (lv_room (Nat.le_of_ble_eq_true rfl)) dL_law_596 ⟨(show cells + 2 + 0 ≤ 601024 by omega), (show slots + 12 + 0 ≤ 7293034 by omega)⟩) hS (fun r2 u2 H locs hq hV hS => ?_)
  subst hq
  refine lv_istore (lv' := [(6, .int (opStitch S (xs (i + 1)) (xs (i + 2)) (xs (i + 3))).2.1), (5, .int (nI (opStitch S (xs (i + 1)) (xs (i + 2)) (xs (i + 3))).1)), (0, .ref b), (1, .ref (yH y 0)), (2, .ref h), (3, .ref ol), (4, .int (nI i))]) hx hb dL_law_599 hl (by decide) rfl (fun ls hl => ?_)
  have hV : kV G (kM G h ad (opStitch S (xs (i + 1)) (xs (i + 2)) (xs (i + 3))).1 u2.1 u2.2 (opStitch S (xs (i + 1)) (xs (i + 2)) (xs (i + 3))).2.2 ++ (siteW G (opStitch S (xs (i + 1)) (xs (i + 2)) (xs (i + 3))).2.2 u1.1 ++ [(ol, .inl (kcL G, 1, .inr (.inl u1.2)))])) _ := hV
  refine lv_aload_n hx hb dL_law_601 rfl (lv_at hl 4 rfl) ?_
  refine kc_i (va_runV (As := []) (rest := []) hF (c_X6_thrown l G h ad (opStitch S (xs (i + 1)) (xs (i + 2)) (xs (i + 3))).1 u2.1 u2.2 (opStitch S (xs (i + 1)) (xs (i + 2)) (xs (i + 3))).2.2 (siteW G (opStitch S (xs (i + 1)) (xs (i + 2)) (xs (i + 3))).2.2 u1.1 ++ [(ol, .inl (kcL G, 1, .inr (.inl u1.2)))])) (cwV 0 hts gL_law_X6_thrown rfl rfl rfl (by decide +kernel) ⟨Nat.le_of_ble_eq_true rfl, Nat.le_of_ble_eq_true rfl⟩) (kPreV hE hS hV 0 rfl rfl) rfl rfl hl.1 rfl (lv_room (Nat.le_of_ble_eq_true rfl)) dL_law_602 ⟨(show cells + 2 + 0 + 0 ≤ 601024 by omega), (show slots + 12 + 0 + 0 ≤ 7293034 by omega)⟩) hS (fun r3 u3 H locs hq3 hV hS => ?_)
  subst hq3
  have hV1 : kV G (kM G h ad (opStitch S (xs (i + 1)) (xs (i + 2)) (xs (i + 3))).1 u2.1 u2.2 (opStitch S (xs (i + 1)) (xs (i + 2)) (xs (i + 3))).2.2 ++ (siteW G (opStitch S (xs (i + 1)) (xs (i + 2)) (xs (i + 3))).2.2 u1.1 ++ [(ol, .inl (kcL G, 1, .inr (.inl u1.2)))])) _ := hV
  have hV2 : kV G (lwV G (opStitch S (xs (i + 1)) (xs (i + 2)) (xs (i + 3))).2.2 u1.1 ol u1.2 h ad (opStitch S (xs (i + 1)) (xs (i + 2)) (xs (i + 3))).1 u2.1 u2.2) _ := kV_wc hV1 (fun e => by simp only [wc_app]; omega)
  have hV3 : kV G ([(ol, .inl (kcL G, 1, .inr (.inl u1.2)))] ++ (siteW G (opStitch S (xs (i + 1)) (xs (i + 2)) (xs (i + 3))).2.2 u1.1 ++ kM G h ad (opStitch S (xs (i + 1)) (xs (i + 2)) (xs (i + 3))).1 u2.1 u2.2 (opStitch S (xs (i + 1)) (xs (i + 2)) (xs (i + 3))).2.2)) _ := kV_wc hV1 (fun e => by simp only [wc_app]; omega)
  have hl9 : lv_has ls 7 [(0, .ref b), (1, .ref (yH y 0)), (2, .ref h), (3, .ref ol), (4, .int (nI i))] := lv_sub hl [2, 3, 4, 5, 6] rfl
  have hfin : W pp l ee room_1 s m #[Value.ref b] below meth cc0 H locs (cells + 2 + 0 + 0) (slots + 12 + 0 + 0) Q (F0 m 1436 ls []) := by
    refine W.widen (k := cells + 20) (n := slots + 2000) (by omega) (by omega) ?_
    exact kk (opStitch S (xs (i + 1)) (xs (i + 2)) (xs (i + 3))).2.2 u1.1 u1.2 (opStitch S (xs (i + 1)) (xs (i + 2)) (xs (i + 3))).1 u2.1 u2.2 H locs (kI_Stitch hI (xs (i + 1)) (xs (i + 2)) (xs (i + 3))) hp1 hp2 hV2 hS ls hl9
  refine lv_iload hx hb dL_law_605 (lv_at hl 1 rfl) ?_
  refine lv_icmp_eq (tgt := 612) hx hb dL_law_607 (by decide) (fun _ => ?_) (fun z => absurd rfl z)
  refine lv_iload hx hb dL_law_612 (lv_at hl 1 rfl) ?_
  refine kn_if_ne (tgt := 629) hx hb (o1_Stitch _ _ _ _) dL_law_614 (by decide) (fun _ => lv_goto (tgt := 1436) hx hb dL_law_629 (by decide) hfin) (fun hz => ?_)
  refine lv_aload_n hx hb dL_law_617 rfl (lv_at hl 5 rfl) ?_
  refine lv_iconst (v := nI 0) hx hb dL_law_618 (by decide) ?_
  refine va_lald hx hb hK hV3.1 0 3 rfl rfl (show vp_in (nI 0) 1 from vp_in_nI (by decide) (by decide)) dL_law_619 ?_
  rw [show u1.2 (nI 0).toNatClampNeg = (opStitch S (xs (i + 1)) (xs (i + 2)) (xs (i + 3))).2.1.toInt64 from hp3 hz]
  refine lv_iload hx hb dL_law_620 (lv_at hl 0 rfl) ?_
  refine lv_i2l (v := (opStitch S (xs (i + 1)) (xs (i + 2)) (xs (i + 3))).2.1.toInt64) hx hb dL_law_622 rfl ?_
  refine W.lcmp hx hb dL_law_623 ?_
  rw [lgc_self]
  refine lv_if_eq (tgt := 629) hx hb dL_law_624 (by decide) (fun _ => lv_goto (tgt := 1436) hx hb dL_law_629 (by decide) hfin) (fun z => absurd rfl z)
set_option maxHeartbeats 4000000 in
set_option maxRecDepth 100000 in
theorem lw_c_stitchByWork (hlt : l.stackTraces = false) (hL : L ≤ 3072) (hx : pp.tables.exec = Jvm.exec) (hb : cc0.code = cL_law) (hml : cc0.maxLocals = 7) (hown : s.vm.findClass RL = some m.cls) (hts : ∀ w ∈ wsL_law, w.before #[Value.ref b] s = true) (hX : va_X b L xs s s.heap) (hbl : b < s.heap.size) (hbA : ¬ kA G b) (hE : kE G s s.heap)
    (i : Nat) (hi : i + 6 ≤ L) (S : kS) (y : kY) (ol : Nat) (g : Nat → Int64) (h : Nat) (ad : Nat → Nat) (rf rl rw : Nat) (hI : kInv S) (hY : yI G S y) (cells slots : Nat) (hcs : cells + 20 ≤ 601024) (hsl : slots + 2000 ≤ 7293034) (H : Heap) (locs : List Loc) (hV : kV G (lwV G S y ol g h ad rf rl rw) H) (hS : va_S (kA G) s.heap H locs) (ls : Array Slot) (hl : lv_has ls 7 [(0, .ref b), (1, .ref (yH y 0)), (2, .ref h), (3, .ref ol), (4, .int (nI i))])
    (kk : ∀ (S2 : kS) (y2 : kY) (g2 : Nat → Int64) (rf2 rl2 rw2 : Nat) (H : Heap) (locs : List Loc), kInv S2 → yI G S2 y2 → yH y2 0 = yH y 0 → kV G (lwV G S2 y2 ol g2 h ad rf2 rl2 rw2) H → va_S (kA G) s.heap H locs → ∀ (ls : Array Slot), lv_has ls 7 [(0, .ref b), (1, .ref (yH y 0)), (2, .ref h), (3, .ref ol), (4, .int (nI i))] → W pp l ee room_1 s m #[Value.ref b] below meth cc0 H locs (cells + 20) (slots + 2000) Q (F0 m 1436 ls [])) :
    W pp l ee room_1 s m #[Value.ref b] below meth cc0 H locs cells slots Q (F0 m 632 ls []) := by
  have hK := hE.1
  have hF : CallFix pp m cc0 cL_law 7 s #[Value.ref b] wsL_law RL := ⟨hx, hb, hml, hown, hts⟩
  refine lv_aload_n hx hb dL_law_632 rfl (lv_at hl 1 rfl) ?_
  refine lv_aload_n hx hb dL_law_633 rfl (lv_at hl 0 rfl) ?_
  refine lv_iload hx hb dL_law_634 (lv_at hl 4 rfl) ?_
  refine lv_iconst (v := nI 1) hx hb dL_law_636 (by decide) ?_
  refine kn_add hx hb dL_law_637 ?_
  refine kn_sld hx hb hX hbl hbA hS (j := i + 1) (by omega) (by omega) dL_law_638 ?_
  refine lv_aload_n hx hb dL_law_639 rfl (lv_at hl 0 rfl) ?_
  refine lv_iload hx hb dL_law_640 (lv_at hl 4 rfl) ?_
  refine lv_iconst (v := nI 2) hx hb dL_law_642 (by decide) ?_
  refine kn_add hx hb dL_law_643 ?_
  refine kn_sld hx hb hX hbl hbA hS (j := i + 2) (by omega) (by omega) dL_law_644 ?_
  refine lv_aload_n hx hb dL_law_645 rfl (lv_at hl 0 rfl) ?_
  refine lv_iload hx hb dL_law_646 (lv_at hl 4 rfl) ?_
  refine lv_iconst (v := nI 3) hx hb dL_law_648 (by decide) ?_
  refine kn_add hx hb dL_law_649 ?_
  refine kn_sld hx hb hX hbl hbA hS (j := i + 3) (by omega) (by omega) dL_law_650 ?_
  refine lv_aload_n hx hb dL_law_651 rfl (lv_at hl 3 rfl) ?_
  refine kc_i (vx_runSW (As := [.ref (yH y 0), .int (xs (i + 1)), .int (xs (i + 2)), .int (xs (i + 3)), .ref ol]) (rest := []) hF (c_L_stitchByWork l G S y ol g (kM G h ad rf rl rw S) (xs (i + 1)) (xs (i + 2)) (xs (i + 3)) hlt hI hY) (vx_cwSW 5 hts gL_law_L_stitchByWork rfl rfl rfl (by decide +kernel) ⟨Nat.le_of_ble_eq_true rfl, Nat.le_of_ble_eq_true rfl⟩) (kPreS hE hS hV) rfl rfl hl.1 rfl (lv_room (Nat.le_of_ble_eq_true rfl)) dL_law_652 ⟨(show cells + 2 ≤ 601024 by omega), (show slots + 12 ≤ 7293034 by omega)⟩) hS (fun r1 u1 H locs hp hV hS => ?_)
  obtain ⟨hp0, hp1, hp2, hp3⟩ := hp
  subst hp0
  refine lv_istore (lv' := [(5, .int (nI (opStitch S (xs (i + 1)) (xs (i + 2)) (xs (i + 3))).1)), (0, .ref b), (1, .ref (yH y 0)), (2, .ref h), (3, .ref ol), (4, .int (nI i))]) hx hb dL_law_655 hl (by decide) rfl (fun ls hl => ?_)
  have hV : kV G (kM G h ad rf rl rw S ++ (siteW G (opStitch S (xs (i + 1)) (xs (i + 2)) (xs (i + 3))).2.2 u1.1 ++ [(ol, .inl (kcL G, 1, .inr (.inl u1.2)))])) _ := kV_wc hV (fun e => by simp only [wc_app]; omega)
  refine lv_aload_n hx hb dL_law_657 rfl (lv_at hl 3 rfl) ?_
  refine lv_aload_n hx hb dL_law_658 rfl (lv_at hl 1 rfl) ?_
  refine lv_iload hx hb dL_law_659 (lv_at hl 5 rfl) ?_
  refine lv_iconst (v := nI 1) hx hb dL_law_661 (by decide) ?_
  refine kn_add hx hb dL_law_662 ?_
  refine kn_sld hx hb hX hbl hbA hS (j := i + 1) (by omega) (by omega) dL_law_663 ?_
  refine lv_aload_n hx hb dL_law_664 rfl (lv_at hl 1 rfl) ?_
  refine lv_iload hx hb dL_law_665 (lv_at hl 5 rfl) ?_
  refine lv_iconst (v := nI 2) hx hb dL_law_667 (by decide) ?_
  refine kn_add hx hb dL_law_668 ?_
  refine kn_sld hx hb hX hbl hbA hS (j := i + 2) (by omega) (by omega) dL_law_669 ?_
  refine lv_aload_n hx hb dL_law_670 rfl (lv_at hl 1 rfl) ?_
  refine lv_iload hx hb dL_law_671 (lv_at hl 5 rfl) ?_
  refine lv_iconst (v := nI 3) hx hb dL_law_673 (by decide) ?_
  refine kn_add hx hb dL_law_674 ?_
  refine kn_sld hx hb hX hbl hbA hS (j := i + 3) (by omega) (by omega) dL_law_675 ?_
  refine kc_i (va_runV (As := [.int (xs (i + 1)), .int (xs (i + 2)), .int (xs (i + 3))]) (rest := []) hF (c_X6_stitchByWork l G h ad rf rl rw S (siteW G (opStitch S (xs (i + 1)) (xs (i + 2)) (xs (i + 3))).2.2 u1.1 ++ [(ol, .inl (kcL G, 1, .inr (.inl u1.2)))]) (xs (i + 1)) (xs (i + 2)) (xs (i + 3)) hI) (cwV 3 hts gL_law_X6_stitchByWork rfl rfl rfl (by decide +kernel) ⟨Nat.le_of_ble_eq_true rfl, Nat.le_of_ble_eq_true rfl⟩) (kPreV hE hS hV 0 rfl rfl) rfl rfl hl.1 rfl (lv_room (Nat.le_of_ble_eq_true rfl)) dL_law_676 ⟨(show cells + 2 + 0 ≤ 601024 by omega), (show slots + 12 + 0 ≤ 7293034 by omega)⟩) hS (fun r2 u2 H locs hq hV hS => ?_)
  subst hq
  refine lv_istore (lv' := [(6, .int (opStitch S (xs (i + 1)) (xs (i + 2)) (xs (i + 3))).2.1), (5, .int (nI (opStitch S (xs (i + 1)) (xs (i + 2)) (xs (i + 3))).1)), (0, .ref b), (1, .ref (yH y 0)), (2, .ref h), (3, .ref ol), (4, .int (nI i))]) hx hb dL_law_679 hl (by decide) rfl (fun ls hl => ?_)
  have hV : kV G (kM G h ad (opStitch S (xs (i + 1)) (xs (i + 2)) (xs (i + 3))).1 u2.1 u2.2 (opStitch S (xs (i + 1)) (xs (i + 2)) (xs (i + 3))).2.2 ++ (siteW G (opStitch S (xs (i + 1)) (xs (i + 2)) (xs (i + 3))).2.2 u1.1 ++ [(ol, .inl (kcL G, 1, .inr (.inl u1.2)))])) _ := hV
  refine lv_aload_n hx hb dL_law_681 rfl (lv_at hl 4 rfl) ?_
  refine kc_i (va_runV (As := []) (rest := []) hF (c_X6_thrown l G h ad (opStitch S (xs (i + 1)) (xs (i + 2)) (xs (i + 3))).1 u2.1 u2.2 (opStitch S (xs (i + 1)) (xs (i + 2)) (xs (i + 3))).2.2 (siteW G (opStitch S (xs (i + 1)) (xs (i + 2)) (xs (i + 3))).2.2 u1.1 ++ [(ol, .inl (kcL G, 1, .inr (.inl u1.2)))])) (cwV 0 hts gL_law_X6_thrown rfl rfl rfl (by decide +kernel) ⟨Nat.le_of_ble_eq_true rfl, Nat.le_of_ble_eq_true rfl⟩) (kPreV hE hS hV 0 rfl rfl) rfl rfl hl.1 rfl (lv_room (Nat.le_of_ble_eq_true rfl)) dL_law_682 ⟨(show cells + 2 + 0 + 0 ≤ 601024 by omega), (show slots + 12 + 0 + 0 ≤ 7293034 by omega)⟩) hS (fun r3 u3 H locs hq3 hV hS => ?_)
  subst hq3
  have hV1 : kV G (kM G h ad (opStitch S (xs (i + 1)) (xs (i + 2)) (xs (i + 3))).1 u2.1 u2.2 (opStitch S (xs (i + 1)) (xs (i + 2)) (xs (i + 3))).2.2 ++ (siteW G (opStitch S (xs (i + 1)) (xs (i + 2)) (xs (i + 3))).2.2 u1.1 ++ [(ol, .inl (kcL G, 1, .inr (.inl u1.2)))])) _ := hV
  have hV2 : kV G (lwV G (opStitch S (xs (i + 1)) (xs (i + 2)) (xs (i + 3))).2.2 u1.1 ol u1.2 h ad (opStitch S (xs (i + 1)) (xs (i + 2)) (xs (i + 3))).1 u2.1 u2.2) _ := kV_wc hV1 (fun e => by simp only [wc_app]; omega)
  have hV3 : kV G ([(ol, .inl (kcL G, 1, .inr (.inl u1.2)))] ++ (siteW G (opStitch S (xs (i + 1)) (xs (i + 2)) (xs (i + 3))).2.2 u1.1 ++ kM G h ad (opStitch S (xs (i + 1)) (xs (i + 2)) (xs (i + 3))).1 u2.1 u2.2 (opStitch S (xs (i + 1)) (xs (i + 2)) (xs (i + 3))).2.2)) _ := kV_wc hV1 (fun e => by simp only [wc_app]; omega)
  have hl9 : lv_has ls 7 [(0, .ref b), (1, .ref (yH y 0)), (2, .ref h), (3, .ref ol), (4, .int (nI i))] := lv_sub hl [2, 3, 4, 5, 6] rfl
  have hfin : W pp l ee room_1 s m #[Value.ref b] below meth cc0 H locs (cells + 2 + 0 + 0) (slots + 12 + 0 + 0) Q (F0 m 1436 ls []) := by
    refine W.widen (k := cells + 20) (n := slots + 2000) (by omega) (by omega) ?_
    exact kk (opStitch S (xs (i + 1)) (xs (i + 2)) (xs (i + 3))).2.2 u1.1 u1.2 (opStitch S (xs (i + 1)) (xs (i + 2)) (xs (i + 3))).1 u2.1 u2.2 H locs (kI_Stitch hI (xs (i + 1)) (xs (i + 2)) (xs (i + 3))) hp1 hp2 hV2 hS ls hl9
  refine lv_iload hx hb dL_law_685 (lv_at hl 1 rfl) ?_
  refine lv_icmp_eq (tgt := 692) hx hb dL_law_687 (by decide) (fun _ => ?_) (fun z => absurd rfl z)
  refine lv_iload hx hb dL_law_692 (lv_at hl 1 rfl) ?_
  refine kn_if_ne (tgt := 709) hx hb (o1_Stitch _ _ _ _) dL_law_694 (by decide) (fun _ => lv_goto (tgt := 1436) hx hb dL_law_709 (by decide) hfin) (fun hz => ?_)
  refine lv_aload_n hx hb dL_law_697 rfl (lv_at hl 5 rfl) ?_
  refine lv_iconst (v := nI 0) hx hb dL_law_698 (by decide) ?_
  refine va_lald hx hb hK hV3.1 0 3 rfl rfl (show vp_in (nI 0) 1 from vp_in_nI (by decide) (by decide)) dL_law_699 ?_
  rw [show u1.2 (nI 0).toNatClampNeg = (opStitch S (xs (i + 1)) (xs (i + 2)) (xs (i + 3))).2.1.toInt64 from hp3 hz]
  refine lv_iload hx hb dL_law_700 (lv_at hl 0 rfl) ?_
  refine lv_i2l (v := (opStitch S (xs (i + 1)) (xs (i + 2)) (xs (i + 3))).2.1.toInt64) hx hb dL_law_702 rfl ?_
  refine W.lcmp hx hb dL_law_703 ?_
  rw [lgc_self]
  refine lv_if_eq (tgt := 709) hx hb dL_law_704 (by decide) (fun _ => lv_goto (tgt := 1436) hx hb dL_law_709 (by decide) hfin) (fun z => absurd rfl z)
set_option maxHeartbeats 4000000 in
set_option maxRecDepth 100000 in
theorem lw_c_need (hlt : l.stackTraces = false) (hL : L ≤ 3072) (hx : pp.tables.exec = Jvm.exec) (hb : cc0.code = cL_law) (hml : cc0.maxLocals = 7) (hown : s.vm.findClass RL = some m.cls) (hts : ∀ w ∈ wsL_law, w.before #[Value.ref b] s = true) (hX : va_X b L xs s s.heap) (hbl : b < s.heap.size) (hbA : ¬ kA G b) (hE : kE G s s.heap)
    (i : Nat) (hi : i + 6 ≤ L) (S : kS) (y : kY) (ol : Nat) (g : Nat → Int64) (h : Nat) (ad : Nat → Nat) (rf rl rw : Nat) (hI : kInv S) (hY : yI G S y) (cells slots : Nat) (hcs : cells + 20 ≤ 601024) (hsl : slots + 2000 ≤ 7293034) (H : Heap) (locs : List Loc) (hV : kV G (lwV G S y ol g h ad rf rl rw) H) (hS : va_S (kA G) s.heap H locs) (ls : Array Slot) (hl : lv_has ls 7 [(0, .ref b), (1, .ref (yH y 0)), (2, .ref h), (3, .ref ol), (4, .int (nI i))])
    (kk : ∀ (S2 : kS) (y2 : kY) (g2 : Nat → Int64) (rf2 rl2 rw2 : Nat) (H : Heap) (locs : List Loc), kInv S2 → yI G S2 y2 → yH y2 0 = yH y 0 → kV G (lwV G S2 y2 ol g2 h ad rf2 rl2 rw2) H → va_S (kA G) s.heap H locs → ∀ (ls : Array Slot), lv_has ls 7 [(0, .ref b), (1, .ref (yH y 0)), (2, .ref h), (3, .ref ol), (4, .int (nI i))] → W pp l ee room_1 s m #[Value.ref b] below meth cc0 H locs (cells + 20) (slots + 2000) Q (F0 m 1436 ls [])) :
    W pp l ee room_1 s m #[Value.ref b] below meth cc0 H locs cells slots Q (F0 m 712 ls []) := by
  have hK := hE.1
  have hF : CallFix pp m cc0 cL_law 7 s #[Value.ref b] wsL_law RL := ⟨hx, hb, hml, hown, hts⟩
  refine lv_aload_n hx hb dL_law_712 rfl (lv_at hl 1 rfl) ?_
  refine lv_aload_n hx hb dL_law_713 rfl (lv_at hl 0 rfl) ?_
  refine lv_iload hx hb dL_law_714 (lv_at hl 4 rfl) ?_
  refine lv_iconst (v := nI 1) hx hb dL_law_716 (by decide) ?_
  refine kn_add hx hb dL_law_717 ?_
  refine kn_sld hx hb hX hbl hbA hS (j := i + 1) (by omega) (by omega) dL_law_718 ?_
  refine lv_aload_n hx hb dL_law_719 rfl (lv_at hl 0 rfl) ?_
  refine lv_iload hx hb dL_law_720 (lv_at hl 4 rfl) ?_
  refine lv_iconst (v := nI 2) hx hb dL_law_722 (by decide) ?_
  refine kn_add hx hb dL_law_723 ?_
  refine kn_sld hx hb hX hbl hbA hS (j := i + 2) (by omega) (by omega) dL_law_724 ?_
  refine lv_aload_n hx hb dL_law_725 rfl (lv_at hl 3 rfl) ?_
  refine kc_i (vx_runSW (As := [.ref (yH y 0), .int (xs (i + 1)), .int (xs (i + 2)), .ref ol]) (rest := []) hF (c_L_need l G S y ol g (kM G h ad rf rl rw S) (xs (i + 1)) (xs (i + 2)) hlt hI hY) (vx_cwSW 4 hts gL_law_L_need rfl rfl rfl (by decide +kernel) ⟨Nat.le_of_ble_eq_true rfl, Nat.le_of_ble_eq_true rfl⟩) (kPreS hE hS hV) rfl rfl hl.1 rfl (lv_room (Nat.le_of_ble_eq_true rfl)) dL_law_726 ⟨(show cells + 2 ≤ 601024 by omega), (show slots + 12 ≤ 7293034 by omega)⟩) hS (fun r1 u1 H locs hp hV hS => ?_)
  obtain ⟨hp0, hp1, hp2, hp3⟩ := hp
  subst hp0
  refine lv_istore (lv' := [(5, .int (nI (opNeed S (xs (i + 1)) (xs (i + 2))).1)), (0, .ref b), (1, .ref (yH y 0)), (2, .ref h), (3, .ref ol), (4, .int (nI i))]) hx hb dL_law_729 hl (by decide) rfl (fun ls hl => ?_)
  have hV : kV G (kM G h ad rf rl rw S ++ (siteW G (opNeed S (xs (i + 1)) (xs (i + 2))).2.2 u1.1 ++ [(ol, .inl (kcL G, 1, .inr (.inl u1.2)))])) _ := kV_wc hV (fun e => by simp only [wc_app]; omega)
  refine lv_aload_n hx hb dL_law_731 rfl (lv_at hl 3 rfl) ?_
  refine lv_aload_n hx hb dL_law_732 rfl (lv_at hl 1 rfl) ?_
  refine lv_iload hx hb dL_law_733 (lv_at hl 5 rfl) ?_
  refine lv_iconst (v := nI 1) hx hb dL_law_735 (by decide) ?_
  refine kn_add hx hb dL_law_736 ?_
  refine kn_sld hx hb hX hbl hbA hS (j := i + 1) (by omega) (by omega) dL_law_737 ?_
  refine lv_aload_n hx hb dL_law_738 rfl (lv_at hl 1 rfl) ?_
  refine lv_iload hx hb dL_law_739 (lv_at hl 5 rfl) ?_
  refine lv_iconst (v := nI 2) hx hb dL_law_741 (by decide) ?_
  refine kn_add hx hb dL_law_742 ?_
  refine kn_sld hx hb hX hbl hbA hS (j := i + 2) (by omega) (by omega) dL_law_743 ?_
  refine kc_i (va_runV (As := [.int (xs (i + 1)), .int (xs (i + 2))]) (rest := []) hF (c_X6_need l G h ad rf rl rw S (siteW G (opNeed S (xs (i + 1)) (xs (i + 2))).2.2 u1.1 ++ [(ol, .inl (kcL G, 1, .inr (.inl u1.2)))]) (xs (i + 1)) (xs (i + 2)) hI) (cwV 2 hts gL_law_X6_need rfl rfl rfl (by decide +kernel) ⟨Nat.le_of_ble_eq_true rfl, Nat.le_of_ble_eq_true rfl⟩) (kPreV hE hS hV 0 rfl rfl) rfl rfl hl.1 rfl (lv_room (Nat.le_of_ble_eq_true rfl)) dL_law_744 ⟨(show cells + 2 + 0 ≤ 601024 by omega), (show slots + 12 + 0 ≤ 7293034 by omega)⟩) hS (fun r2 u2 H locs hq hV hS => ?_)
  subst hq
  refine lv_istore (lv' := [(6, .int (opNeed S (xs (i + 1)) (xs (i + 2))).2.1), (5, .int (nI (opNeed S (xs (i + 1)) (xs (i + 2))).1)), (0, .ref b), (1, .ref (yH y 0)), (2, .ref h), (3, .ref ol), (4, .int (nI i))]) hx hb dL_law_747 hl (by decide) rfl (fun ls hl => ?_)
  have hV : kV G (kM G h ad (opNeed S (xs (i + 1)) (xs (i + 2))).1 u2.1 u2.2 (opNeed S (xs (i + 1)) (xs (i + 2))).2.2 ++ (siteW G (opNeed S (xs (i + 1)) (xs (i + 2))).2.2 u1.1 ++ [(ol, .inl (kcL G, 1, .inr (.inl u1.2)))])) _ := hV
  refine lv_aload_n hx hb dL_law_749 rfl (lv_at hl 4 rfl) ?_
  refine kc_i (va_runV (As := []) (rest := []) hF (c_X6_thrown l G h ad (opNeed S (xs (i + 1)) (xs (i + 2))).1 u2.1 u2.2 (opNeed S (xs (i + 1)) (xs (i + 2))).2.2 (siteW G (opNeed S (xs (i + 1)) (xs (i + 2))).2.2 u1.1 ++ [(ol, .inl (kcL G, 1, .inr (.inl u1.2)))])) (cwV 0 hts gL_law_X6_thrown rfl rfl rfl (by decide +kernel) ⟨Nat.le_of_ble_eq_true rfl, Nat.le_of_ble_eq_true rfl⟩) (kPreV hE hS hV 0 rfl rfl) rfl rfl hl.1 rfl (lv_room (Nat.le_of_ble_eq_true rfl)) dL_law_750 ⟨(show cells + 2 + 0 + 0 ≤ 601024 by omega), (show slots + 12 + 0 + 0 ≤ 7293034 by omega)⟩) hS (fun r3 u3 H locs hq3 hV hS => ?_)
  subst hq3
  have hV1 : kV G (kM G h ad (opNeed S (xs (i + 1)) (xs (i + 2))).1 u2.1 u2.2 (opNeed S (xs (i + 1)) (xs (i + 2))).2.2 ++ (siteW G (opNeed S (xs (i + 1)) (xs (i + 2))).2.2 u1.1 ++ [(ol, .inl (kcL G, 1, .inr (.inl u1.2)))])) _ := hV
  have hV2 : kV G (lwV G (opNeed S (xs (i + 1)) (xs (i + 2))).2.2 u1.1 ol u1.2 h ad (opNeed S (xs (i + 1)) (xs (i + 2))).1 u2.1 u2.2) _ := kV_wc hV1 (fun e => by simp only [wc_app]; omega)
  have hV3 : kV G ([(ol, .inl (kcL G, 1, .inr (.inl u1.2)))] ++ (siteW G (opNeed S (xs (i + 1)) (xs (i + 2))).2.2 u1.1 ++ kM G h ad (opNeed S (xs (i + 1)) (xs (i + 2))).1 u2.1 u2.2 (opNeed S (xs (i + 1)) (xs (i + 2))).2.2)) _ := kV_wc hV1 (fun e => by simp only [wc_app]; omega)
  have hl9 : lv_has ls 7 [(0, .ref b), (1, .ref (yH y 0)), (2, .ref h), (3, .ref ol), (4, .int (nI i))] := lv_sub hl [2, 3, 4, 5, 6] rfl
  have hfin : W pp l ee room_1 s m #[Value.ref b] below meth cc0 H locs (cells + 2 + 0 + 0) (slots + 12 + 0 + 0) Q (F0 m 1436 ls []) := by
    refine W.widen (k := cells + 20) (n := slots + 2000) (by omega) (by omega) ?_
    exact kk (opNeed S (xs (i + 1)) (xs (i + 2))).2.2 u1.1 u1.2 (opNeed S (xs (i + 1)) (xs (i + 2))).1 u2.1 u2.2 H locs (kI_Need hI (xs (i + 1)) (xs (i + 2))) hp1 hp2 hV2 hS ls hl9
  refine lv_iload hx hb dL_law_753 (lv_at hl 1 rfl) ?_
  refine lv_icmp_eq (tgt := 760) hx hb dL_law_755 (by decide) (fun _ => ?_) (fun z => absurd rfl z)
  refine lv_iload hx hb dL_law_760 (lv_at hl 1 rfl) ?_
  refine kn_if_ne (tgt := 777) hx hb (o1_Need _ _ _) dL_law_762 (by decide) (fun _ => lv_goto (tgt := 1436) hx hb dL_law_777 (by decide) hfin) (fun hz => ?_)
  refine lv_aload_n hx hb dL_law_765 rfl (lv_at hl 5 rfl) ?_
  refine lv_iconst (v := nI 0) hx hb dL_law_766 (by decide) ?_
  refine va_lald hx hb hK hV3.1 0 3 rfl rfl (show vp_in (nI 0) 1 from vp_in_nI (by decide) (by decide)) dL_law_767 ?_
  rw [show u1.2 (nI 0).toNatClampNeg = (opNeed S (xs (i + 1)) (xs (i + 2))).2.1.toInt64 from hp3 hz]
  refine lv_iload hx hb dL_law_768 (lv_at hl 0 rfl) ?_
  refine lv_i2l (v := (opNeed S (xs (i + 1)) (xs (i + 2))).2.1.toInt64) hx hb dL_law_770 rfl ?_
  refine W.lcmp hx hb dL_law_771 ?_
  rw [lgc_self]
  refine lv_if_eq (tgt := 777) hx hb dL_law_772 (by decide) (fun _ => lv_goto (tgt := 1436) hx hb dL_law_777 (by decide) hfin) (fun z => absurd rfl z)
set_option maxHeartbeats 4000000 in
set_option maxRecDepth 100000 in
theorem lw_c_buy (hlt : l.stackTraces = false) (hL : L ≤ 3072) (hx : pp.tables.exec = Jvm.exec) (hb : cc0.code = cL_law) (hml : cc0.maxLocals = 7) (hown : s.vm.findClass RL = some m.cls) (hts : ∀ w ∈ wsL_law, w.before #[Value.ref b] s = true) (hX : va_X b L xs s s.heap) (hbl : b < s.heap.size) (hbA : ¬ kA G b) (hE : kE G s s.heap)
    (i : Nat) (hi : i + 6 ≤ L) (S : kS) (y : kY) (ol : Nat) (g : Nat → Int64) (h : Nat) (ad : Nat → Nat) (rf rl rw : Nat) (hI : kInv S) (hY : yI G S y) (cells slots : Nat) (hcs : cells + 20 ≤ 601024) (hsl : slots + 2000 ≤ 7293034) (H : Heap) (locs : List Loc) (hV : kV G (lwV G S y ol g h ad rf rl rw) H) (hS : va_S (kA G) s.heap H locs) (ls : Array Slot) (hl : lv_has ls 7 [(0, .ref b), (1, .ref (yH y 0)), (2, .ref h), (3, .ref ol), (4, .int (nI i))])
    (kk : ∀ (S2 : kS) (y2 : kY) (g2 : Nat → Int64) (rf2 rl2 rw2 : Nat) (H : Heap) (locs : List Loc), kInv S2 → yI G S2 y2 → yH y2 0 = yH y 0 → kV G (lwV G S2 y2 ol g2 h ad rf2 rl2 rw2) H → va_S (kA G) s.heap H locs → ∀ (ls : Array Slot), lv_has ls 7 [(0, .ref b), (1, .ref (yH y 0)), (2, .ref h), (3, .ref ol), (4, .int (nI i))] → W pp l ee room_1 s m #[Value.ref b] below meth cc0 H locs (cells + 20) (slots + 2000) Q (F0 m 1436 ls [])) :
    W pp l ee room_1 s m #[Value.ref b] below meth cc0 H locs cells slots Q (F0 m 780 ls []) := by
  have hK := hE.1
  have hF : CallFix pp m cc0 cL_law 7 s #[Value.ref b] wsL_law RL := ⟨hx, hb, hml, hown, hts⟩
  refine lv_aload_n hx hb dL_law_780 rfl (lv_at hl 1 rfl) ?_
  refine lv_aload_n hx hb dL_law_781 rfl (lv_at hl 0 rfl) ?_
  refine lv_iload hx hb dL_law_782 (lv_at hl 4 rfl) ?_
  refine lv_iconst (v := nI 1) hx hb dL_law_784 (by decide) ?_
  refine kn_add hx hb dL_law_785 ?_
  refine kn_sld hx hb hX hbl hbA hS (j := i + 1) (by omega) (by omega) dL_law_786 ?_
  refine lv_aload_n hx hb dL_law_787 rfl (lv_at hl 0 rfl) ?_
  refine lv_iload hx hb dL_law_788 (lv_at hl 4 rfl) ?_
  refine lv_iconst (v := nI 2) hx hb dL_law_790 (by decide) ?_
  refine kn_add hx hb dL_law_791 ?_
  refine kn_sld hx hb hX hbl hbA hS (j := i + 2) (by omega) (by omega) dL_law_792 ?_
  refine lv_aload_n hx hb dL_law_793 rfl (lv_at hl 3 rfl) ?_
  refine kc_i (vx_runSW (As := [.ref (yH y 0), .int (xs (i + 1)), .int (xs (i + 2)), .ref ol]) (rest := []) hF (c_L_buy l G S y ol g (kM G h ad rf rl rw S) (xs (i + 1)) (xs (i + 2)) hlt hI hY) (vx_cwSW 4 hts gL_law_L_buy rfl rfl rfl (by decide +kernel) ⟨Nat.le_of_ble_eq_true rfl, Nat.le_of_ble_eq_true rfl⟩) (kPreS hE hS hV) rfl rfl hl.1 rfl (lv_room (Nat.le_of_ble_eq_true rfl)) dL_law_794 ⟨(show cells + 3 ≤ 601024 by omega), (show slots + 18 ≤ 7293034 by omega)⟩) hS (fun r1 u1 H locs hp hV hS => ?_)
  obtain ⟨hp0, hp1, hp2, hp3⟩ := hp
  subst hp0
  refine lv_istore (lv' := [(5, .int (nI (opBuy S (xs (i + 1)) (xs (i + 2))).1)), (0, .ref b), (1, .ref (yH y 0)), (2, .ref h), (3, .ref ol), (4, .int (nI i))]) hx hb dL_law_797 hl (by decide) rfl (fun ls hl => ?_)
  have hV : kV G (kM G h ad rf rl rw S ++ (siteW G (opBuy S (xs (i + 1)) (xs (i + 2))).2.2 u1.1 ++ [(ol, .inl (kcL G, 1, .inr (.inl u1.2)))])) _ := kV_wc hV (fun e => by simp only [wc_app]; omega)
  refine lv_aload_n hx hb dL_law_799 rfl (lv_at hl 3 rfl) ?_
  refine lv_aload_n hx hb dL_law_800 rfl (lv_at hl 1 rfl) ?_
  refine lv_iload hx hb dL_law_801 (lv_at hl 5 rfl) ?_
  refine lv_iconst (v := nI 1) hx hb dL_law_803 (by decide) ?_
  refine kn_add hx hb dL_law_804 ?_
  refine kn_sld hx hb hX hbl hbA hS (j := i + 1) (by omega) (by omega) dL_law_805 ?_
  refine lv_aload_n hx hb dL_law_806 rfl (lv_at hl 1 rfl) ?_
  refine lv_iload hx hb dL_law_807 (lv_at hl 5 rfl) ?_
  refine lv_iconst (v := nI 2) hx hb dL_law_809 (by decide) ?_
  refine kn_add hx hb dL_law_810 ?_
  refine kn_sld hx hb hX hbl hbA hS (j := i + 2) (by omega) (by omega) dL_law_811 ?_
  refine kc_i (va_runV (As := [.int (xs (i + 1)), .int (xs (i + 2))]) (rest := []) hF (c_X6_buy l G h ad rf rl rw S (siteW G (opBuy S (xs (i + 1)) (xs (i + 2))).2.2 u1.1 ++ [(ol, .inl (kcL G, 1, .inr (.inl u1.2)))]) (xs (i + 1)) (xs (i + 2)) hI) (cwV 2 hts gL_law_X6_buy rfl rfl rfl (by decide +kernel) ⟨Nat.le_of_ble_eq_true rfl, Nat.le_of_ble_eq_true rfl⟩) (kPreV hE hS hV 0 rfl rfl) rfl rfl hl.1 rfl (lv_room (Nat.le_of_ble_eq_true rfl)) dL_law_812 ⟨(show cells + 3 + 0 ≤ 601024 by omega), (show slots + 18 + 0 ≤ 7293034 by omega)⟩) hS (fun r2 u2 H locs hq hV hS => ?_)
  subst hq
  refine lv_istore (lv' := [(6, .int (opBuy S (xs (i + 1)) (xs (i + 2))).2.1), (5, .int (nI (opBuy S (xs (i + 1)) (xs (i + 2))).1)), (0, .ref b), (1, .ref (yH y 0)), (2, .ref h), (3, .ref ol), (4, .int (nI i))]) hx hb dL_law_815 hl (by decide) rfl (fun ls hl => ?_)
  have hV : kV G (kM G h ad (opBuy S (xs (i + 1)) (xs (i + 2))).1 u2.1 u2.2 (opBuy S (xs (i + 1)) (xs (i + 2))).2.2 ++ (siteW G (opBuy S (xs (i + 1)) (xs (i + 2))).2.2 u1.1 ++ [(ol, .inl (kcL G, 1, .inr (.inl u1.2)))])) _ := hV
  refine lv_aload_n hx hb dL_law_817 rfl (lv_at hl 4 rfl) ?_
  refine kc_i (va_runV (As := []) (rest := []) hF (c_X6_thrown l G h ad (opBuy S (xs (i + 1)) (xs (i + 2))).1 u2.1 u2.2 (opBuy S (xs (i + 1)) (xs (i + 2))).2.2 (siteW G (opBuy S (xs (i + 1)) (xs (i + 2))).2.2 u1.1 ++ [(ol, .inl (kcL G, 1, .inr (.inl u1.2)))])) (cwV 0 hts gL_law_X6_thrown rfl rfl rfl (by decide +kernel) ⟨Nat.le_of_ble_eq_true rfl, Nat.le_of_ble_eq_true rfl⟩) (kPreV hE hS hV 0 rfl rfl) rfl rfl hl.1 rfl (lv_room (Nat.le_of_ble_eq_true rfl)) dL_law_818 ⟨(show cells + 3 + 0 + 0 ≤ 601024 by omega), (show slots + 18 + 0 + 0 ≤ 7293034 by omega)⟩) hS (fun r3 u3 H locs hq3 hV hS => ?_)
  subst hq3
  have hV1 : kV G (kM G h ad (opBuy S (xs (i + 1)) (xs (i + 2))).1 u2.1 u2.2 (opBuy S (xs (i + 1)) (xs (i + 2))).2.2 ++ (siteW G (opBuy S (xs (i + 1)) (xs (i + 2))).2.2 u1.1 ++ [(ol, .inl (kcL G, 1, .inr (.inl u1.2)))])) _ := hV
  have hV2 : kV G (lwV G (opBuy S (xs (i + 1)) (xs (i + 2))).2.2 u1.1 ol u1.2 h ad (opBuy S (xs (i + 1)) (xs (i + 2))).1 u2.1 u2.2) _ := kV_wc hV1 (fun e => by simp only [wc_app]; omega)
  have hV3 : kV G ([(ol, .inl (kcL G, 1, .inr (.inl u1.2)))] ++ (siteW G (opBuy S (xs (i + 1)) (xs (i + 2))).2.2 u1.1 ++ kM G h ad (opBuy S (xs (i + 1)) (xs (i + 2))).1 u2.1 u2.2 (opBuy S (xs (i + 1)) (xs (i + 2))).2.2)) _ := kV_wc hV1 (fun e => by simp only [wc_app]; omega)
  have hl9 : lv_has ls 7 [(0, .ref b), (1, .ref (yH y 0)), (2, .ref h), (3, .ref ol), (4, .int (nI i))] := lv_sub hl [2, 3, 4, 5, 6] rfl
  have hfin : W pp l ee room_1 s m #[Value.ref b] below meth cc0 H locs (cells + 3 + 0 + 0) (slots + 18 + 0 + 0) Q (F0 m 1436 ls []) := by
    refine W.widen (k := cells + 20) (n := slots + 2000) (by omega) (by omega) ?_
    exact kk (opBuy S (xs (i + 1)) (xs (i + 2))).2.2 u1.1 u1.2 (opBuy S (xs (i + 1)) (xs (i + 2))).1 u2.1 u2.2 H locs (kI_Buy hI (xs (i + 1)) (xs (i + 2))) hp1 hp2 hV2 hS ls hl9
  refine lv_iload hx hb dL_law_821 (lv_at hl 1 rfl) ?_
  refine lv_icmp_eq (tgt := 828) hx hb dL_law_823 (by decide) (fun _ => ?_) (fun z => absurd rfl z)
  refine lv_iload hx hb dL_law_828 (lv_at hl 1 rfl) ?_
  refine kn_if_ne (tgt := 845) hx hb (o1_Buy _ _ _) dL_law_830 (by decide) (fun _ => lv_goto (tgt := 1436) hx hb dL_law_845 (by decide) hfin) (fun hz => ?_)
  refine lv_aload_n hx hb dL_law_833 rfl (lv_at hl 5 rfl) ?_
  refine lv_iconst (v := nI 0) hx hb dL_law_834 (by decide) ?_
  refine va_lald hx hb hK hV3.1 0 3 rfl rfl (show vp_in (nI 0) 1 from vp_in_nI (by decide) (by decide)) dL_law_835 ?_
  rw [show u1.2 (nI 0).toNatClampNeg = (opBuy S (xs (i + 1)) (xs (i + 2))).2.1.toInt64 from hp3 hz]
  refine lv_iload hx hb dL_law_836 (lv_at hl 0 rfl) ?_
  refine lv_i2l (v := (opBuy S (xs (i + 1)) (xs (i + 2))).2.1.toInt64) hx hb dL_law_838 rfl ?_
  refine W.lcmp hx hb dL_law_839 ?_
  rw [lgc_self]
  refine lv_if_eq (tgt := 845) hx hb dL_law_840 (by decide) (fun _ => lv_goto (tgt := 1436) hx hb dL_law_845 (by decide) hfin) (fun z => absurd rfl z)
set_option maxHeartbeats 4000000 in
set_option maxRecDepth 100000 in
theorem lw_c_rule (hlt : l.stackTraces = false) (hL : L ≤ 3072) (hx : pp.tables.exec = Jvm.exec) (hb : cc0.code = cL_law) (hml : cc0.maxLocals = 7) (hown : s.vm.findClass RL = some m.cls) (hts : ∀ w ∈ wsL_law, w.before #[Value.ref b] s = true) (hX : va_X b L xs s s.heap) (hbl : b < s.heap.size) (hbA : ¬ kA G b) (hE : kE G s s.heap)
    (i : Nat) (hi : i + 6 ≤ L) (S : kS) (y : kY) (ol : Nat) (g : Nat → Int64) (h : Nat) (ad : Nat → Nat) (rf rl rw : Nat) (hI : kInv S) (hY : yI G S y) (cells slots : Nat) (hcs : cells + 20 ≤ 601024) (hsl : slots + 2000 ≤ 7293034) (H : Heap) (locs : List Loc) (hV : kV G (lwV G S y ol g h ad rf rl rw) H) (hS : va_S (kA G) s.heap H locs) (ls : Array Slot) (hl : lv_has ls 7 [(0, .ref b), (1, .ref (yH y 0)), (2, .ref h), (3, .ref ol), (4, .int (nI i))])
    (kk : ∀ (S2 : kS) (y2 : kY) (g2 : Nat → Int64) (rf2 rl2 rw2 : Nat) (H : Heap) (locs : List Loc), kInv S2 → yI G S2 y2 → yH y2 0 = yH y 0 → kV G (lwV G S2 y2 ol g2 h ad rf2 rl2 rw2) H → va_S (kA G) s.heap H locs → ∀ (ls : Array Slot), lv_has ls 7 [(0, .ref b), (1, .ref (yH y 0)), (2, .ref h), (3, .ref ol), (4, .int (nI i))] → W pp l ee room_1 s m #[Value.ref b] below meth cc0 H locs (cells + 20) (slots + 2000) Q (F0 m 1436 ls [])) :
    W pp l ee room_1 s m #[Value.ref b] below meth cc0 H locs cells slots Q (F0 m 848 ls []) := by
  have hK := hE.1
  have hF : CallFix pp m cc0 cL_law 7 s #[Value.ref b] wsL_law RL := ⟨hx, hb, hml, hown, hts⟩
  refine lv_aload_n hx hb dL_law_848 rfl (lv_at hl 1 rfl) ?_
  refine lv_aload_n hx hb dL_law_849 rfl (lv_at hl 0 rfl) ?_
  refine lv_iload hx hb dL_law_850 (lv_at hl 4 rfl) ?_
  refine lv_iconst (v := nI 1) hx hb dL_law_852 (by decide) ?_
  refine kn_add hx hb dL_law_853 ?_
  refine kn_sld hx hb hX hbl hbA hS (j := i + 1) (by omega) (by omega) dL_law_854 ?_
  refine lv_aload_n hx hb dL_law_855 rfl (lv_at hl 3 rfl) ?_
  refine kc_i (vx_runSW (As := [.ref (yH y 0), .int (xs (i + 1)), .ref ol]) (rest := []) hF (c_L_rule l G S y ol g (kM G h ad rf rl rw S) (xs (i + 1)) hlt hI hY) (vx_cwSW 3 hts gL_law_L_rule rfl rfl rfl (by decide +kernel) ⟨Nat.le_of_ble_eq_true rfl, Nat.le_of_ble_eq_true rfl⟩) (kPreS hE hS hV) rfl rfl hl.1 rfl (lv_room (Nat.le_of_ble_eq_true rfl)) dL_law_856 ⟨(show cells + 2 ≤ 601024 by omega), (show slots + 12 ≤ 7293034 by omega)⟩) hS (fun r1 u1 H locs hp hV hS => ?_)
  obtain ⟨hp0, hp1, hp2, hp3⟩ := hp
  subst hp0
  refine lv_istore (lv' := [(5, .int (nI (opRule S (xs (i + 1))).1)), (0, .ref b), (1, .ref (yH y 0)), (2, .ref h), (3, .ref ol), (4, .int (nI i))]) hx hb dL_law_859 hl (by decide) rfl (fun ls hl => ?_)
  have hV : kV G (kM G h ad rf rl rw S ++ (siteW G (opRule S (xs (i + 1))).2.2 u1.1 ++ [(ol, .inl (kcL G, 1, .inr (.inl u1.2)))])) _ := kV_wc hV (fun e => by simp only [wc_app]; omega)
  refine lv_aload_n hx hb dL_law_861 rfl (lv_at hl 3 rfl) ?_
  refine lv_aload_n hx hb dL_law_862 rfl (lv_at hl 1 rfl) ?_
  refine lv_iload hx hb dL_law_863 (lv_at hl 5 rfl) ?_
  refine lv_iconst (v := nI 1) hx hb dL_law_865 (by decide) ?_
  refine kn_add hx hb dL_law_866 ?_
  refine kn_sld hx hb hX hbl hbA hS (j := i + 1) (by omega) (by omega) dL_law_867 ?_
  refine kc_i (va_runV (As := [.int (xs (i + 1))]) (rest := []) hF (c_X6_rule l G h ad rf rl rw S (siteW G (opRule S (xs (i + 1))).2.2 u1.1 ++ [(ol, .inl (kcL G, 1, .inr (.inl u1.2)))]) (xs (i + 1)) hI) (cwV 1 hts gL_law_X6_rule rfl rfl rfl (by decide +kernel) ⟨Nat.le_of_ble_eq_true rfl, Nat.le_of_ble_eq_true rfl⟩) (kPreV hE hS hV 0 rfl rfl) rfl rfl hl.1 rfl (lv_room (Nat.le_of_ble_eq_true rfl)) dL_law_868 ⟨(show cells + 2 + 0 ≤ 601024 by omega), (show slots + 12 + 0 ≤ 7293034 by omega)⟩) hS (fun r2 u2 H locs hq hV hS => ?_)
  subst hq
  refine lv_istore (lv' := [(6, .int (opRule S (xs (i + 1))).2.1), (5, .int (nI (opRule S (xs (i + 1))).1)), (0, .ref b), (1, .ref (yH y 0)), (2, .ref h), (3, .ref ol), (4, .int (nI i))]) hx hb dL_law_871 hl (by decide) rfl (fun ls hl => ?_)
  have hV : kV G (kM G h ad (opRule S (xs (i + 1))).1 u2.1 u2.2 (opRule S (xs (i + 1))).2.2 ++ (siteW G (opRule S (xs (i + 1))).2.2 u1.1 ++ [(ol, .inl (kcL G, 1, .inr (.inl u1.2)))])) _ := hV
  refine lv_aload_n hx hb dL_law_873 rfl (lv_at hl 4 rfl) ?_
  refine kc_i (va_runV (As := []) (rest := []) hF (c_X6_thrown l G h ad (opRule S (xs (i + 1))).1 u2.1 u2.2 (opRule S (xs (i + 1))).2.2 (siteW G (opRule S (xs (i + 1))).2.2 u1.1 ++ [(ol, .inl (kcL G, 1, .inr (.inl u1.2)))])) (cwV 0 hts gL_law_X6_thrown rfl rfl rfl (by decide +kernel) ⟨Nat.le_of_ble_eq_true rfl, Nat.le_of_ble_eq_true rfl⟩) (kPreV hE hS hV 0 rfl rfl) rfl rfl hl.1 rfl (lv_room (Nat.le_of_ble_eq_true rfl)) dL_law_874 ⟨(show cells + 2 + 0 + 0 ≤ 601024 by omega), (show slots + 12 + 0 + 0 ≤ 7293034 by omega)⟩) hS (fun r3 u3 H locs hq3 hV hS => ?_)
  subst hq3
  have hV1 : kV G (kM G h ad (opRule S (xs (i + 1))).1 u2.1 u2.2 (opRule S (xs (i + 1))).2.2 ++ (siteW G (opRule S (xs (i + 1))).2.2 u1.1 ++ [(ol, .inl (kcL G, 1, .inr (.inl u1.2)))])) _ := hV
  have hV2 : kV G (lwV G (opRule S (xs (i + 1))).2.2 u1.1 ol u1.2 h ad (opRule S (xs (i + 1))).1 u2.1 u2.2) _ := kV_wc hV1 (fun e => by simp only [wc_app]; omega)
  have hV3 : kV G ([(ol, .inl (kcL G, 1, .inr (.inl u1.2)))] ++ (siteW G (opRule S (xs (i + 1))).2.2 u1.1 ++ kM G h ad (opRule S (xs (i + 1))).1 u2.1 u2.2 (opRule S (xs (i + 1))).2.2)) _ := kV_wc hV1 (fun e => by simp only [wc_app]; omega)
  have hl9 : lv_has ls 7 [(0, .ref b), (1, .ref (yH y 0)), (2, .ref h), (3, .ref ol), (4, .int (nI i))] := lv_sub hl [2, 3, 4, 5, 6] rfl
  have hfin : W pp l ee room_1 s m #[Value.ref b] below meth cc0 H locs (cells + 2 + 0 + 0) (slots + 12 + 0 + 0) Q (F0 m 1436 ls []) := by
    refine W.widen (k := cells + 20) (n := slots + 2000) (by omega) (by omega) ?_
    exact kk (opRule S (xs (i + 1))).2.2 u1.1 u1.2 (opRule S (xs (i + 1))).1 u2.1 u2.2 H locs (kI_Rule hI (xs (i + 1))) hp1 hp2 hV2 hS ls hl9
  refine lv_iload hx hb dL_law_877 (lv_at hl 1 rfl) ?_
  refine lv_icmp_eq (tgt := 884) hx hb dL_law_879 (by decide) (fun _ => ?_) (fun z => absurd rfl z)
  refine lv_iload hx hb dL_law_884 (lv_at hl 1 rfl) ?_
  refine kn_if_ne (tgt := 901) hx hb (o1_Rule _ _) dL_law_886 (by decide) (fun _ => lv_goto (tgt := 1436) hx hb dL_law_901 (by decide) hfin) (fun hz => ?_)
  refine lv_aload_n hx hb dL_law_889 rfl (lv_at hl 5 rfl) ?_
  refine lv_iconst (v := nI 0) hx hb dL_law_890 (by decide) ?_
  refine va_lald hx hb hK hV3.1 0 3 rfl rfl (show vp_in (nI 0) 1 from vp_in_nI (by decide) (by decide)) dL_law_891 ?_
  rw [show u1.2 (nI 0).toNatClampNeg = (opRule S (xs (i + 1))).2.1.toInt64 from hp3 hz]
  refine lv_iload hx hb dL_law_892 (lv_at hl 0 rfl) ?_
  refine lv_i2l (v := (opRule S (xs (i + 1))).2.1.toInt64) hx hb dL_law_894 rfl ?_
  refine W.lcmp hx hb dL_law_895 ?_
  rw [lgc_self]
  refine lv_if_eq (tgt := 901) hx hb dL_law_896 (by decide) (fun _ => lv_goto (tgt := 1436) hx hb dL_law_901 (by decide) hfin) (fun z => absurd rfl z)
set_option maxHeartbeats 4000000 in
set_option maxRecDepth 100000 in
theorem lw_c_money (hlt : l.stackTraces = false) (hL : L ≤ 3072) (hx : pp.tables.exec = Jvm.exec) (hb : cc0.code = cL_law) (hml : cc0.maxLocals = 7) (hown : s.vm.findClass RL = some m.cls) (hts : ∀ w ∈ wsL_law, w.before #[Value.ref b] s = true) (hX : va_X b L xs s s.heap) (hbl : b < s.heap.size) (hbA : ¬ kA G b) (hE : kE G s s.heap)
    (i : Nat) (hi : i + 6 ≤ L) (S : kS) (y : kY) (ol : Nat) (g : Nat → Int64) (h : Nat) (ad : Nat → Nat) (rf rl rw : Nat) (hI : kInv S) (hY : yI G S y) (cells slots : Nat) (hcs : cells + 20 ≤ 601024) (hsl : slots + 2000 ≤ 7293034) (H : Heap) (locs : List Loc) (hV : kV G (lwV G S y ol g h ad rf rl rw) H) (hS : va_S (kA G) s.heap H locs) (ls : Array Slot) (hl : lv_has ls 7 [(0, .ref b), (1, .ref (yH y 0)), (2, .ref h), (3, .ref ol), (4, .int (nI i))])
    (kk : ∀ (S2 : kS) (y2 : kY) (g2 : Nat → Int64) (rf2 rl2 rw2 : Nat) (H : Heap) (locs : List Loc), kInv S2 → yI G S2 y2 → yH y2 0 = yH y 0 → kV G (lwV G S2 y2 ol g2 h ad rf2 rl2 rw2) H → va_S (kA G) s.heap H locs → ∀ (ls : Array Slot), lv_has ls 7 [(0, .ref b), (1, .ref (yH y 0)), (2, .ref h), (3, .ref ol), (4, .int (nI i))] → W pp l ee room_1 s m #[Value.ref b] below meth cc0 H locs (cells + 20) (slots + 2000) Q (F0 m 1436 ls [])) :
    W pp l ee room_1 s m #[Value.ref b] below meth cc0 H locs cells slots Q (F0 m 904 ls []) := by
  have hK := hE.1
  have hF : CallFix pp m cc0 cL_law 7 s #[Value.ref b] wsL_law RL := ⟨hx, hb, hml, hown, hts⟩
  refine lv_aload_n hx hb dL_law_904 rfl (lv_at hl 1 rfl) ?_
  refine lv_aload_n hx hb dL_law_905 rfl (lv_at hl 0 rfl) ?_
  refine lv_iload hx hb dL_law_906 (lv_at hl 4 rfl) ?_
  refine lv_iconst (v := nI 1) hx hb dL_law_908 (by decide) ?_
  refine kn_add hx hb dL_law_909 ?_
  refine kn_sld hx hb hX hbl hbA hS (j := i + 1) (by omega) (by omega) dL_law_910 ?_
  refine lv_aload_n hx hb dL_law_911 rfl (lv_at hl 3 rfl) ?_
  refine kc_i (vx_runSW (As := [.ref (yH y 0), .int (xs (i + 1)), .ref ol]) (rest := []) hF (c_L_money l G S y ol g (kM G h ad rf rl rw S) (xs (i + 1)) hlt hI hY) (vx_cwSW 3 hts gL_law_L_money rfl rfl rfl (by decide +kernel) ⟨Nat.le_of_ble_eq_true rfl, Nat.le_of_ble_eq_true rfl⟩) (kPreS hE hS hV) rfl rfl hl.1 rfl (lv_room (Nat.le_of_ble_eq_true rfl)) dL_law_912 ⟨(show cells + 1 ≤ 601024 by omega), (show slots + 6 ≤ 7293034 by omega)⟩) hS (fun r1 u1 H locs hp hV hS => ?_)
  obtain ⟨hp0, hp1, hp2, hp3⟩ := hp
  subst hp0
  refine lv_istore (lv' := [(5, .int (nI (opMoney S (xs (i + 1))).1)), (0, .ref b), (1, .ref (yH y 0)), (2, .ref h), (3, .ref ol), (4, .int (nI i))]) hx hb dL_law_915 hl (by decide) rfl (fun ls hl => ?_)
  have hV : kV G (kM G h ad rf rl rw S ++ (siteW G (opMoney S (xs (i + 1))).2.2 u1.1 ++ [(ol, .inl (kcL G, 1, .inr (.inl u1.2)))])) _ := kV_wc hV (fun e => by simp only [wc_app]; omega)
  refine lv_aload_n hx hb dL_law_917 rfl (lv_at hl 3 rfl) ?_
  refine lv_aload_n hx hb dL_law_918 rfl (lv_at hl 1 rfl) ?_
  refine lv_iload hx hb dL_law_919 (lv_at hl 5 rfl) ?_
  refine lv_iconst (v := nI 1) hx hb dL_law_921 (by decide) ?_
  refine kn_add hx hb dL_law_922 ?_
  refine kn_sld hx hb hX hbl hbA hS (j := i + 1) (by omega) (by omega) dL_law_923 ?_
  refine kc_i (va_runV (As := [.int (xs (i + 1))]) (rest := []) hF (c_X6_money l G h ad rf rl rw S (siteW G (opMoney S (xs (i + 1))).2.2 u1.1 ++ [(ol, .inl (kcL G, 1, .inr (.inl u1.2)))]) (xs (i + 1)) hI) (cwV 1 hts gL_law_X6_money rfl rfl rfl (by decide +kernel) ⟨Nat.le_of_ble_eq_true rfl, Nat.le_of_ble_eq_true rfl⟩) (kPreV hE hS hV 0 rfl rfl) rfl rfl hl.1 rfl (lv_room (Nat.le_of_ble_eq_true rfl)) dL_law_924 ⟨(show cells + 1 + 0 ≤ 601024 by omega), (show slots + 6 + 0 ≤ 7293034 by omega)⟩) hS (fun r2 u2 H locs hq hV hS => ?_)
  subst hq
  refine lv_istore (lv' := [(6, .int (opMoney S (xs (i + 1))).2.1), (5, .int (nI (opMoney S (xs (i + 1))).1)), (0, .ref b), (1, .ref (yH y 0)), (2, .ref h), (3, .ref ol), (4, .int (nI i))]) hx hb dL_law_927 hl (by decide) rfl (fun ls hl => ?_)
  have hV : kV G (kM G h ad (opMoney S (xs (i + 1))).1 u2.1 u2.2 (opMoney S (xs (i + 1))).2.2 ++ (siteW G (opMoney S (xs (i + 1))).2.2 u1.1 ++ [(ol, .inl (kcL G, 1, .inr (.inl u1.2)))])) _ := hV
  refine lv_aload_n hx hb dL_law_929 rfl (lv_at hl 4 rfl) ?_
  refine kc_i (va_runV (As := []) (rest := []) hF (c_X6_thrown l G h ad (opMoney S (xs (i + 1))).1 u2.1 u2.2 (opMoney S (xs (i + 1))).2.2 (siteW G (opMoney S (xs (i + 1))).2.2 u1.1 ++ [(ol, .inl (kcL G, 1, .inr (.inl u1.2)))])) (cwV 0 hts gL_law_X6_thrown rfl rfl rfl (by decide +kernel) ⟨Nat.le_of_ble_eq_true rfl, Nat.le_of_ble_eq_true rfl⟩) (kPreV hE hS hV 0 rfl rfl) rfl rfl hl.1 rfl (lv_room (Nat.le_of_ble_eq_true rfl)) dL_law_930 ⟨(show cells + 1 + 0 + 0 ≤ 601024 by omega), (show slots + 6 + 0 + 0 ≤ 7293034 by omega)⟩) hS (fun r3 u3 H locs hq3 hV hS => ?_)
  subst hq3
  have hV1 : kV G (kM G h ad (opMoney S (xs (i + 1))).1 u2.1 u2.2 (opMoney S (xs (i + 1))).2.2 ++ (siteW G (opMoney S (xs (i + 1))).2.2 u1.1 ++ [(ol, .inl (kcL G, 1, .inr (.inl u1.2)))])) _ := hV
  have hV2 : kV G (lwV G (opMoney S (xs (i + 1))).2.2 u1.1 ol u1.2 h ad (opMoney S (xs (i + 1))).1 u2.1 u2.2) _ := kV_wc hV1 (fun e => by simp only [wc_app]; omega)
  have hV3 : kV G ([(ol, .inl (kcL G, 1, .inr (.inl u1.2)))] ++ (siteW G (opMoney S (xs (i + 1))).2.2 u1.1 ++ kM G h ad (opMoney S (xs (i + 1))).1 u2.1 u2.2 (opMoney S (xs (i + 1))).2.2)) _ := kV_wc hV1 (fun e => by simp only [wc_app]; omega)
  have hl9 : lv_has ls 7 [(0, .ref b), (1, .ref (yH y 0)), (2, .ref h), (3, .ref ol), (4, .int (nI i))] := lv_sub hl [2, 3, 4, 5, 6] rfl
  have hfin : W pp l ee room_1 s m #[Value.ref b] below meth cc0 H locs (cells + 1 + 0 + 0) (slots + 6 + 0 + 0) Q (F0 m 1436 ls []) := by
    refine W.widen (k := cells + 20) (n := slots + 2000) (by omega) (by omega) ?_
    exact kk (opMoney S (xs (i + 1))).2.2 u1.1 u1.2 (opMoney S (xs (i + 1))).1 u2.1 u2.2 H locs (kI_Money hI (xs (i + 1))) hp1 hp2 hV2 hS ls hl9
  refine lv_iload hx hb dL_law_933 (lv_at hl 1 rfl) ?_
  refine lv_icmp_eq (tgt := 940) hx hb dL_law_935 (by decide) (fun _ => ?_) (fun z => absurd rfl z)
  refine lv_iload hx hb dL_law_940 (lv_at hl 1 rfl) ?_
  refine kn_if_ne (tgt := 957) hx hb (o1_Money _ _) dL_law_942 (by decide) (fun _ => lv_goto (tgt := 1436) hx hb dL_law_957 (by decide) hfin) (fun hz => ?_)
  refine lv_aload_n hx hb dL_law_945 rfl (lv_at hl 5 rfl) ?_
  refine lv_iconst (v := nI 0) hx hb dL_law_946 (by decide) ?_
  refine va_lald hx hb hK hV3.1 0 3 rfl rfl (show vp_in (nI 0) 1 from vp_in_nI (by decide) (by decide)) dL_law_947 ?_
  rw [show u1.2 (nI 0).toNatClampNeg = (opMoney S (xs (i + 1))).2.1.toInt64 from hp3 hz]
  refine lv_iload hx hb dL_law_948 (lv_at hl 0 rfl) ?_
  refine lv_i2l (v := (opMoney S (xs (i + 1))).2.1.toInt64) hx hb dL_law_950 rfl ?_
  refine W.lcmp hx hb dL_law_951 ?_
  rw [lgc_self]
  refine lv_if_eq (tgt := 957) hx hb dL_law_952 (by decide) (fun _ => lv_goto (tgt := 1436) hx hb dL_law_957 (by decide) hfin) (fun z => absurd rfl z)
set_option maxHeartbeats 4000000 in
set_option maxRecDepth 100000 in
theorem lw_c_lot (hlt : l.stackTraces = false) (hL : L ≤ 3072) (hx : pp.tables.exec = Jvm.exec) (hb : cc0.code = cL_law) (hml : cc0.maxLocals = 7) (hown : s.vm.findClass RL = some m.cls) (hts : ∀ w ∈ wsL_law, w.before #[Value.ref b] s = true) (hX : va_X b L xs s s.heap) (hbl : b < s.heap.size) (hbA : ¬ kA G b) (hE : kE G s s.heap)
    (i : Nat) (hi : i + 6 ≤ L) (S : kS) (y : kY) (ol : Nat) (g : Nat → Int64) (h : Nat) (ad : Nat → Nat) (rf rl rw : Nat) (hI : kInv S) (hY : yI G S y) (cells slots : Nat) (hcs : cells + 20 ≤ 601024) (hsl : slots + 2000 ≤ 7293034) (H : Heap) (locs : List Loc) (hV : kV G (lwV G S y ol g h ad rf rl rw) H) (hS : va_S (kA G) s.heap H locs) (ls : Array Slot) (hl : lv_has ls 7 [(0, .ref b), (1, .ref (yH y 0)), (2, .ref h), (3, .ref ol), (4, .int (nI i))])
    (kk : ∀ (S2 : kS) (y2 : kY) (g2 : Nat → Int64) (rf2 rl2 rw2 : Nat) (H : Heap) (locs : List Loc), kInv S2 → yI G S2 y2 → yH y2 0 = yH y 0 → kV G (lwV G S2 y2 ol g2 h ad rf2 rl2 rw2) H → va_S (kA G) s.heap H locs → ∀ (ls : Array Slot), lv_has ls 7 [(0, .ref b), (1, .ref (yH y 0)), (2, .ref h), (3, .ref ol), (4, .int (nI i))] → W pp l ee room_1 s m #[Value.ref b] below meth cc0 H locs (cells + 20) (slots + 2000) Q (F0 m 1436 ls [])) :
    W pp l ee room_1 s m #[Value.ref b] below meth cc0 H locs cells slots Q (F0 m 960 ls []) := by
  have hK := hE.1
  have hF : CallFix pp m cc0 cL_law 7 s #[Value.ref b] wsL_law RL := ⟨hx, hb, hml, hown, hts⟩
  refine lv_aload_n hx hb dL_law_960 rfl (lv_at hl 1 rfl) ?_
  refine lv_aload_n hx hb dL_law_961 rfl (lv_at hl 0 rfl) ?_
  refine lv_iload hx hb dL_law_962 (lv_at hl 4 rfl) ?_
  refine lv_iconst (v := nI 1) hx hb dL_law_964 (by decide) ?_
  refine kn_add hx hb dL_law_965 ?_
  refine kn_sld hx hb hX hbl hbA hS (j := i + 1) (by omega) (by omega) dL_law_966 ?_
  refine lv_aload_n hx hb dL_law_967 rfl (lv_at hl 0 rfl) ?_
  refine lv_iload hx hb dL_law_968 (lv_at hl 4 rfl) ?_
  refine lv_iconst (v := nI 2) hx hb dL_law_970 (by decide) ?_
  refine kn_add hx hb dL_law_971 ?_
  refine kn_sld hx hb hX hbl hbA hS (j := i + 2) (by omega) (by omega) dL_law_972 ?_
  refine lv_aload_n hx hb dL_law_973 rfl (lv_at hl 0 rfl) ?_
  refine lv_iload hx hb dL_law_974 (lv_at hl 4 rfl) ?_
  refine lv_iconst (v := nI 3) hx hb dL_law_976 (by decide) ?_
  refine kn_add hx hb dL_law_977 ?_
  refine kn_sld hx hb hX hbl hbA hS (j := i + 3) (by omega) (by omega) dL_law_978 ?_
  refine lv_aload_n hx hb dL_law_979 rfl (lv_at hl 3 rfl) ?_
  refine kc_i (vx_runSW (As := [.ref (yH y 0), .int (xs (i + 1)), .int (xs (i + 2)), .int (xs (i + 3)), .ref ol]) (rest := []) hF (c_L_lot l G S y ol g (kM G h ad rf rl rw S) (xs (i + 1)) (xs (i + 2)) (xs (i + 3)) hlt hI hY) (vx_cwSW 5 hts gL_law_L_lot rfl rfl rfl (by decide +kernel) ⟨Nat.le_of_ble_eq_true rfl, Nat.le_of_ble_eq_true rfl⟩) (kPreS hE hS hV) rfl rfl hl.1 rfl (lv_room (Nat.le_of_ble_eq_true rfl)) dL_law_980 ⟨(show cells + 6 ≤ 601024 by omega), (show slots + 80 ≤ 7293034 by omega)⟩) hS (fun r1 u1 H locs hp hV hS => ?_)
  obtain ⟨hp0, hp1, hp2, hp3⟩ := hp
  subst hp0
  refine lv_istore (lv' := [(5, .int (nI (opLot S (xs (i + 1)) (xs (i + 2)) (xs (i + 3))).1)), (0, .ref b), (1, .ref (yH y 0)), (2, .ref h), (3, .ref ol), (4, .int (nI i))]) hx hb dL_law_983 hl (by decide) rfl (fun ls hl => ?_)
  have hV : kV G (kM G h ad rf rl rw S ++ (siteW G (opLot S (xs (i + 1)) (xs (i + 2)) (xs (i + 3))).2.2 u1.1 ++ [(ol, .inl (kcL G, 1, .inr (.inl u1.2)))])) _ := kV_wc hV (fun e => by simp only [wc_app]; omega)
  refine lv_aload_n hx hb dL_law_985 rfl (lv_at hl 3 rfl) ?_
  refine lv_aload_n hx hb dL_law_986 rfl (lv_at hl 1 rfl) ?_
  refine lv_iload hx hb dL_law_987 (lv_at hl 5 rfl) ?_
  refine lv_iconst (v := nI 1) hx hb dL_law_989 (by decide) ?_
  refine kn_add hx hb dL_law_990 ?_
  refine kn_sld hx hb hX hbl hbA hS (j := i + 1) (by omega) (by omega) dL_law_991 ?_
  refine lv_aload_n hx hb dL_law_992 rfl (lv_at hl 1 rfl) ?_
  refine lv_iload hx hb dL_law_993 (lv_at hl 5 rfl) ?_
  refine lv_iconst (v := nI 2) hx hb dL_law_995 (by decide) ?_
  refine kn_add hx hb dL_law_996 ?_
  refine kn_sld hx hb hX hbl hbA hS (j := i + 2) (by omega) (by omega) dL_law_997 ?_
  refine lv_aload_n hx hb dL_law_998 rfl (lv_at hl 1 rfl) ?_
  refine lv_iload hx hb dL_law_999 (lv_at hl 5 rfl) ?_
  refine lv_iconst (v := nI 3) hx hb dL_law_1001 (by decide) ?_
  refine kn_add hx hb dL_law_1002 ?_
  refine kn_sld hx hb hX hbl hbA hS (j := i + 3) (by omega) (by omega) dL_law_1003 ?_
  refine kc_i (va_runV (As := [.int (xs (i + 1)), .int (xs (i + 2)), .int (xs (i + 3))]) (rest := []) hF (c_X6_lot l G h ad rf rl rw S (siteW G (opLot S (xs (i + 1)) (xs (i + 2)) (xs (i + 3))).2.2 u1.1 ++ [(ol, .inl (kcL G, 1, .inr (.inl u1.2)))]) (xs (i + 1)) (xs (i + 2)) (xs (i + 3)) hI) (cwV 3 hts gL_law_X6_lot rfl rfl rfl (by decide +kernel) ⟨Nat.le_of_ble_eq_true rfl, Nat.le_of_ble_eq_true rfl⟩) (kPreV hE hS hV 0 rfl rfl) rfl rfl hl.1 rfl (lv_room (Nat.le_of_ble_eq_true rfl)) dL_law_1004 ⟨(show cells + 6 + 0 ≤ 601024 by omega), (show slots + 80 + 0 ≤ 7293034 by omega)⟩) hS (fun r2 u2 H locs hq hV hS => ?_)
  subst hq
  refine lv_istore (lv' := [(6, .int (opLot S (xs (i + 1)) (xs (i + 2)) (xs (i + 3))).2.1), (5, .int (nI (opLot S (xs (i + 1)) (xs (i + 2)) (xs (i + 3))).1)), (0, .ref b), (1, .ref (yH y 0)), (2, .ref h), (3, .ref ol), (4, .int (nI i))]) hx hb dL_law_1007 hl (by decide) rfl (fun ls hl => ?_)
  have hV : kV G (kM G h ad (opLot S (xs (i + 1)) (xs (i + 2)) (xs (i + 3))).1 u2.1 u2.2 (opLot S (xs (i + 1)) (xs (i + 2)) (xs (i + 3))).2.2 ++ (siteW G (opLot S (xs (i + 1)) (xs (i + 2)) (xs (i + 3))).2.2 u1.1 ++ [(ol, .inl (kcL G, 1, .inr (.inl u1.2)))])) _ := hV
  refine lv_aload_n hx hb dL_law_1009 rfl (lv_at hl 4 rfl) ?_
  refine kc_i (va_runV (As := []) (rest := []) hF (c_X6_thrown l G h ad (opLot S (xs (i + 1)) (xs (i + 2)) (xs (i + 3))).1 u2.1 u2.2 (opLot S (xs (i + 1)) (xs (i + 2)) (xs (i + 3))).2.2 (siteW G (opLot S (xs (i + 1)) (xs (i + 2)) (xs (i + 3))).2.2 u1.1 ++ [(ol, .inl (kcL G, 1, .inr (.inl u1.2)))])) (cwV 0 hts gL_law_X6_thrown rfl rfl rfl (by decide +kernel) ⟨Nat.le_of_ble_eq_true rfl, Nat.le_of_ble_eq_true rfl⟩) (kPreV hE hS hV 0 rfl rfl) rfl rfl hl.1 rfl (lv_room (Nat.le_of_ble_eq_true rfl)) dL_law_1010 ⟨(show cells + 6 + 0 + 0 ≤ 601024 by omega), (show slots + 80 + 0 + 0 ≤ 7293034 by omega)⟩) hS (fun r3 u3 H locs hq3 hV hS => ?_)
  subst hq3
  have hV1 : kV G (kM G h ad (opLot S (xs (i + 1)) (xs (i + 2)) (xs (i + 3))).1 u2.1 u2.2 (opLot S (xs (i + 1)) (xs (i + 2)) (xs (i + 3))).2.2 ++ (siteW G (opLot S (xs (i + 1)) (xs (i + 2)) (xs (i + 3))).2.2 u1.1 ++ [(ol, .inl (kcL G, 1, .inr (.inl u1.2)))])) _ := hV
  have hV2 : kV G (lwV G (opLot S (xs (i + 1)) (xs (i + 2)) (xs (i + 3))).2.2 u1.1 ol u1.2 h ad (opLot S (xs (i + 1)) (xs (i + 2)) (xs (i + 3))).1 u2.1 u2.2) _ := kV_wc hV1 (fun e => by simp only [wc_app]; omega)
  have hV3 : kV G ([(ol, .inl (kcL G, 1, .inr (.inl u1.2)))] ++ (siteW G (opLot S (xs (i + 1)) (xs (i + 2)) (xs (i + 3))).2.2 u1.1 ++ kM G h ad (opLot S (xs (i + 1)) (xs (i + 2)) (xs (i + 3))).1 u2.1 u2.2 (opLot S (xs (i + 1)) (xs (i + 2)) (xs (i + 3))).2.2)) _ := kV_wc hV1 (fun e => by simp only [wc_app]; omega)
  have hl9 : lv_has ls 7 [(0, .ref b), (1, .ref (yH y 0)), (2, .ref h), (3, .ref ol), (4, .int (nI i))] := lv_sub hl [2, 3, 4, 5, 6] rfl
  have hfin : W pp l ee room_1 s m #[Value.ref b] below meth cc0 H locs (cells + 6 + 0 + 0) (slots + 80 + 0 + 0) Q (F0 m 1436 ls []) := by
    refine W.widen (k := cells + 20) (n := slots + 2000) (by omega) (by omega) ?_
    exact kk (opLot S (xs (i + 1)) (xs (i + 2)) (xs (i + 3))).2.2 u1.1 u1.2 (opLot S (xs (i + 1)) (xs (i + 2)) (xs (i + 3))).1 u2.1 u2.2 H locs (kI_Lot hI (xs (i + 1)) (xs (i + 2)) (xs (i + 3))) hp1 hp2 hV2 hS ls hl9
  refine lv_iload hx hb dL_law_1013 (lv_at hl 1 rfl) ?_
  refine lv_icmp_eq (tgt := 1020) hx hb dL_law_1015 (by decide) (fun _ => ?_) (fun z => absurd rfl z)
  refine lv_iload hx hb dL_law_1020 (lv_at hl 1 rfl) ?_
  refine kn_if_ne (tgt := 1037) hx hb (o1_Lot _ _ _ _) dL_law_1022 (by decide) (fun _ => lv_goto (tgt := 1436) hx hb dL_law_1037 (by decide) hfin) (fun hz => ?_)
  refine lv_aload_n hx hb dL_law_1025 rfl (lv_at hl 5 rfl) ?_
  refine lv_iconst (v := nI 0) hx hb dL_law_1026 (by decide) ?_
  refine va_lald hx hb hK hV3.1 0 3 rfl rfl (show vp_in (nI 0) 1 from vp_in_nI (by decide) (by decide)) dL_law_1027 ?_
  rw [show u1.2 (nI 0).toNatClampNeg = (opLot S (xs (i + 1)) (xs (i + 2)) (xs (i + 3))).2.1.toInt64 from hp3 hz]
  refine lv_iload hx hb dL_law_1028 (lv_at hl 0 rfl) ?_
  refine lv_i2l (v := (opLot S (xs (i + 1)) (xs (i + 2)) (xs (i + 3))).2.1.toInt64) hx hb dL_law_1030 rfl ?_
  refine W.lcmp hx hb dL_law_1031 ?_
  rw [lgc_self]
  refine lv_if_eq (tgt := 1037) hx hb dL_law_1032 (by decide) (fun _ => lv_goto (tgt := 1436) hx hb dL_law_1037 (by decide) hfin) (fun z => absurd rfl z)
set_option maxHeartbeats 4000000 in
set_option maxRecDepth 100000 in
theorem lw_c_swap (hlt : l.stackTraces = false) (hL : L ≤ 3072) (hx : pp.tables.exec = Jvm.exec) (hb : cc0.code = cL_law) (hml : cc0.maxLocals = 7) (hown : s.vm.findClass RL = some m.cls) (hts : ∀ w ∈ wsL_law, w.before #[Value.ref b] s = true) (hX : va_X b L xs s s.heap) (hbl : b < s.heap.size) (hbA : ¬ kA G b) (hE : kE G s s.heap)
    (i : Nat) (hi : i + 6 ≤ L) (S : kS) (y : kY) (ol : Nat) (g : Nat → Int64) (h : Nat) (ad : Nat → Nat) (rf rl rw : Nat) (hI : kInv S) (hY : yI G S y) (cells slots : Nat) (hcs : cells + 20 ≤ 601024) (hsl : slots + 2000 ≤ 7293034) (H : Heap) (locs : List Loc) (hV : kV G (lwV G S y ol g h ad rf rl rw) H) (hS : va_S (kA G) s.heap H locs) (ls : Array Slot) (hl : lv_has ls 7 [(0, .ref b), (1, .ref (yH y 0)), (2, .ref h), (3, .ref ol), (4, .int (nI i))])
    (kk : ∀ (S2 : kS) (y2 : kY) (g2 : Nat → Int64) (rf2 rl2 rw2 : Nat) (H : Heap) (locs : List Loc), kInv S2 → yI G S2 y2 → yH y2 0 = yH y 0 → kV G (lwV G S2 y2 ol g2 h ad rf2 rl2 rw2) H → va_S (kA G) s.heap H locs → ∀ (ls : Array Slot), lv_has ls 7 [(0, .ref b), (1, .ref (yH y 0)), (2, .ref h), (3, .ref ol), (4, .int (nI i))] → W pp l ee room_1 s m #[Value.ref b] below meth cc0 H locs (cells + 20) (slots + 2000) Q (F0 m 1436 ls [])) :
    W pp l ee room_1 s m #[Value.ref b] below meth cc0 H locs cells slots Q (F0 m 1040 ls []) := by
  have hK := hE.1
  have hF : CallFix pp m cc0 cL_law 7 s #[Value.ref b] wsL_law RL := ⟨hx, hb, hml, hown, hts⟩
  refine lv_aload_n hx hb dL_law_1040 rfl (lv_at hl 1 rfl) ?_
  refine lv_aload_n hx hb dL_law_1041 rfl (lv_at hl 0 rfl) ?_
  refine lv_iload hx hb dL_law_1042 (lv_at hl 4 rfl) ?_
  refine lv_iconst (v := nI 1) hx hb dL_law_1044 (by decide) ?_
  refine kn_add hx hb dL_law_1045 ?_
  refine kn_sld hx hb hX hbl hbA hS (j := i + 1) (by omega) (by omega) dL_law_1046 ?_
  refine lv_aload_n hx hb dL_law_1047 rfl (lv_at hl 0 rfl) ?_
  refine lv_iload hx hb dL_law_1048 (lv_at hl 4 rfl) ?_
  refine lv_iconst (v := nI 2) hx hb dL_law_1050 (by decide) ?_
  refine kn_add hx hb dL_law_1051 ?_
  refine kn_sld hx hb hX hbl hbA hS (j := i + 2) (by omega) (by omega) dL_law_1052 ?_
  refine lv_aload_n hx hb dL_law_1053 rfl (lv_at hl 3 rfl) ?_
  refine kc_i (vx_runSW (As := [.ref (yH y 0), .int (xs (i + 1)), .int (xs (i + 2)), .ref ol]) (rest := []) hF (c_L_swap l G S y ol g (kM G h ad rf rl rw S) (xs (i + 1)) (xs (i + 2)) hlt hI hY) (vx_cwSW 4 hts gL_law_L_swap rfl rfl rfl (by decide +kernel) ⟨Nat.le_of_ble_eq_true rfl, Nat.le_of_ble_eq_true rfl⟩) (kPreS hE hS hV) rfl rfl hl.1 rfl (lv_room (Nat.le_of_ble_eq_true rfl)) dL_law_1054 ⟨(show cells + 3 ≤ 601024 by omega), (show slots + 18 ≤ 7293034 by omega)⟩) hS (fun r1 u1 H locs hp hV hS => ?_)
  obtain ⟨hp0, hp1, hp2, hp3⟩ := hp
  subst hp0
  refine lv_istore (lv' := [(5, .int (nI (opSwap S (xs (i + 1)) (xs (i + 2))).1)), (0, .ref b), (1, .ref (yH y 0)), (2, .ref h), (3, .ref ol), (4, .int (nI i))]) hx hb dL_law_1057 hl (by decide) rfl (fun ls hl => ?_)
  have hV : kV G (kM G h ad rf rl rw S ++ (siteW G (opSwap S (xs (i + 1)) (xs (i + 2))).2.2 u1.1 ++ [(ol, .inl (kcL G, 1, .inr (.inl u1.2)))])) _ := kV_wc hV (fun e => by simp only [wc_app]; omega)
  refine lv_aload_n hx hb dL_law_1059 rfl (lv_at hl 3 rfl) ?_
  refine lv_aload_n hx hb dL_law_1060 rfl (lv_at hl 1 rfl) ?_
  refine lv_iload hx hb dL_law_1061 (lv_at hl 5 rfl) ?_
  refine lv_iconst (v := nI 1) hx hb dL_law_1063 (by decide) ?_
  refine kn_add hx hb dL_law_1064 ?_
  refine kn_sld hx hb hX hbl hbA hS (j := i + 1) (by omega) (by omega) dL_law_1065 ?_
  refine lv_aload_n hx hb dL_law_1066 rfl (lv_at hl 1 rfl) ?_
  refine lv_iload hx hb dL_law_1067 (lv_at hl 5 rfl) ?_
  refine lv_iconst (v := nI 2) hx hb dL_law_1069 (by decide) ?_
  refine kn_add hx hb dL_law_1070 ?_
  refine kn_sld hx hb hX hbl hbA hS (j := i + 2) (by omega) (by omega) dL_law_1071 ?_
  refine kc_i (va_runV (As := [.int (xs (i + 1)), .int (xs (i + 2))]) (rest := []) hF (c_X6_swap l G h ad rf rl rw S (siteW G (opSwap S (xs (i + 1)) (xs (i + 2))).2.2 u1.1 ++ [(ol, .inl (kcL G, 1, .inr (.inl u1.2)))]) (xs (i + 1)) (xs (i + 2)) hI) (cwV 2 hts gL_law_X6_swap rfl rfl rfl (by decide +kernel) ⟨Nat.le_of_ble_eq_true rfl, Nat.le_of_ble_eq_true rfl⟩) (kPreV hE hS hV 0 rfl rfl) rfl rfl hl.1 rfl (lv_room (Nat.le_of_ble_eq_true rfl)) dL_law_1072 ⟨(show cells + 3 + 0 ≤ 601024 by omega), (show slots + 18 + 0 ≤ 7293034 by omega)⟩) hS (fun r2 u2 H locs hq hV hS => ?_)
  subst hq
  refine lv_istore (lv' := [(6, .int (opSwap S (xs (i + 1)) (xs (i + 2))).2.1), (5, .int (nI (opSwap S (xs (i + 1)) (xs (i + 2))).1)), (0, .ref b), (1, .ref (yH y 0)), (2, .ref h), (3, .ref ol), (4, .int (nI i))]) hx hb dL_law_1075 hl (by decide) rfl (fun ls hl => ?_)
  have hV : kV G (kM G h ad (opSwap S (xs (i + 1)) (xs (i + 2))).1 u2.1 u2.2 (opSwap S (xs (i + 1)) (xs (i + 2))).2.2 ++ (siteW G (opSwap S (xs (i + 1)) (xs (i + 2))).2.2 u1.1 ++ [(ol, .inl (kcL G, 1, .inr (.inl u1.2)))])) _ := hV
  refine lv_aload_n hx hb dL_law_1077 rfl (lv_at hl 4 rfl) ?_
  refine kc_i (va_runV (As := []) (rest := []) hF (c_X6_thrown l G h ad (opSwap S (xs (i + 1)) (xs (i + 2))).1 u2.1 u2.2 (opSwap S (xs (i + 1)) (xs (i + 2))).2.2 (siteW G (opSwap S (xs (i + 1)) (xs (i + 2))).2.2 u1.1 ++ [(ol, .inl (kcL G, 1, .inr (.inl u1.2)))])) (cwV 0 hts gL_law_X6_thrown rfl rfl rfl (by decide +kernel) ⟨Nat.le_of_ble_eq_true rfl, Nat.le_of_ble_eq_true rfl⟩) (kPreV hE hS hV 0 rfl rfl) rfl rfl hl.1 rfl (lv_room (Nat.le_of_ble_eq_true rfl)) dL_law_1078 ⟨(show cells + 3 + 0 + 0 ≤ 601024 by omega), (show slots + 18 + 0 + 0 ≤ 7293034 by omega)⟩) hS (fun r3 u3 H locs hq3 hV hS => ?_)
  subst hq3
  have hV1 : kV G (kM G h ad (opSwap S (xs (i + 1)) (xs (i + 2))).1 u2.1 u2.2 (opSwap S (xs (i + 1)) (xs (i + 2))).2.2 ++ (siteW G (opSwap S (xs (i + 1)) (xs (i + 2))).2.2 u1.1 ++ [(ol, .inl (kcL G, 1, .inr (.inl u1.2)))])) _ := hV
  have hV2 : kV G (lwV G (opSwap S (xs (i + 1)) (xs (i + 2))).2.2 u1.1 ol u1.2 h ad (opSwap S (xs (i + 1)) (xs (i + 2))).1 u2.1 u2.2) _ := kV_wc hV1 (fun e => by simp only [wc_app]; omega)
  have hV3 : kV G ([(ol, .inl (kcL G, 1, .inr (.inl u1.2)))] ++ (siteW G (opSwap S (xs (i + 1)) (xs (i + 2))).2.2 u1.1 ++ kM G h ad (opSwap S (xs (i + 1)) (xs (i + 2))).1 u2.1 u2.2 (opSwap S (xs (i + 1)) (xs (i + 2))).2.2)) _ := kV_wc hV1 (fun e => by simp only [wc_app]; omega)
  have hl9 : lv_has ls 7 [(0, .ref b), (1, .ref (yH y 0)), (2, .ref h), (3, .ref ol), (4, .int (nI i))] := lv_sub hl [2, 3, 4, 5, 6] rfl
  have hfin : W pp l ee room_1 s m #[Value.ref b] below meth cc0 H locs (cells + 3 + 0 + 0) (slots + 18 + 0 + 0) Q (F0 m 1436 ls []) := by
    refine W.widen (k := cells + 20) (n := slots + 2000) (by omega) (by omega) ?_
    exact kk (opSwap S (xs (i + 1)) (xs (i + 2))).2.2 u1.1 u1.2 (opSwap S (xs (i + 1)) (xs (i + 2))).1 u2.1 u2.2 H locs (kI_Swap hI (xs (i + 1)) (xs (i + 2))) hp1 hp2 hV2 hS ls hl9
  refine lv_iload hx hb dL_law_1081 (lv_at hl 1 rfl) ?_
  refine lv_icmp_eq (tgt := 1088) hx hb dL_law_1083 (by decide) (fun _ => ?_) (fun z => absurd rfl z)
  refine lv_iload hx hb dL_law_1088 (lv_at hl 1 rfl) ?_
  refine kn_if_ne (tgt := 1105) hx hb (o1_Swap _ _ _) dL_law_1090 (by decide) (fun _ => lv_goto (tgt := 1436) hx hb dL_law_1105 (by decide) hfin) (fun hz => ?_)
  refine lv_aload_n hx hb dL_law_1093 rfl (lv_at hl 5 rfl) ?_
  refine lv_iconst (v := nI 0) hx hb dL_law_1094 (by decide) ?_
  refine va_lald hx hb hK hV3.1 0 3 rfl rfl (show vp_in (nI 0) 1 from vp_in_nI (by decide) (by decide)) dL_law_1095 ?_
  rw [show u1.2 (nI 0).toNatClampNeg = (opSwap S (xs (i + 1)) (xs (i + 2))).2.1.toInt64 from hp3 hz]
  refine lv_iload hx hb dL_law_1096 (lv_at hl 0 rfl) ?_
  refine lv_i2l (v := (opSwap S (xs (i + 1)) (xs (i + 2))).2.1.toInt64) hx hb dL_law_1098 rfl ?_
  refine W.lcmp hx hb dL_law_1099 ?_
  rw [lgc_self]
  refine lv_if_eq (tgt := 1105) hx hb dL_law_1100 (by decide) (fun _ => lv_goto (tgt := 1436) hx hb dL_law_1105 (by decide) hfin) (fun z => absurd rfl z)
set_option maxHeartbeats 4000000 in
set_option maxRecDepth 100000 in
theorem lw_c_left (hlt : l.stackTraces = false) (hL : L ≤ 3072) (hx : pp.tables.exec = Jvm.exec) (hb : cc0.code = cL_law) (hml : cc0.maxLocals = 7) (hown : s.vm.findClass RL = some m.cls) (hts : ∀ w ∈ wsL_law, w.before #[Value.ref b] s = true) (hX : va_X b L xs s s.heap) (hbl : b < s.heap.size) (hbA : ¬ kA G b) (hE : kE G s s.heap)
    (i : Nat) (hi : i + 6 ≤ L) (S : kS) (y : kY) (ol : Nat) (g : Nat → Int64) (h : Nat) (ad : Nat → Nat) (rf rl rw : Nat) (hI : kInv S) (hY : yI G S y) (cells slots : Nat) (hcs : cells + 20 ≤ 601024) (hsl : slots + 2000 ≤ 7293034) (H : Heap) (locs : List Loc) (hV : kV G (lwV G S y ol g h ad rf rl rw) H) (hS : va_S (kA G) s.heap H locs) (ls : Array Slot) (hl : lv_has ls 7 [(0, .ref b), (1, .ref (yH y 0)), (2, .ref h), (3, .ref ol), (4, .int (nI i))])
    (kk : ∀ (S2 : kS) (y2 : kY) (g2 : Nat → Int64) (rf2 rl2 rw2 : Nat) (H : Heap) (locs : List Loc), kInv S2 → yI G S2 y2 → yH y2 0 = yH y 0 → kV G (lwV G S2 y2 ol g2 h ad rf2 rl2 rw2) H → va_S (kA G) s.heap H locs → ∀ (ls : Array Slot), lv_has ls 7 [(0, .ref b), (1, .ref (yH y 0)), (2, .ref h), (3, .ref ol), (4, .int (nI i))] → W pp l ee room_1 s m #[Value.ref b] below meth cc0 H locs (cells + 20) (slots + 2000) Q (F0 m 1436 ls [])) :
    W pp l ee room_1 s m #[Value.ref b] below meth cc0 H locs cells slots Q (F0 m 1108 ls []) := by
  have hK := hE.1
  have hF : CallFix pp m cc0 cL_law 7 s #[Value.ref b] wsL_law RL := ⟨hx, hb, hml, hown, hts⟩
  refine lv_aload_n hx hb dL_law_1108 rfl (lv_at hl 1 rfl) ?_
  refine lv_aload_n hx hb dL_law_1109 rfl (lv_at hl 0 rfl) ?_
  refine lv_iload hx hb dL_law_1110 (lv_at hl 4 rfl) ?_
  refine lv_iconst (v := nI 1) hx hb dL_law_1112 (by decide) ?_
  refine kn_add hx hb dL_law_1113 ?_
  refine kn_sld hx hb hX hbl hbA hS (j := i + 1) (by omega) (by omega) dL_law_1114 ?_
  refine lv_aload_n hx hb dL_law_1115 rfl (lv_at hl 3 rfl) ?_
  refine kc_i (vx_runSW (As := [.ref (yH y 0), .int (xs (i + 1)), .ref ol]) (rest := []) hF (c_L_left l G S y ol g (kM G h ad rf rl rw S) (xs (i + 1)) hlt hI hY) (vx_cwSW 3 hts gL_law_L_left rfl rfl rfl (by decide +kernel) ⟨Nat.le_of_ble_eq_true rfl, Nat.le_of_ble_eq_true rfl⟩) (kPreS hE hS hV) rfl rfl hl.1 rfl (lv_room (Nat.le_of_ble_eq_true rfl)) dL_law_1116 ⟨(show cells + 1 ≤ 601024 by omega), (show slots + 6 ≤ 7293034 by omega)⟩) hS (fun r1 u1 H locs hp hV hS => ?_)
  obtain ⟨hp0, hp1, hp2, hp3⟩ := hp
  subst hp0
  refine lv_istore (lv' := [(5, .int (nI (opLeft S (xs (i + 1))).1)), (0, .ref b), (1, .ref (yH y 0)), (2, .ref h), (3, .ref ol), (4, .int (nI i))]) hx hb dL_law_1119 hl (by decide) rfl (fun ls hl => ?_)
  have hV : kV G (kM G h ad rf rl rw S ++ (siteW G (opLeft S (xs (i + 1))).2.2 u1.1 ++ [(ol, .inl (kcL G, 1, .inr (.inl u1.2)))])) _ := kV_wc hV (fun e => by simp only [wc_app]; omega)
  refine lv_aload_n hx hb dL_law_1121 rfl (lv_at hl 3 rfl) ?_
  refine lv_aload_n hx hb dL_law_1122 rfl (lv_at hl 1 rfl) ?_
  refine lv_iload hx hb dL_law_1123 (lv_at hl 5 rfl) ?_
  refine lv_iconst (v := nI 1) hx hb dL_law_1125 (by decide) ?_
  refine kn_add hx hb dL_law_1126 ?_
  refine kn_sld hx hb hX hbl hbA hS (j := i + 1) (by omega) (by omega) dL_law_1127 ?_
  refine kc_i (va_runV (As := [.int (xs (i + 1))]) (rest := []) hF (c_X6_left l G h ad rf rl rw S (siteW G (opLeft S (xs (i + 1))).2.2 u1.1 ++ [(ol, .inl (kcL G, 1, .inr (.inl u1.2)))]) (xs (i + 1)) hI) (cwV 1 hts gL_law_X6_left rfl rfl rfl (by decide +kernel) ⟨Nat.le_of_ble_eq_true rfl, Nat.le_of_ble_eq_true rfl⟩) (kPreV hE hS hV 0 rfl rfl) rfl rfl hl.1 rfl (lv_room (Nat.le_of_ble_eq_true rfl)) dL_law_1128 ⟨(show cells + 1 + 0 ≤ 601024 by omega), (show slots + 6 + 0 ≤ 7293034 by omega)⟩) hS (fun r2 u2 H locs hq hV hS => ?_)
  subst hq
  refine lv_istore (lv' := [(6, .int (opLeft S (xs (i + 1))).2.1), (5, .int (nI (opLeft S (xs (i + 1))).1)), (0, .ref b), (1, .ref (yH y 0)), (2, .ref h), (3, .ref ol), (4, .int (nI i))]) hx hb dL_law_1131 hl (by decide) rfl (fun ls hl => ?_)
  have hV : kV G (kM G h ad (opLeft S (xs (i + 1))).1 u2.1 u2.2 (opLeft S (xs (i + 1))).2.2 ++ (siteW G (opLeft S (xs (i + 1))).2.2 u1.1 ++ [(ol, .inl (kcL G, 1, .inr (.inl u1.2)))])) _ := hV
  refine lv_aload_n hx hb dL_law_1133 rfl (lv_at hl 4 rfl) ?_
  refine kc_i (va_runV (As := []) (rest := []) hF (c_X6_thrown l G h ad (opLeft S (xs (i + 1))).1 u2.1 u2.2 (opLeft S (xs (i + 1))).2.2 (siteW G (opLeft S (xs (i + 1))).2.2 u1.1 ++ [(ol, .inl (kcL G, 1, .inr (.inl u1.2)))])) (cwV 0 hts gL_law_X6_thrown rfl rfl rfl (by decide +kernel) ⟨Nat.le_of_ble_eq_true rfl, Nat.le_of_ble_eq_true rfl⟩) (kPreV hE hS hV 0 rfl rfl) rfl rfl hl.1 rfl (lv_room (Nat.le_of_ble_eq_true rfl)) dL_law_1134 ⟨(show cells + 1 + 0 + 0 ≤ 601024 by omega), (show slots + 6 + 0 + 0 ≤ 7293034 by omega)⟩) hS (fun r3 u3 H locs hq3 hV hS => ?_)
  subst hq3
  have hV1 : kV G (kM G h ad (opLeft S (xs (i + 1))).1 u2.1 u2.2 (opLeft S (xs (i + 1))).2.2 ++ (siteW G (opLeft S (xs (i + 1))).2.2 u1.1 ++ [(ol, .inl (kcL G, 1, .inr (.inl u1.2)))])) _ := hV
  have hV2 : kV G (lwV G (opLeft S (xs (i + 1))).2.2 u1.1 ol u1.2 h ad (opLeft S (xs (i + 1))).1 u2.1 u2.2) _ := kV_wc hV1 (fun e => by simp only [wc_app]; omega)
  have hV3 : kV G ([(ol, .inl (kcL G, 1, .inr (.inl u1.2)))] ++ (siteW G (opLeft S (xs (i + 1))).2.2 u1.1 ++ kM G h ad (opLeft S (xs (i + 1))).1 u2.1 u2.2 (opLeft S (xs (i + 1))).2.2)) _ := kV_wc hV1 (fun e => by simp only [wc_app]; omega)
  have hl9 : lv_has ls 7 [(0, .ref b), (1, .ref (yH y 0)), (2, .ref h), (3, .ref ol), (4, .int (nI i))] := lv_sub hl [2, 3, 4, 5, 6] rfl
  have hfin : W pp l ee room_1 s m #[Value.ref b] below meth cc0 H locs (cells + 1 + 0 + 0) (slots + 6 + 0 + 0) Q (F0 m 1436 ls []) := by
    refine W.widen (k := cells + 20) (n := slots + 2000) (by omega) (by omega) ?_
    exact kk (opLeft S (xs (i + 1))).2.2 u1.1 u1.2 (opLeft S (xs (i + 1))).1 u2.1 u2.2 H locs (kI_Left hI (xs (i + 1))) hp1 hp2 hV2 hS ls hl9
  refine lv_iload hx hb dL_law_1137 (lv_at hl 1 rfl) ?_
  refine lv_icmp_eq (tgt := 1144) hx hb dL_law_1139 (by decide) (fun _ => ?_) (fun z => absurd rfl z)
  refine lv_iload hx hb dL_law_1144 (lv_at hl 1 rfl) ?_
  refine kn_if_ne (tgt := 1161) hx hb (o1_Left _ _) dL_law_1146 (by decide) (fun _ => lv_goto (tgt := 1436) hx hb dL_law_1161 (by decide) hfin) (fun hz => ?_)
  refine lv_aload_n hx hb dL_law_1149 rfl (lv_at hl 5 rfl) ?_
  refine lv_iconst (v := nI 0) hx hb dL_law_1150 (by decide) ?_
  refine va_lald hx hb hK hV3.1 0 3 rfl rfl (show vp_in (nI 0) 1 from vp_in_nI (by decide) (by decide)) dL_law_1151 ?_
  rw [show u1.2 (nI 0).toNatClampNeg = (opLeft S (xs (i + 1))).2.1.toInt64 from hp3 hz]
  refine lv_iload hx hb dL_law_1152 (lv_at hl 0 rfl) ?_
  refine lv_i2l (v := (opLeft S (xs (i + 1))).2.1.toInt64) hx hb dL_law_1154 rfl ?_
  refine W.lcmp hx hb dL_law_1155 ?_
  rw [lgc_self]
  refine lv_if_eq (tgt := 1161) hx hb dL_law_1156 (by decide) (fun _ => lv_goto (tgt := 1436) hx hb dL_law_1161 (by decide) hfin) (fun z => absurd rfl z)
set_option maxHeartbeats 4000000 in
set_option maxRecDepth 100000 in
theorem lw_c_project (hlt : l.stackTraces = false) (hL : L ≤ 3072) (hx : pp.tables.exec = Jvm.exec) (hb : cc0.code = cL_law) (hml : cc0.maxLocals = 7) (hown : s.vm.findClass RL = some m.cls) (hts : ∀ w ∈ wsL_law, w.before #[Value.ref b] s = true) (hX : va_X b L xs s s.heap) (hbl : b < s.heap.size) (hbA : ¬ kA G b) (hE : kE G s s.heap)
    (i : Nat) (hi : i + 6 ≤ L) (S : kS) (y : kY) (ol : Nat) (g : Nat → Int64) (h : Nat) (ad : Nat → Nat) (rf rl rw : Nat) (hI : kInv S) (hY : yI G S y) (cells slots : Nat) (hcs : cells + 20 ≤ 601024) (hsl : slots + 2000 ≤ 7293034) (H : Heap) (locs : List Loc) (hV : kV G (lwV G S y ol g h ad rf rl rw) H) (hS : va_S (kA G) s.heap H locs) (ls : Array Slot) (hl : lv_has ls 7 [(0, .ref b), (1, .ref (yH y 0)), (2, .ref h), (3, .ref ol), (4, .int (nI i))])
    (kk : ∀ (S2 : kS) (y2 : kY) (g2 : Nat → Int64) (rf2 rl2 rw2 : Nat) (H : Heap) (locs : List Loc), kInv S2 → yI G S2 y2 → yH y2 0 = yH y 0 → kV G (lwV G S2 y2 ol g2 h ad rf2 rl2 rw2) H → va_S (kA G) s.heap H locs → ∀ (ls : Array Slot), lv_has ls 7 [(0, .ref b), (1, .ref (yH y 0)), (2, .ref h), (3, .ref ol), (4, .int (nI i))] → W pp l ee room_1 s m #[Value.ref b] below meth cc0 H locs (cells + 20) (slots + 2000) Q (F0 m 1436 ls [])) :
    W pp l ee room_1 s m #[Value.ref b] below meth cc0 H locs cells slots Q (F0 m 1164 ls []) := by
  have hK := hE.1
  have hF : CallFix pp m cc0 cL_law 7 s #[Value.ref b] wsL_law RL := ⟨hx, hb, hml, hown, hts⟩
  refine lv_aload_n hx hb dL_law_1164 rfl (lv_at hl 1 rfl) ?_
  refine lv_aload_n hx hb dL_law_1165 rfl (lv_at hl 0 rfl) ?_
  refine lv_iload hx hb dL_law_1166 (lv_at hl 4 rfl) ?_
  refine lv_iconst (v := nI 1) hx hb dL_law_1168 (by decide) ?_
  refine kn_add hx hb dL_law_1169 ?_
  refine kn_sld hx hb hX hbl hbA hS (j := i + 1) (by omega) (by omega) dL_law_1170 ?_
  refine lv_aload_n hx hb dL_law_1171 rfl (lv_at hl 0 rfl) ?_
  refine lv_iload hx hb dL_law_1172 (lv_at hl 4 rfl) ?_
  refine lv_iconst (v := nI 2) hx hb dL_law_1174 (by decide) ?_
  refine kn_add hx hb dL_law_1175 ?_
  refine kn_sld hx hb hX hbl hbA hS (j := i + 2) (by omega) (by omega) dL_law_1176 ?_
  refine lv_aload_n hx hb dL_law_1177 rfl (lv_at hl 0 rfl) ?_
  refine lv_iload hx hb dL_law_1178 (lv_at hl 4 rfl) ?_
  refine lv_iconst (v := nI 3) hx hb dL_law_1180 (by decide) ?_
  refine kn_add hx hb dL_law_1181 ?_
  refine kn_sld hx hb hX hbl hbA hS (j := i + 3) (by omega) (by omega) dL_law_1182 ?_
  refine lv_aload_n hx hb dL_law_1183 rfl (lv_at hl 3 rfl) ?_
  refine kc_i (vx_runSW (As := [.ref (yH y 0), .int (xs (i + 1)), .int (xs (i + 2)), .int (xs (i + 3)), .ref ol]) (rest := []) hF (c_L_project l G S y ol g (kM G h ad rf rl rw S) (xs (i + 1)) (xs (i + 2)) (xs (i + 3)) hlt hI hY) (vx_cwSW 5 hts gL_law_L_project rfl rfl rfl (by decide +kernel) ⟨Nat.le_of_ble_eq_true rfl, Nat.le_of_ble_eq_true rfl⟩) (kPreS hE hS hV) rfl rfl hl.1 rfl (lv_room (Nat.le_of_ble_eq_true rfl)) dL_law_1184 ⟨(show cells + 6 ≤ 601024 by omega), (show slots + 80 ≤ 7293034 by omega)⟩) hS (fun r1 u1 H locs hp hV hS => ?_)
  obtain ⟨hp0, hp1, hp2, hp3⟩ := hp
  subst hp0
  refine lv_istore (lv' := [(5, .int (nI (opProject S (xs (i + 1)) (xs (i + 2)) (xs (i + 3))).1)), (0, .ref b), (1, .ref (yH y 0)), (2, .ref h), (3, .ref ol), (4, .int (nI i))]) hx hb dL_law_1187 hl (by decide) rfl (fun ls hl => ?_)
  have hV : kV G (kM G h ad rf rl rw S ++ (siteW G (opProject S (xs (i + 1)) (xs (i + 2)) (xs (i + 3))).2.2 u1.1 ++ [(ol, .inl (kcL G, 1, .inr (.inl u1.2)))])) _ := kV_wc hV (fun e => by simp only [wc_app]; omega)
  refine lv_aload_n hx hb dL_law_1189 rfl (lv_at hl 3 rfl) ?_
  refine lv_aload_n hx hb dL_law_1190 rfl (lv_at hl 1 rfl) ?_
  refine lv_iload hx hb dL_law_1191 (lv_at hl 5 rfl) ?_
  refine lv_iconst (v := nI 1) hx hb dL_law_1193 (by decide) ?_
  refine kn_add hx hb dL_law_1194 ?_
  refine kn_sld hx hb hX hbl hbA hS (j := i + 1) (by omega) (by omega) dL_law_1195 ?_
  refine lv_aload_n hx hb dL_law_1196 rfl (lv_at hl 1 rfl) ?_
  refine lv_iload hx hb dL_law_1197 (lv_at hl 5 rfl) ?_
  refine lv_iconst (v := nI 2) hx hb dL_law_1199 (by decide) ?_
  refine kn_add hx hb dL_law_1200 ?_
  refine kn_sld hx hb hX hbl hbA hS (j := i + 2) (by omega) (by omega) dL_law_1201 ?_
  refine lv_aload_n hx hb dL_law_1202 rfl (lv_at hl 1 rfl) ?_
  refine lv_iload hx hb dL_law_1203 (lv_at hl 5 rfl) ?_
  refine lv_iconst (v := nI 3) hx hb dL_law_1205 (by decide) ?_
  refine kn_add hx hb dL_law_1206 ?_
  refine kn_sld hx hb hX hbl hbA hS (j := i + 3) (by omega) (by omega) dL_law_1207 ?_
  refine kc_i (va_runV (As := [.int (xs (i + 1)), .int (xs (i + 2)), .int (xs (i + 3))]) (rest := []) hF (c_X6_project l G h ad rf rl rw S (siteW G (opProject S (xs (i + 1)) (xs (i + 2)) (xs (i + 3))).2.2 u1.1 ++ [(ol, .inl (kcL G, 1, .inr (.inl u1.2)))]) (xs (i + 1)) (xs (i + 2)) (xs (i + 3)) hI) (cwV 3 hts gL_law_X6_project rfl rfl rfl (by decide +kernel) ⟨Nat.le_of_ble_eq_true rfl, Nat.le_of_ble_eq_true rfl⟩) (kPreV hE hS hV 0 rfl rfl) rfl rfl hl.1 rfl (lv_room (Nat.le_of_ble_eq_true rfl)) dL_law_1208 ⟨(show cells + 6 + 0 ≤ 601024 by omega), (show slots + 80 + 0 ≤ 7293034 by omega)⟩) hS (fun r2 u2 H locs hq hV hS => ?_)
  subst hq
  refine lv_istore (lv' := [(6, .int (opProject S (xs (i + 1)) (xs (i + 2)) (xs (i + 3))).2.1), (5, .int (nI (opProject S (xs (i + 1)) (xs (i + 2)) (xs (i + 3))).1)), (0, .ref b), (1, .ref (yH y 0)), (2, .ref h), (3, .ref ol), (4, .int (nI i))]) hx hb dL_law_1211 hl (by decide) rfl (fun ls hl => ?_)
  have hV : kV G (kM G h ad (opProject S (xs (i + 1)) (xs (i + 2)) (xs (i + 3))).1 u2.1 u2.2 (opProject S (xs (i + 1)) (xs (i + 2)) (xs (i + 3))).2.2 ++ (siteW G (opProject S (xs (i + 1)) (xs (i + 2)) (xs (i + 3))).2.2 u1.1 ++ [(ol, .inl (kcL G, 1, .inr (.inl u1.2)))])) _ := hV
  refine lv_aload_n hx hb dL_law_1213 rfl (lv_at hl 4 rfl) ?_
  refine kc_i (va_runV (As := []) (rest := []) hF (c_X6_thrown l G h ad (opProject S (xs (i + 1)) (xs (i + 2)) (xs (i + 3))).1 u2.1 u2.2 (opProject S (xs (i + 1)) (xs (i + 2)) (xs (i + 3))).2.2 (siteW G (opProject S (xs (i + 1)) (xs (i + 2)) (xs (i + 3))).2.2 u1.1 ++ [(ol, .inl (kcL G, 1, .inr (.inl u1.2)))])) (cwV 0 hts gL_law_X6_thrown rfl rfl rfl (by decide +kernel) ⟨Nat.le_of_ble_eq_true rfl, Nat.le_of_ble_eq_true rfl⟩) (kPreV hE hS hV 0 rfl rfl) rfl rfl hl.1 rfl (lv_room (Nat.le_of_ble_eq_true rfl)) dL_law_1214 ⟨(show cells + 6 + 0 + 0 ≤ 601024 by omega), (show slots + 80 + 0 + 0 ≤ 7293034 by omega)⟩) hS (fun r3 u3 H locs hq3 hV hS => ?_)
  subst hq3
  have hV1 : kV G (kM G h ad (opProject S (xs (i + 1)) (xs (i + 2)) (xs (i + 3))).1 u2.1 u2.2 (opProject S (xs (i + 1)) (xs (i + 2)) (xs (i + 3))).2.2 ++ (siteW G (opProject S (xs (i + 1)) (xs (i + 2)) (xs (i + 3))).2.2 u1.1 ++ [(ol, .inl (kcL G, 1, .inr (.inl u1.2)))])) _ := hV
  have hV2 : kV G (lwV G (opProject S (xs (i + 1)) (xs (i + 2)) (xs (i + 3))).2.2 u1.1 ol u1.2 h ad (opProject S (xs (i + 1)) (xs (i + 2)) (xs (i + 3))).1 u2.1 u2.2) _ := kV_wc hV1 (fun e => by simp only [wc_app]; omega)
  have hV3 : kV G ([(ol, .inl (kcL G, 1, .inr (.inl u1.2)))] ++ (siteW G (opProject S (xs (i + 1)) (xs (i + 2)) (xs (i + 3))).2.2 u1.1 ++ kM G h ad (opProject S (xs (i + 1)) (xs (i + 2)) (xs (i + 3))).1 u2.1 u2.2 (opProject S (xs (i + 1)) (xs (i + 2)) (xs (i + 3))).2.2)) _ := kV_wc hV1 (fun e => by simp only [wc_app]; omega)
  have hl9 : lv_has ls 7 [(0, .ref b), (1, .ref (yH y 0)), (2, .ref h), (3, .ref ol), (4, .int (nI i))] := lv_sub hl [2, 3, 4, 5, 6] rfl
  have hfin : W pp l ee room_1 s m #[Value.ref b] below meth cc0 H locs (cells + 6 + 0 + 0) (slots + 80 + 0 + 0) Q (F0 m 1436 ls []) := by
    refine W.widen (k := cells + 20) (n := slots + 2000) (by omega) (by omega) ?_
    exact kk (opProject S (xs (i + 1)) (xs (i + 2)) (xs (i + 3))).2.2 u1.1 u1.2 (opProject S (xs (i + 1)) (xs (i + 2)) (xs (i + 3))).1 u2.1 u2.2 H locs (kI_Project hI (xs (i + 1)) (xs (i + 2)) (xs (i + 3))) hp1 hp2 hV2 hS ls hl9
  refine lv_iload hx hb dL_law_1217 (lv_at hl 1 rfl) ?_
  refine lv_icmp_eq (tgt := 1224) hx hb dL_law_1219 (by decide) (fun _ => ?_) (fun z => absurd rfl z)
  refine lv_iload hx hb dL_law_1224 (lv_at hl 1 rfl) ?_
  refine kn_if_ne (tgt := 1241) hx hb (o1_Project _ _ _ _) dL_law_1226 (by decide) (fun _ => lv_goto (tgt := 1436) hx hb dL_law_1241 (by decide) hfin) (fun hz => ?_)
  refine lv_aload_n hx hb dL_law_1229 rfl (lv_at hl 5 rfl) ?_
  refine lv_iconst (v := nI 0) hx hb dL_law_1230 (by decide) ?_
  refine va_lald hx hb hK hV3.1 0 3 rfl rfl (show vp_in (nI 0) 1 from vp_in_nI (by decide) (by decide)) dL_law_1231 ?_
  rw [show u1.2 (nI 0).toNatClampNeg = (opProject S (xs (i + 1)) (xs (i + 2)) (xs (i + 3))).2.1.toInt64 from hp3 hz]
  refine lv_iload hx hb dL_law_1232 (lv_at hl 0 rfl) ?_
  refine lv_i2l (v := (opProject S (xs (i + 1)) (xs (i + 2)) (xs (i + 3))).2.1.toInt64) hx hb dL_law_1234 rfl ?_
  refine W.lcmp hx hb dL_law_1235 ?_
  rw [lgc_self]
  refine lv_if_eq (tgt := 1241) hx hb dL_law_1236 (by decide) (fun _ => lv_goto (tgt := 1436) hx hb dL_law_1241 (by decide) hfin) (fun z => absurd rfl z)
set_option maxHeartbeats 4000000 in
set_option maxRecDepth 100000 in
theorem lw_c_take (hlt : l.stackTraces = false) (hL : L ≤ 3072) (hx : pp.tables.exec = Jvm.exec) (hb : cc0.code = cL_law) (hml : cc0.maxLocals = 7) (hown : s.vm.findClass RL = some m.cls) (hts : ∀ w ∈ wsL_law, w.before #[Value.ref b] s = true) (hX : va_X b L xs s s.heap) (hbl : b < s.heap.size) (hbA : ¬ kA G b) (hE : kE G s s.heap)
    (i : Nat) (hi : i + 6 ≤ L) (S : kS) (y : kY) (ol : Nat) (g : Nat → Int64) (h : Nat) (ad : Nat → Nat) (rf rl rw : Nat) (hI : kInv S) (hY : yI G S y) (cells slots : Nat) (hcs : cells + 20 ≤ 601024) (hsl : slots + 2000 ≤ 7293034) (H : Heap) (locs : List Loc) (hV : kV G (lwV G S y ol g h ad rf rl rw) H) (hS : va_S (kA G) s.heap H locs) (ls : Array Slot) (hl : lv_has ls 7 [(0, .ref b), (1, .ref (yH y 0)), (2, .ref h), (3, .ref ol), (4, .int (nI i))])
    (kk : ∀ (S2 : kS) (y2 : kY) (g2 : Nat → Int64) (rf2 rl2 rw2 : Nat) (H : Heap) (locs : List Loc), kInv S2 → yI G S2 y2 → yH y2 0 = yH y 0 → kV G (lwV G S2 y2 ol g2 h ad rf2 rl2 rw2) H → va_S (kA G) s.heap H locs → ∀ (ls : Array Slot), lv_has ls 7 [(0, .ref b), (1, .ref (yH y 0)), (2, .ref h), (3, .ref ol), (4, .int (nI i))] → W pp l ee room_1 s m #[Value.ref b] below meth cc0 H locs (cells + 20) (slots + 2000) Q (F0 m 1436 ls [])) :
    W pp l ee room_1 s m #[Value.ref b] below meth cc0 H locs cells slots Q (F0 m 1244 ls []) := by
  have hK := hE.1
  have hF : CallFix pp m cc0 cL_law 7 s #[Value.ref b] wsL_law RL := ⟨hx, hb, hml, hown, hts⟩
  refine lv_aload_n hx hb dL_law_1244 rfl (lv_at hl 1 rfl) ?_
  refine lv_aload_n hx hb dL_law_1245 rfl (lv_at hl 0 rfl) ?_
  refine lv_iload hx hb dL_law_1246 (lv_at hl 4 rfl) ?_
  refine lv_iconst (v := nI 1) hx hb dL_law_1248 (by decide) ?_
  refine kn_add hx hb dL_law_1249 ?_
  refine kn_sld hx hb hX hbl hbA hS (j := i + 1) (by omega) (by omega) dL_law_1250 ?_
  refine lv_aload_n hx hb dL_law_1251 rfl (lv_at hl 0 rfl) ?_
  refine lv_iload hx hb dL_law_1252 (lv_at hl 4 rfl) ?_
  refine lv_iconst (v := nI 2) hx hb dL_law_1254 (by decide) ?_
  refine kn_add hx hb dL_law_1255 ?_
  refine kn_sld hx hb hX hbl hbA hS (j := i + 2) (by omega) (by omega) dL_law_1256 ?_
  refine lv_aload_n hx hb dL_law_1257 rfl (lv_at hl 3 rfl) ?_
  refine kc_i (vx_runSW (As := [.ref (yH y 0), .int (xs (i + 1)), .int (xs (i + 2)), .ref ol]) (rest := []) hF (c_L_take l G S y ol g (kM G h ad rf rl rw S) (xs (i + 1)) (xs (i + 2)) hlt hI hY) (vx_cwSW 4 hts gL_law_L_take rfl rfl rfl (by decide +kernel) ⟨Nat.le_of_ble_eq_true rfl, Nat.le_of_ble_eq_true rfl⟩) (kPreS hE hS hV) rfl rfl hl.1 rfl (lv_room (Nat.le_of_ble_eq_true rfl)) dL_law_1258 ⟨(show cells + 3 ≤ 601024 by omega), (show slots + 18 ≤ 7293034 by omega)⟩) hS (fun r1 u1 H locs hp hV hS => ?_)
  obtain ⟨hp0, hp1, hp2, hp3⟩ := hp
  subst hp0
  refine lv_istore (lv' := [(5, .int (nI (opTake S (xs (i + 1)) (xs (i + 2))).1)), (0, .ref b), (1, .ref (yH y 0)), (2, .ref h), (3, .ref ol), (4, .int (nI i))]) hx hb dL_law_1261 hl (by decide) rfl (fun ls hl => ?_)
  have hV : kV G (kM G h ad rf rl rw S ++ (siteW G (opTake S (xs (i + 1)) (xs (i + 2))).2.2 u1.1 ++ [(ol, .inl (kcL G, 1, .inr (.inl u1.2)))])) _ := kV_wc hV (fun e => by simp only [wc_app]; omega)
  refine lv_aload_n hx hb dL_law_1263 rfl (lv_at hl 3 rfl) ?_
  refine lv_aload_n hx hb dL_law_1264 rfl (lv_at hl 1 rfl) ?_
  refine lv_iload hx hb dL_law_1265 (lv_at hl 5 rfl) ?_
  refine lv_iconst (v := nI 1) hx hb dL_law_1267 (by decide) ?_
  refine kn_add hx hb dL_law_1268 ?_
  refine kn_sld hx hb hX hbl hbA hS (j := i + 1) (by omega) (by omega) dL_law_1269 ?_
  refine lv_aload_n hx hb dL_law_1270 rfl (lv_at hl 1 rfl) ?_
  refine lv_iload hx hb dL_law_1271 (lv_at hl 5 rfl) ?_
  refine lv_iconst (v := nI 2) hx hb dL_law_1273 (by decide) ?_
  refine kn_add hx hb dL_law_1274 ?_
  refine kn_sld hx hb hX hbl hbA hS (j := i + 2) (by omega) (by omega) dL_law_1275 ?_
  refine kc_i (va_runV (As := [.int (xs (i + 1)), .int (xs (i + 2))]) (rest := []) hF (c_X6_take l G h ad rf rl rw S (siteW G (opTake S (xs (i + 1)) (xs (i + 2))).2.2 u1.1 ++ [(ol, .inl (kcL G, 1, .inr (.inl u1.2)))]) (xs (i + 1)) (xs (i + 2)) hI) (cwV 2 hts gL_law_X6_take rfl rfl rfl (by decide +kernel) ⟨Nat.le_of_ble_eq_true rfl, Nat.le_of_ble_eq_true rfl⟩) (kPreV hE hS hV 0 rfl rfl) rfl rfl hl.1 rfl (lv_room (Nat.le_of_ble_eq_true rfl)) dL_law_1276 ⟨(show cells + 3 + 0 ≤ 601024 by omega), (show slots + 18 + 0 ≤ 7293034 by omega)⟩) hS (fun r2 u2 H locs hq hV hS => ?_)
  subst hq
  refine lv_istore (lv' := [(6, .int (opTake S (xs (i + 1)) (xs (i + 2))).2.1), (5, .int (nI (opTake S (xs (i + 1)) (xs (i + 2))).1)), (0, .ref b), (1, .ref (yH y 0)), (2, .ref h), (3, .ref ol), (4, .int (nI i))]) hx hb dL_law_1279 hl (by decide) rfl (fun ls hl => ?_)
  have hV : kV G (kM G h ad (opTake S (xs (i + 1)) (xs (i + 2))).1 u2.1 u2.2 (opTake S (xs (i + 1)) (xs (i + 2))).2.2 ++ (siteW G (opTake S (xs (i + 1)) (xs (i + 2))).2.2 u1.1 ++ [(ol, .inl (kcL G, 1, .inr (.inl u1.2)))])) _ := hV
  refine lv_aload_n hx hb dL_law_1281 rfl (lv_at hl 4 rfl) ?_
  refine kc_i (va_runV (As := []) (rest := []) hF (c_X6_thrown l G h ad (opTake S (xs (i + 1)) (xs (i + 2))).1 u2.1 u2.2 (opTake S (xs (i + 1)) (xs (i + 2))).2.2 (siteW G (opTake S (xs (i + 1)) (xs (i + 2))).2.2 u1.1 ++ [(ol, .inl (kcL G, 1, .inr (.inl u1.2)))])) (cwV 0 hts gL_law_X6_thrown rfl rfl rfl (by decide +kernel) ⟨Nat.le_of_ble_eq_true rfl, Nat.le_of_ble_eq_true rfl⟩) (kPreV hE hS hV 0 rfl rfl) rfl rfl hl.1 rfl (lv_room (Nat.le_of_ble_eq_true rfl)) dL_law_1282 ⟨(show cells + 3 + 0 + 0 ≤ 601024 by omega), (show slots + 18 + 0 + 0 ≤ 7293034 by omega)⟩) hS (fun r3 u3 H locs hq3 hV hS => ?_)
  subst hq3
  have hV1 : kV G (kM G h ad (opTake S (xs (i + 1)) (xs (i + 2))).1 u2.1 u2.2 (opTake S (xs (i + 1)) (xs (i + 2))).2.2 ++ (siteW G (opTake S (xs (i + 1)) (xs (i + 2))).2.2 u1.1 ++ [(ol, .inl (kcL G, 1, .inr (.inl u1.2)))])) _ := hV
  have hV2 : kV G (lwV G (opTake S (xs (i + 1)) (xs (i + 2))).2.2 u1.1 ol u1.2 h ad (opTake S (xs (i + 1)) (xs (i + 2))).1 u2.1 u2.2) _ := kV_wc hV1 (fun e => by simp only [wc_app]; omega)
  have hV3 : kV G ([(ol, .inl (kcL G, 1, .inr (.inl u1.2)))] ++ (siteW G (opTake S (xs (i + 1)) (xs (i + 2))).2.2 u1.1 ++ kM G h ad (opTake S (xs (i + 1)) (xs (i + 2))).1 u2.1 u2.2 (opTake S (xs (i + 1)) (xs (i + 2))).2.2)) _ := kV_wc hV1 (fun e => by simp only [wc_app]; omega)
  have hl9 : lv_has ls 7 [(0, .ref b), (1, .ref (yH y 0)), (2, .ref h), (3, .ref ol), (4, .int (nI i))] := lv_sub hl [2, 3, 4, 5, 6] rfl
  have hfin : W pp l ee room_1 s m #[Value.ref b] below meth cc0 H locs (cells + 3 + 0 + 0) (slots + 18 + 0 + 0) Q (F0 m 1436 ls []) := by
    refine W.widen (k := cells + 20) (n := slots + 2000) (by omega) (by omega) ?_
    exact kk (opTake S (xs (i + 1)) (xs (i + 2))).2.2 u1.1 u1.2 (opTake S (xs (i + 1)) (xs (i + 2))).1 u2.1 u2.2 H locs (kI_Take hI (xs (i + 1)) (xs (i + 2))) hp1 hp2 hV2 hS ls hl9
  refine lv_iload hx hb dL_law_1285 (lv_at hl 1 rfl) ?_
  refine lv_icmp_eq (tgt := 1292) hx hb dL_law_1287 (by decide) (fun _ => ?_) (fun z => absurd rfl z)
  refine lv_iload hx hb dL_law_1292 (lv_at hl 1 rfl) ?_
  refine kn_if_ne (tgt := 1309) hx hb (o1_Take _ _ _) dL_law_1294 (by decide) (fun _ => lv_goto (tgt := 1436) hx hb dL_law_1309 (by decide) hfin) (fun hz => ?_)
  refine lv_aload_n hx hb dL_law_1297 rfl (lv_at hl 5 rfl) ?_
  refine lv_iconst (v := nI 0) hx hb dL_law_1298 (by decide) ?_
  refine va_lald hx hb hK hV3.1 0 3 rfl rfl (show vp_in (nI 0) 1 from vp_in_nI (by decide) (by decide)) dL_law_1299 ?_
  rw [show u1.2 (nI 0).toNatClampNeg = (opTake S (xs (i + 1)) (xs (i + 2))).2.1.toInt64 from hp3 hz]
  refine lv_iload hx hb dL_law_1300 (lv_at hl 0 rfl) ?_
  refine lv_i2l (v := (opTake S (xs (i + 1)) (xs (i + 2))).2.1.toInt64) hx hb dL_law_1302 rfl ?_
  refine W.lcmp hx hb dL_law_1303 ?_
  rw [lgc_self]
  refine lv_if_eq (tgt := 1309) hx hb dL_law_1304 (by decide) (fun _ => lv_goto (tgt := 1436) hx hb dL_law_1309 (by decide) hfin) (fun z => absurd rfl z)
set_option maxHeartbeats 4000000 in
set_option maxRecDepth 100000 in
theorem lw_c_knit (hlt : l.stackTraces = false) (hL : L ≤ 3072) (hx : pp.tables.exec = Jvm.exec) (hb : cc0.code = cL_law) (hml : cc0.maxLocals = 7) (hown : s.vm.findClass RL = some m.cls) (hts : ∀ w ∈ wsL_law, w.before #[Value.ref b] s = true) (hX : va_X b L xs s s.heap) (hbl : b < s.heap.size) (hbA : ¬ kA G b) (hE : kE G s s.heap)
    (i : Nat) (hi : i + 6 ≤ L) (S : kS) (y : kY) (ol : Nat) (g : Nat → Int64) (h : Nat) (ad : Nat → Nat) (rf rl rw : Nat) (hI : kInv S) (hY : yI G S y) (cells slots : Nat) (hcs : cells + 20 ≤ 601024) (hsl : slots + 2000 ≤ 7293034) (H : Heap) (locs : List Loc) (hV : kV G (lwV G S y ol g h ad rf rl rw) H) (hS : va_S (kA G) s.heap H locs) (ls : Array Slot) (hl : lv_has ls 7 [(0, .ref b), (1, .ref (yH y 0)), (2, .ref h), (3, .ref ol), (4, .int (nI i))])
    (kk : ∀ (S2 : kS) (y2 : kY) (g2 : Nat → Int64) (rf2 rl2 rw2 : Nat) (H : Heap) (locs : List Loc), kInv S2 → yI G S2 y2 → yH y2 0 = yH y 0 → kV G (lwV G S2 y2 ol g2 h ad rf2 rl2 rw2) H → va_S (kA G) s.heap H locs → ∀ (ls : Array Slot), lv_has ls 7 [(0, .ref b), (1, .ref (yH y 0)), (2, .ref h), (3, .ref ol), (4, .int (nI i))] → W pp l ee room_1 s m #[Value.ref b] below meth cc0 H locs (cells + 20) (slots + 2000) Q (F0 m 1436 ls [])) :
    W pp l ee room_1 s m #[Value.ref b] below meth cc0 H locs cells slots Q (F0 m 1312 ls []) := by
  have hK := hE.1
  have hF : CallFix pp m cc0 cL_law 7 s #[Value.ref b] wsL_law RL := ⟨hx, hb, hml, hown, hts⟩
  refine lv_aload_n hx hb dL_law_1312 rfl (lv_at hl 1 rfl) ?_
  refine lv_aload_n hx hb dL_law_1313 rfl (lv_at hl 0 rfl) ?_
  refine lv_iload hx hb dL_law_1314 (lv_at hl 4 rfl) ?_
  refine lv_iconst (v := nI 1) hx hb dL_law_1316 (by decide) ?_
  refine kn_add hx hb dL_law_1317 ?_
  refine kn_sld hx hb hX hbl hbA hS (j := i + 1) (by omega) (by omega) dL_law_1318 ?_
  refine lv_aload_n hx hb dL_law_1319 rfl (lv_at hl 0 rfl) ?_
  refine lv_iload hx hb dL_law_1320 (lv_at hl 4 rfl) ?_
  refine lv_iconst (v := nI 2) hx hb dL_law_1322 (by decide) ?_
  refine kn_add hx hb dL_law_1323 ?_
  refine kn_sld hx hb hX hbl hbA hS (j := i + 2) (by omega) (by omega) dL_law_1324 ?_
  refine lv_aload_n hx hb dL_law_1325 rfl (lv_at hl 3 rfl) ?_
  refine kc_i (vx_runSW (As := [.ref (yH y 0), .int (xs (i + 1)), .int (xs (i + 2)), .ref ol]) (rest := []) hF (c_L_knit l G S y ol g (kM G h ad rf rl rw S) (xs (i + 1)) (xs (i + 2)) hlt hI hY) (vx_cwSW 4 hts gL_law_L_knit rfl rfl rfl (by decide +kernel) ⟨Nat.le_of_ble_eq_true rfl, Nat.le_of_ble_eq_true rfl⟩) (kPreS hE hS hV) rfl rfl hl.1 rfl (lv_room (Nat.le_of_ble_eq_true rfl)) dL_law_1326 ⟨(show cells + 2 ≤ 601024 by omega), (show slots + 12 ≤ 7293034 by omega)⟩) hS (fun r1 u1 H locs hp hV hS => ?_)
  obtain ⟨hp0, hp1, hp2, hp3⟩ := hp
  subst hp0
  refine lv_istore (lv' := [(5, .int (nI (opKnit S (xs (i + 1)) (xs (i + 2))).1)), (0, .ref b), (1, .ref (yH y 0)), (2, .ref h), (3, .ref ol), (4, .int (nI i))]) hx hb dL_law_1329 hl (by decide) rfl (fun ls hl => ?_)
  have hV : kV G (kM G h ad rf rl rw S ++ (siteW G (opKnit S (xs (i + 1)) (xs (i + 2))).2.2 u1.1 ++ [(ol, .inl (kcL G, 1, .inr (.inl u1.2)))])) _ := kV_wc hV (fun e => by simp only [wc_app]; omega)
  refine lv_aload_n hx hb dL_law_1331 rfl (lv_at hl 3 rfl) ?_
  refine lv_aload_n hx hb dL_law_1332 rfl (lv_at hl 1 rfl) ?_
  refine lv_iload hx hb dL_law_1333 (lv_at hl 5 rfl) ?_
  refine lv_iconst (v := nI 1) hx hb dL_law_1335 (by decide) ?_
  refine kn_add hx hb dL_law_1336 ?_
  refine kn_sld hx hb hX hbl hbA hS (j := i + 1) (by omega) (by omega) dL_law_1337 ?_
  refine lv_aload_n hx hb dL_law_1338 rfl (lv_at hl 1 rfl) ?_
  refine lv_iload hx hb dL_law_1339 (lv_at hl 5 rfl) ?_
  refine lv_iconst (v := nI 2) hx hb dL_law_1341 (by decide) ?_
  refine kn_add hx hb dL_law_1342 ?_
  refine kn_sld hx hb hX hbl hbA hS (j := i + 2) (by omega) (by omega) dL_law_1343 ?_
  refine kc_i (va_runV (As := [.int (xs (i + 1)), .int (xs (i + 2))]) (rest := []) hF (c_X6_knit l G h ad rf rl rw S (siteW G (opKnit S (xs (i + 1)) (xs (i + 2))).2.2 u1.1 ++ [(ol, .inl (kcL G, 1, .inr (.inl u1.2)))]) (xs (i + 1)) (xs (i + 2)) hI) (cwV 2 hts gL_law_X6_knit rfl rfl rfl (by decide +kernel) ⟨Nat.le_of_ble_eq_true rfl, Nat.le_of_ble_eq_true rfl⟩) (kPreV hE hS hV 0 rfl rfl) rfl rfl hl.1 rfl (lv_room (Nat.le_of_ble_eq_true rfl)) dL_law_1344 ⟨(show cells + 2 + 0 ≤ 601024 by omega), (show slots + 12 + 0 ≤ 7293034 by omega)⟩) hS (fun r2 u2 H locs hq hV hS => ?_)
  subst hq
  refine lv_istore (lv' := [(6, .int (opKnit S (xs (i + 1)) (xs (i + 2))).2.1), (5, .int (nI (opKnit S (xs (i + 1)) (xs (i + 2))).1)), (0, .ref b), (1, .ref (yH y 0)), (2, .ref h), (3, .ref ol), (4, .int (nI i))]) hx hb dL_law_1347 hl (by decide) rfl (fun ls hl => ?_)
  have hV : kV G (kM G h ad (opKnit S (xs (i + 1)) (xs (i + 2))).1 u2.1 u2.2 (opKnit S (xs (i + 1)) (xs (i + 2))).2.2 ++ (siteW G (opKnit S (xs (i + 1)) (xs (i + 2))).2.2 u1.1 ++ [(ol, .inl (kcL G, 1, .inr (.inl u1.2)))])) _ := hV
  refine lv_aload_n hx hb dL_law_1349 rfl (lv_at hl 4 rfl) ?_
  refine kc_i (va_runV (As := []) (rest := []) hF (c_X6_thrown l G h ad (opKnit S (xs (i + 1)) (xs (i + 2))).1 u2.1 u2.2 (opKnit S (xs (i + 1)) (xs (i + 2))).2.2 (siteW G (opKnit S (xs (i + 1)) (xs (i + 2))).2.2 u1.1 ++ [(ol, .inl (kcL G, 1, .inr (.inl u1.2)))])) (cwV 0 hts gL_law_X6_thrown rfl rfl rfl (by decide +kernel) ⟨Nat.le_of_ble_eq_true rfl, Nat.le_of_ble_eq_true rfl⟩) (kPreV hE hS hV 0 rfl rfl) rfl rfl hl.1 rfl (lv_room (Nat.le_of_ble_eq_true rfl)) dL_law_1350 ⟨(show cells + 2 + 0 + 0 ≤ 601024 by omega), (show slots + 12 + 0 + 0 ≤ 7293034 by omega)⟩) hS (fun r3 u3 H locs hq3 hV hS => ?_)
  subst hq3
  have hV1 : kV G (kM G h ad (opKnit S (xs (i + 1)) (xs (i + 2))).1 u2.1 u2.2 (opKnit S (xs (i + 1)) (xs (i + 2))).2.2 ++ (siteW G (opKnit S (xs (i + 1)) (xs (i + 2))).2.2 u1.1 ++ [(ol, .inl (kcL G, 1, .inr (.inl u1.2)))])) _ := hV
  have hV2 : kV G (lwV G (opKnit S (xs (i + 1)) (xs (i + 2))).2.2 u1.1 ol u1.2 h ad (opKnit S (xs (i + 1)) (xs (i + 2))).1 u2.1 u2.2) _ := kV_wc hV1 (fun e => by simp only [wc_app]; omega)
  have hV3 : kV G ([(ol, .inl (kcL G, 1, .inr (.inl u1.2)))] ++ (siteW G (opKnit S (xs (i + 1)) (xs (i + 2))).2.2 u1.1 ++ kM G h ad (opKnit S (xs (i + 1)) (xs (i + 2))).1 u2.1 u2.2 (opKnit S (xs (i + 1)) (xs (i + 2))).2.2)) _ := kV_wc hV1 (fun e => by simp only [wc_app]; omega)
  have hl9 : lv_has ls 7 [(0, .ref b), (1, .ref (yH y 0)), (2, .ref h), (3, .ref ol), (4, .int (nI i))] := lv_sub hl [2, 3, 4, 5, 6] rfl
  have hfin : W pp l ee room_1 s m #[Value.ref b] below meth cc0 H locs (cells + 2 + 0 + 0) (slots + 12 + 0 + 0) Q (F0 m 1436 ls []) := by
    refine W.widen (k := cells + 20) (n := slots + 2000) (by omega) (by omega) ?_
    exact kk (opKnit S (xs (i + 1)) (xs (i + 2))).2.2 u1.1 u1.2 (opKnit S (xs (i + 1)) (xs (i + 2))).1 u2.1 u2.2 H locs (kI_Knit hI (xs (i + 1)) (xs (i + 2))) hp1 hp2 hV2 hS ls hl9
  refine lv_iload hx hb dL_law_1353 (lv_at hl 1 rfl) ?_
  refine lv_icmp_eq (tgt := 1360) hx hb dL_law_1355 (by decide) (fun _ => ?_) (fun z => absurd rfl z)
  refine lv_iload hx hb dL_law_1360 (lv_at hl 1 rfl) ?_
  refine kn_if_ne (tgt := 1377) hx hb (o1_Knit _ _ _) dL_law_1362 (by decide) (fun _ => lv_goto (tgt := 1436) hx hb dL_law_1377 (by decide) hfin) (fun hz => ?_)
  refine lv_aload_n hx hb dL_law_1365 rfl (lv_at hl 5 rfl) ?_
  refine lv_iconst (v := nI 0) hx hb dL_law_1366 (by decide) ?_
  refine va_lald hx hb hK hV3.1 0 3 rfl rfl (show vp_in (nI 0) 1 from vp_in_nI (by decide) (by decide)) dL_law_1367 ?_
  rw [show u1.2 (nI 0).toNatClampNeg = (opKnit S (xs (i + 1)) (xs (i + 2))).2.1.toInt64 from hp3 hz]
  refine lv_iload hx hb dL_law_1368 (lv_at hl 0 rfl) ?_
  refine lv_i2l (v := (opKnit S (xs (i + 1)) (xs (i + 2))).2.1.toInt64) hx hb dL_law_1370 rfl ?_
  refine W.lcmp hx hb dL_law_1371 ?_
  rw [lgc_self]
  refine lv_if_eq (tgt := 1377) hx hb dL_law_1372 (by decide) (fun _ => lv_goto (tgt := 1436) hx hb dL_law_1377 (by decide) hfin) (fun z => absurd rfl z)
set_option maxHeartbeats 4000000 in
set_option maxRecDepth 100000 in
theorem lw_c_progress (hlt : l.stackTraces = false) (hL : L ≤ 3072) (hx : pp.tables.exec = Jvm.exec) (hb : cc0.code = cL_law) (hml : cc0.maxLocals = 7) (hown : s.vm.findClass RL = some m.cls) (hts : ∀ w ∈ wsL_law, w.before #[Value.ref b] s = true) (hX : va_X b L xs s s.heap) (hbl : b < s.heap.size) (hbA : ¬ kA G b) (hE : kE G s s.heap)
    (i : Nat) (hi : i + 6 ≤ L) (S : kS) (y : kY) (ol : Nat) (g : Nat → Int64) (h : Nat) (ad : Nat → Nat) (rf rl rw : Nat) (hI : kInv S) (hY : yI G S y) (cells slots : Nat) (hcs : cells + 20 ≤ 601024) (hsl : slots + 2000 ≤ 7293034) (H : Heap) (locs : List Loc) (hV : kV G (lwV G S y ol g h ad rf rl rw) H) (hS : va_S (kA G) s.heap H locs) (ls : Array Slot) (hl : lv_has ls 7 [(0, .ref b), (1, .ref (yH y 0)), (2, .ref h), (3, .ref ol), (4, .int (nI i))])
    (kk : ∀ (S2 : kS) (y2 : kY) (g2 : Nat → Int64) (rf2 rl2 rw2 : Nat) (H : Heap) (locs : List Loc), kInv S2 → yI G S2 y2 → yH y2 0 = yH y 0 → kV G (lwV G S2 y2 ol g2 h ad rf2 rl2 rw2) H → va_S (kA G) s.heap H locs → ∀ (ls : Array Slot), lv_has ls 7 [(0, .ref b), (1, .ref (yH y 0)), (2, .ref h), (3, .ref ol), (4, .int (nI i))] → W pp l ee room_1 s m #[Value.ref b] below meth cc0 H locs (cells + 20) (slots + 2000) Q (F0 m 1436 ls [])) :
    W pp l ee room_1 s m #[Value.ref b] below meth cc0 H locs cells slots Q (F0 m 1380 ls []) := by
  have hK := hE.1
  have hF : CallFix pp m cc0 cL_law 7 s #[Value.ref b] wsL_law RL := ⟨hx, hb, hml, hown, hts⟩
  refine lv_aload_n hx hb dL_law_1380 rfl (lv_at hl 1 rfl) ?_
  refine lv_aload_n hx hb dL_law_1381 rfl (lv_at hl 0 rfl) ?_
  refine lv_iload hx hb dL_law_1382 (lv_at hl 4 rfl) ?_
  refine lv_iconst (v := nI 1) hx hb dL_law_1384 (by decide) ?_
  refine kn_add hx hb dL_law_1385 ?_
  refine kn_sld hx hb hX hbl hbA hS (j := i + 1) (by omega) (by omega) dL_law_1386 ?_
  refine lv_aload_n hx hb dL_law_1387 rfl (lv_at hl 3 rfl) ?_
  refine kc_i (vx_runSW (As := [.ref (yH y 0), .int (xs (i + 1)), .ref ol]) (rest := []) hF (c_L_progress l G S y ol g (kM G h ad rf rl rw S) (xs (i + 1)) hlt hI hY) (vx_cwSW 3 hts gL_law_L_progress rfl rfl rfl (by decide +kernel) ⟨Nat.le_of_ble_eq_true rfl, Nat.le_of_ble_eq_true rfl⟩) (kPreS hE hS hV) rfl rfl hl.1 rfl (lv_room (Nat.le_of_ble_eq_true rfl)) dL_law_1388 ⟨(show cells + 1 ≤ 601024 by omega), (show slots + 6 ≤ 7293034 by omega)⟩) hS (fun r1 u1 H locs hp hV hS => ?_)
  obtain ⟨hp0, hp1, hp2, hp3⟩ := hp
  subst hp0
  refine lv_istore (lv' := [(5, .int (nI (opProgress S (xs (i + 1))).1)), (0, .ref b), (1, .ref (yH y 0)), (2, .ref h), (3, .ref ol), (4, .int (nI i))]) hx hb dL_law_1391 hl (by decide) rfl (fun ls hl => ?_)
  have hV : kV G (kM G h ad rf rl rw S ++ (siteW G (opProgress S (xs (i + 1))).2.2 u1.1 ++ [(ol, .inl (kcL G, 1, .inr (.inl u1.2)))])) _ := kV_wc hV (fun e => by simp only [wc_app]; omega)
  refine lv_aload_n hx hb dL_law_1393 rfl (lv_at hl 3 rfl) ?_
  refine lv_aload_n hx hb dL_law_1394 rfl (lv_at hl 1 rfl) ?_
  refine lv_iload hx hb dL_law_1395 (lv_at hl 5 rfl) ?_
  refine lv_iconst (v := nI 1) hx hb dL_law_1397 (by decide) ?_
  refine kn_add hx hb dL_law_1398 ?_
  refine kn_sld hx hb hX hbl hbA hS (j := i + 1) (by omega) (by omega) dL_law_1399 ?_
  refine kc_i (va_runV (As := [.int (xs (i + 1))]) (rest := []) hF (c_X6_progress l G h ad rf rl rw S (siteW G (opProgress S (xs (i + 1))).2.2 u1.1 ++ [(ol, .inl (kcL G, 1, .inr (.inl u1.2)))]) (xs (i + 1)) hI) (cwV 1 hts gL_law_X6_progress rfl rfl rfl (by decide +kernel) ⟨Nat.le_of_ble_eq_true rfl, Nat.le_of_ble_eq_true rfl⟩) (kPreV hE hS hV 0 rfl rfl) rfl rfl hl.1 rfl (lv_room (Nat.le_of_ble_eq_true rfl)) dL_law_1400 ⟨(show cells + 1 + 0 ≤ 601024 by omega), (show slots + 6 + 0 ≤ 7293034 by omega)⟩) hS (fun r2 u2 H locs hq hV hS => ?_)
  subst hq
  refine lv_istore (lv' := [(6, .int (opProgress S (xs (i + 1))).2.1), (5, .int (nI (opProgress S (xs (i + 1))).1)), (0, .ref b), (1, .ref (yH y 0)), (2, .ref h), (3, .ref ol), (4, .int (nI i))]) hx hb dL_law_1403 hl (by decide) rfl (fun ls hl => ?_)
  have hV : kV G (kM G h ad (opProgress S (xs (i + 1))).1 u2.1 u2.2 (opProgress S (xs (i + 1))).2.2 ++ (siteW G (opProgress S (xs (i + 1))).2.2 u1.1 ++ [(ol, .inl (kcL G, 1, .inr (.inl u1.2)))])) _ := hV
  refine lv_aload_n hx hb dL_law_1405 rfl (lv_at hl 4 rfl) ?_
  refine kc_i (va_runV (As := []) (rest := []) hF (c_X6_thrown l G h ad (opProgress S (xs (i + 1))).1 u2.1 u2.2 (opProgress S (xs (i + 1))).2.2 (siteW G (opProgress S (xs (i + 1))).2.2 u1.1 ++ [(ol, .inl (kcL G, 1, .inr (.inl u1.2)))])) (cwV 0 hts gL_law_X6_thrown rfl rfl rfl (by decide +kernel) ⟨Nat.le_of_ble_eq_true rfl, Nat.le_of_ble_eq_true rfl⟩) (kPreV hE hS hV 0 rfl rfl) rfl rfl hl.1 rfl (lv_room (Nat.le_of_ble_eq_true rfl)) dL_law_1406 ⟨(show cells + 1 + 0 + 0 ≤ 601024 by omega), (show slots + 6 + 0 + 0 ≤ 7293034 by omega)⟩) hS (fun r3 u3 H locs hq3 hV hS => ?_)
  subst hq3
  have hV1 : kV G (kM G h ad (opProgress S (xs (i + 1))).1 u2.1 u2.2 (opProgress S (xs (i + 1))).2.2 ++ (siteW G (opProgress S (xs (i + 1))).2.2 u1.1 ++ [(ol, .inl (kcL G, 1, .inr (.inl u1.2)))])) _ := hV
  have hV2 : kV G (lwV G (opProgress S (xs (i + 1))).2.2 u1.1 ol u1.2 h ad (opProgress S (xs (i + 1))).1 u2.1 u2.2) _ := kV_wc hV1 (fun e => by simp only [wc_app]; omega)
  have hV3 : kV G ([(ol, .inl (kcL G, 1, .inr (.inl u1.2)))] ++ (siteW G (opProgress S (xs (i + 1))).2.2 u1.1 ++ kM G h ad (opProgress S (xs (i + 1))).1 u2.1 u2.2 (opProgress S (xs (i + 1))).2.2)) _ := kV_wc hV1 (fun e => by simp only [wc_app]; omega)
  have hl9 : lv_has ls 7 [(0, .ref b), (1, .ref (yH y 0)), (2, .ref h), (3, .ref ol), (4, .int (nI i))] := lv_sub hl [2, 3, 4, 5, 6] rfl
  have hfin : W pp l ee room_1 s m #[Value.ref b] below meth cc0 H locs (cells + 1 + 0 + 0) (slots + 6 + 0 + 0) Q (F0 m 1436 ls []) := by
    refine W.widen (k := cells + 20) (n := slots + 2000) (by omega) (by omega) ?_
    exact kk (opProgress S (xs (i + 1))).2.2 u1.1 u1.2 (opProgress S (xs (i + 1))).1 u2.1 u2.2 H locs (kI_Progress hI (xs (i + 1))) hp1 hp2 hV2 hS ls hl9
  refine lv_iload hx hb dL_law_1409 (lv_at hl 1 rfl) ?_
  refine lv_icmp_eq (tgt := 1416) hx hb dL_law_1411 (by decide) (fun _ => ?_) (fun z => absurd rfl z)
  refine lv_iload hx hb dL_law_1416 (lv_at hl 1 rfl) ?_
  refine kn_if_ne (tgt := 1433) hx hb (o1_Progress _ _) dL_law_1418 (by decide) (fun _ => lv_goto (tgt := 1436) hx hb dL_law_1433 (by decide) hfin) (fun hz => ?_)
  refine lv_aload_n hx hb dL_law_1421 rfl (lv_at hl 5 rfl) ?_
  refine lv_iconst (v := nI 0) hx hb dL_law_1422 (by decide) ?_
  refine va_lald hx hb hK hV3.1 0 3 rfl rfl (show vp_in (nI 0) 1 from vp_in_nI (by decide) (by decide)) dL_law_1423 ?_
  rw [show u1.2 (nI 0).toNatClampNeg = (opProgress S (xs (i + 1))).2.1.toInt64 from hp3 hz]
  refine lv_iload hx hb dL_law_1424 (lv_at hl 0 rfl) ?_
  refine lv_i2l (v := (opProgress S (xs (i + 1))).2.1.toInt64) hx hb dL_law_1426 rfl ?_
  refine W.lcmp hx hb dL_law_1427 ?_
  rw [lgc_self]
  refine lv_if_eq (tgt := 1433) hx hb dL_law_1428 (by decide) (fun _ => lv_goto (tgt := 1436) hx hb dL_law_1433 (by decide) hfin) (fun z => absurd rfl z)
end LAWC
