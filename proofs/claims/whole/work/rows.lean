section
-- ===== PART A: goes FIRST, ahead of the names: the tables' words, and 'selects' of the private methods out of them =====
/-- a private method of a class that the tables say can be made, by its rows of tables_1 -/
def lw_okq (q : MethodName × Nat) : Prop := (q.1.cls ≠ "java/lang/invoke/MethodHandle" ∧ q.1.cls ≠ "java/lang/invoke/VarHandle") ∧ Cond.instantiable q.1.cls q.2 ∈ tables_1 ∧ Cond.privateMethod q.1 ∈ tables_1 ∧ Cond.instanceMethod q.1 ∈ tables_1
theorem lw_p0 : lw_okq (⟨"java/lang/Throwable", "fillInStackTrace", "(I)Ljava/lang/Throwable;"⟩, 6) := ⟨⟨by decide +kernel, by decide +kernel⟩, List.mem_of_getElem? (i := 126) (by decide +kernel), List.mem_of_getElem? (i := 124) (by decide +kernel), List.mem_of_getElem? (i := 125) (by decide +kernel)⟩
theorem lw_p1 : lw_okq (⟨"Yarncourt", "checkRoomForPattern", "()V"⟩, 5) := ⟨⟨by decide +kernel, by decide +kernel⟩, List.mem_of_getElem? (i := 24) (by decide +kernel), List.mem_of_getElem? (i := 175) (by decide +kernel), List.mem_of_getElem? (i := 176) (by decide +kernel)⟩
theorem lw_p2 : lw_okq (⟨"Yarncourt", "addPattern", "(III)LYarncourt$Pattern;"⟩, 5) := ⟨⟨by decide +kernel, by decide +kernel⟩, List.mem_of_getElem? (i := 24) (by decide +kernel), List.mem_of_getElem? (i := 199) (by decide +kernel), List.mem_of_getElem? (i := 200) (by decide +kernel)⟩
theorem lw_p3 : lw_okq (⟨"java/util/ArrayList", "add", "(Ljava/lang/Object;[Ljava/lang/Object;I)V"⟩, 3) := ⟨⟨by decide +kernel, by decide +kernel⟩, List.mem_of_getElem? (i := 32) (by decide +kernel), List.mem_of_getElem? (i := 304) (by decide +kernel), List.mem_of_getElem? (i := 305) (by decide +kernel)⟩
theorem lw_p4 : lw_okq (⟨"java/util/ArrayList", "grow", "()[Ljava/lang/Object;"⟩, 3) := ⟨⟨by decide +kernel, by decide +kernel⟩, List.mem_of_getElem? (i := 32) (by decide +kernel), List.mem_of_getElem? (i := 308) (by decide +kernel), List.mem_of_getElem? (i := 309) (by decide +kernel)⟩
theorem lw_p5 : lw_okq (⟨"java/util/ArrayList", "grow", "(I)[Ljava/lang/Object;"⟩, 3) := ⟨⟨by decide +kernel, by decide +kernel⟩, List.mem_of_getElem? (i := 32) (by decide +kernel), List.mem_of_getElem? (i := 312) (by decide +kernel), List.mem_of_getElem? (i := 313) (by decide +kernel)⟩
theorem lw_p6 : lw_okq (⟨"Yarncourt", "patternAt", "(I)LYarncourt$Pattern;"⟩, 5) := ⟨⟨by decide +kernel, by decide +kernel⟩, List.mem_of_getElem? (i := 24) (by decide +kernel), List.mem_of_getElem? (i := 365) (by decide +kernel), List.mem_of_getElem? (i := 366) (by decide +kernel)⟩
theorem lw_p7 : lw_okq (⟨"Yarncourt$Chart", "drawRow", "(III)I"⟩, 4) := ⟨⟨by decide +kernel, by decide +kernel⟩, List.mem_of_getElem? (i := 240) (by decide +kernel), List.mem_of_getElem? (i := 406) (by decide +kernel), List.mem_of_getElem? (i := 407) (by decide +kernel)⟩
theorem lw_p8 : lw_okq (⟨"Yarncourt", "firstOfSameChart", "(LYarncourt$Pattern;)LYarncourt$Pattern;"⟩, 5) := ⟨⟨by decide +kernel, by decide +kernel⟩, List.mem_of_getElem? (i := 24) (by decide +kernel), List.mem_of_getElem? (i := 460) (by decide +kernel), List.mem_of_getElem? (i := 461) (by decide +kernel)⟩
theorem lw_p9 : lw_okq (⟨"Yarncourt$Program", "workAlong", "(II)I"⟩, 6) := ⟨⟨by decide +kernel, by decide +kernel⟩, List.mem_of_getElem? (i := 209) (by decide +kernel), List.mem_of_getElem? (i := 508) (by decide +kernel), List.mem_of_getElem? (i := 509) (by decide +kernel)⟩
theorem lw_p10 : lw_okq (⟨"Yarncourt", "lotAt", "(I)LYarncourt$Lot;"⟩, 5) := ⟨⟨by decide +kernel, by decide +kernel⟩, List.mem_of_getElem? (i := 24) (by decide +kernel), List.mem_of_getElem? (i := 592) (by decide +kernel), List.mem_of_getElem? (i := 593) (by decide +kernel)⟩
theorem lw_p11 : lw_okq (⟨"Yarncourt", "projectAt", "(I)LYarncourt$Project;"⟩, 5) := ⟨⟨by decide +kernel, by decide +kernel⟩, List.mem_of_getElem? (i := 24) (by decide +kernel), List.mem_of_getElem? (i := 642) (by decide +kernel), List.mem_of_getElem? (i := 643) (by decide +kernel)⟩
theorem lw_p12 : lw_okq (⟨"Yarncourt$Project", "canKnitRow", "()Z"⟩, 4) := ⟨⟨by decide +kernel, by decide +kernel⟩, List.mem_of_getElem? (i := 613) (by decide +kernel), List.mem_of_getElem? (i := 659) (by decide +kernel), List.mem_of_getElem? (i := 660) (by decide +kernel)⟩
theorem lw_p13 : lw_okq (⟨"Yarncourt$Project", "yarnOfNextRow", "()I"⟩, 4) := ⟨⟨by decide +kernel, by decide +kernel⟩, List.mem_of_getElem? (i := 613) (by decide +kernel), List.mem_of_getElem? (i := 663) (by decide +kernel), List.mem_of_getElem? (i := 664) (by decide +kernel)⟩
theorem lw_p14 : lw_okq (⟨"YarncourtModel", "refused", "(I)Z"⟩, 26) := ⟨⟨by decide +kernel, by decide +kernel⟩, List.mem_of_getElem? (i := 678) (by decide +kernel), List.mem_of_getElem? (i := 777) (by decide +kernel), List.mem_of_getElem? (i := 778) (by decide +kernel)⟩
theorem lw_p15 : lw_okq (⟨"YarncourtModel", "added", "(III)I"⟩, 26) := ⟨⟨by decide +kernel, by decide +kernel⟩, List.mem_of_getElem? (i := 678) (by decide +kernel), List.mem_of_getElem? (i := 781) (by decide +kernel), List.mem_of_getElem? (i := 782) (by decide +kernel)⟩
def lw_privs_1 : List (MethodName × Nat) := [(⟨"java/lang/Throwable", "fillInStackTrace", "(I)Ljava/lang/Throwable;"⟩, 6), (⟨"Yarncourt", "checkRoomForPattern", "()V"⟩, 5), (⟨"Yarncourt", "addPattern", "(III)LYarncourt$Pattern;"⟩, 5), (⟨"java/util/ArrayList", "add", "(Ljava/lang/Object;[Ljava/lang/Object;I)V"⟩, 3), (⟨"java/util/ArrayList", "grow", "()[Ljava/lang/Object;"⟩, 3), (⟨"java/util/ArrayList", "grow", "(I)[Ljava/lang/Object;"⟩, 3), (⟨"Yarncourt", "patternAt", "(I)LYarncourt$Pattern;"⟩, 5), (⟨"Yarncourt$Chart", "drawRow", "(III)I"⟩, 4), (⟨"Yarncourt", "firstOfSameChart", "(LYarncourt$Pattern;)LYarncourt$Pattern;"⟩, 5), (⟨"Yarncourt$Program", "workAlong", "(II)I"⟩, 6), (⟨"Yarncourt", "lotAt", "(I)LYarncourt$Lot;"⟩, 5), (⟨"Yarncourt", "projectAt", "(I)LYarncourt$Project;"⟩, 5), (⟨"Yarncourt$Project", "canKnitRow", "()Z"⟩, 4), (⟨"Yarncourt$Project", "yarnOfNextRow", "()I"⟩, 4), (⟨"YarncourtModel", "refused", "(I)Z"⟩, 26), (⟨"YarncourtModel", "added", "(III)I"⟩, 26)]
theorem lw_r1 : ∀ q ∈ lw_privs_1, lw_okq q := List.forall_mem_cons.mpr ⟨lw_p0, List.forall_mem_cons.mpr ⟨lw_p1, List.forall_mem_cons.mpr ⟨lw_p2, List.forall_mem_cons.mpr ⟨lw_p3, List.forall_mem_cons.mpr ⟨lw_p4, List.forall_mem_cons.mpr ⟨lw_p5, List.forall_mem_cons.mpr ⟨lw_p6, List.forall_mem_cons.mpr ⟨lw_p7, List.forall_mem_cons.mpr ⟨lw_p8, List.forall_mem_cons.mpr ⟨lw_p9, List.forall_mem_cons.mpr ⟨lw_p10, List.forall_mem_cons.mpr ⟨lw_p11, List.forall_mem_cons.mpr ⟨lw_p12, List.forall_mem_cons.mpr ⟨lw_p13, List.forall_mem_cons.mpr ⟨lw_p14, List.forall_mem_cons.mpr ⟨lw_p15, fun _ h => absurd h List.not_mem_nil⟩⟩⟩⟩⟩⟩⟩⟩⟩⟩⟩⟩⟩⟩⟩⟩
theorem lw_p16 : lw_okq (⟨"YarncourtModel", "isPattern", "(I)Z"⟩, 26) := ⟨⟨by decide +kernel, by decide +kernel⟩, List.mem_of_getElem? (i := 678) (by decide +kernel), List.mem_of_getElem? (i := 789) (by decide +kernel), List.mem_of_getElem? (i := 790) (by decide +kernel)⟩
theorem lw_p17 : lw_okq (⟨"YarncourtModel", "isPublished", "(I)Z"⟩, 26) := ⟨⟨by decide +kernel, by decide +kernel⟩, List.mem_of_getElem? (i := 678) (by decide +kernel), List.mem_of_getElem? (i := 793) (by decide +kernel), List.mem_of_getElem? (i := 794) (by decide +kernel)⟩
theorem lw_p18 : lw_okq (⟨"YarncourtModel", "rowsOf", "(I)I"⟩, 26) := ⟨⟨by decide +kernel, by decide +kernel⟩, List.mem_of_getElem? (i := 678) (by decide +kernel), List.mem_of_getElem? (i := 797) (by decide +kernel), List.mem_of_getElem? (i := 798) (by decide +kernel)⟩
theorem lw_p19 : lw_okq (⟨"YarncourtModel", "put", "(IIIII)V"⟩, 26) := ⟨⟨by decide +kernel, by decide +kernel⟩, List.mem_of_getElem? (i := 678) (by decide +kernel), List.mem_of_getElem? (i := 801) (by decide +kernel), List.mem_of_getElem? (i := 802) (by decide +kernel)⟩
theorem lw_p20 : lw_okq (⟨"YarncourtModel", "oftenAnew", "(II)I"⟩, 26) := ⟨⟨by decide +kernel, by decide +kernel⟩, List.mem_of_getElem? (i := 678) (by decide +kernel), List.mem_of_getElem? (i := 809) (by decide +kernel), List.mem_of_getElem? (i := 810) (by decide +kernel)⟩
theorem lw_p21 : lw_okq (⟨"YarncourtModel", "originalOf", "(I)I"⟩, 26) := ⟨⟨by decide +kernel, by decide +kernel⟩, List.mem_of_getElem? (i := 678) (by decide +kernel), List.mem_of_getElem? (i := 817) (by decide +kernel), List.mem_of_getElem? (i := 818) (by decide +kernel)⟩
theorem lw_p22 : lw_okq (⟨"YarncourtModel", "areAlike", "(II)Z"⟩, 26) := ⟨⟨by decide +kernel, by decide +kernel⟩, List.mem_of_getElem? (i := 678) (by decide +kernel), List.mem_of_getElem? (i := 821) (by decide +kernel), List.mem_of_getElem? (i := 822) (by decide +kernel)⟩
theorem lw_p23 : lw_okq (⟨"YarncourtModel", "stitchOf", "(III)I"⟩, 26) := ⟨⟨by decide +kernel, by decide +kernel⟩, List.mem_of_getElem? (i := 678) (by decide +kernel), List.mem_of_getElem? (i := 825) (by decide +kernel), List.mem_of_getElem? (i := 826) (by decide +kernel)⟩
theorem lw_p24 : lw_okq (⟨"YarncourtModel", "goTo", "(II)V"⟩, 26) := ⟨⟨by decide +kernel, by decide +kernel⟩, List.mem_of_getElem? (i := 678) (by decide +kernel), List.mem_of_getElem? (i := 829) (by decide +kernel), List.mem_of_getElem? (i := 830) (by decide +kernel)⟩
theorem lw_p25 : lw_okq (⟨"YarncourtModel", "stitchAt", "(I)I"⟩, 26) := ⟨⟨by decide +kernel, by decide +kernel⟩, List.mem_of_getElem? (i := 678) (by decide +kernel), List.mem_of_getElem? (i := 833) (by decide +kernel), List.mem_of_getElem? (i := 834) (by decide +kernel)⟩
theorem lw_p26 : lw_okq (⟨"YarncourtModel", "noPattern", "(I)Z"⟩, 26) := ⟨⟨by decide +kernel, by decide +kernel⟩, List.mem_of_getElem? (i := 678) (by decide +kernel), List.mem_of_getElem? (i := 841) (by decide +kernel), List.mem_of_getElem? (i := 842) (by decide +kernel)⟩
theorem lw_p27 : lw_okq (⟨"YarncourtModel", "rowNeed", "(III)I"⟩, 26) := ⟨⟨by decide +kernel, by decide +kernel⟩, List.mem_of_getElem? (i := 678) (by decide +kernel), List.mem_of_getElem? (i := 862) (by decide +kernel), List.mem_of_getElem? (i := 863) (by decide +kernel)⟩
theorem lw_p28 : lw_okq (⟨"YarncourtModel", "hasBought", "(II)Z"⟩, 26) := ⟨⟨by decide +kernel, by decide +kernel⟩, List.mem_of_getElem? (i := 678) (by decide +kernel), List.mem_of_getElem? (i := 870) (by decide +kernel), List.mem_of_getElem? (i := 871) (by decide +kernel)⟩
theorem lw_p29 : lw_okq (⟨"YarncourtModel", "isLot", "(I)Z"⟩, 26) := ⟨⟨by decide +kernel, by decide +kernel⟩, List.mem_of_getElem? (i := 678) (by decide +kernel), List.mem_of_getElem? (i := 891) (by decide +kernel), List.mem_of_getElem? (i := 892) (by decide +kernel)⟩
theorem lw_p30 : lw_okq (⟨"YarncourtModel", "isProject", "(I)Z"⟩, 26) := ⟨⟨by decide +kernel, by decide +kernel⟩, List.mem_of_getElem? (i := 678) (by decide +kernel), List.mem_of_getElem? (i := 907) (by decide +kernel), List.mem_of_getElem? (i := 908) (by decide +kernel)⟩
theorem lw_p31 : lw_okq (⟨"YarncourtModel", "knitsRow", "(I)Z"⟩, 26) := ⟨⟨by decide +kernel, by decide +kernel⟩, List.mem_of_getElem? (i := 678) (by decide +kernel), List.mem_of_getElem? (i := 915) (by decide +kernel), List.mem_of_getElem? (i := 916) (by decide +kernel)⟩
def lw_privs_2 : List (MethodName × Nat) := [(⟨"YarncourtModel", "isPattern", "(I)Z"⟩, 26), (⟨"YarncourtModel", "isPublished", "(I)Z"⟩, 26), (⟨"YarncourtModel", "rowsOf", "(I)I"⟩, 26), (⟨"YarncourtModel", "put", "(IIIII)V"⟩, 26), (⟨"YarncourtModel", "oftenAnew", "(II)I"⟩, 26), (⟨"YarncourtModel", "originalOf", "(I)I"⟩, 26), (⟨"YarncourtModel", "areAlike", "(II)Z"⟩, 26), (⟨"YarncourtModel", "stitchOf", "(III)I"⟩, 26), (⟨"YarncourtModel", "goTo", "(II)V"⟩, 26), (⟨"YarncourtModel", "stitchAt", "(I)I"⟩, 26), (⟨"YarncourtModel", "noPattern", "(I)Z"⟩, 26), (⟨"YarncourtModel", "rowNeed", "(III)I"⟩, 26), (⟨"YarncourtModel", "hasBought", "(II)Z"⟩, 26), (⟨"YarncourtModel", "isLot", "(I)Z"⟩, 26), (⟨"YarncourtModel", "isProject", "(I)Z"⟩, 26), (⟨"YarncourtModel", "knitsRow", "(I)Z"⟩, 26)]
theorem lw_r2 : ∀ q ∈ lw_privs_2, lw_okq q := List.forall_mem_cons.mpr ⟨lw_p16, List.forall_mem_cons.mpr ⟨lw_p17, List.forall_mem_cons.mpr ⟨lw_p18, List.forall_mem_cons.mpr ⟨lw_p19, List.forall_mem_cons.mpr ⟨lw_p20, List.forall_mem_cons.mpr ⟨lw_p21, List.forall_mem_cons.mpr ⟨lw_p22, List.forall_mem_cons.mpr ⟨lw_p23, List.forall_mem_cons.mpr ⟨lw_p24, List.forall_mem_cons.mpr ⟨lw_p25, List.forall_mem_cons.mpr ⟨lw_p26, List.forall_mem_cons.mpr ⟨lw_p27, List.forall_mem_cons.mpr ⟨lw_p28, List.forall_mem_cons.mpr ⟨lw_p29, List.forall_mem_cons.mpr ⟨lw_p30, List.forall_mem_cons.mpr ⟨lw_p31, fun _ h => absurd h List.not_mem_nil⟩⟩⟩⟩⟩⟩⟩⟩⟩⟩⟩⟩⟩⟩⟩⟩
def lw_privs : List (MethodName × Nat) := lw_privs_1 ++ (lw_privs_2)
def lw_tbl : List Cond := k2_sels lw_privs ++ tables_1
theorem lw_privs_ok : ∀ q ∈ lw_privs, lw_okq q := by
  show ∀ q ∈ lw_privs_1 ++ (lw_privs_2), lw_okq q
  exact List.forall_mem_append.mpr ⟨lw_r1, lw_r2⟩
end
section
/-! ===== BEGIN words of one list among another's, by their places ===== -/
theorem goodIn_r {big : List Cond} (ws : List Cond) (ps : List Nat) (hp : ws = ps.filterMap (fun i => big[i]?)) (h : ws.all goodWord = true) : GoodIn big ws := by
  intro w hw
  have h1 := List.all_eq_true.mp h w hw
  rw [hp] at hw
  obtain ⟨i, -, hi⟩ := List.mem_filterMap.mp hw
  have hm : w ∈ big := by first | exact List.mem_of_getElem? hi | exact List.getElem?_mem hi
  exact ⟨hm, good_of_word h1⟩
theorem goodIn_app {big a b : List Cond} (ha : GoodIn big a) (hb : GoodIn big b) : GoodIn big (a ++ b) := fun w h => (List.mem_append.mp h).elim (ha w) (hb w)
theorem goodIn_ca {big a b : List Cond} {c : Cond} (ha : GoodIn big (c :: a)) (hb : GoodIn big b) : GoodIn big (c :: (a ++ b)) := fun w h => (List.mem_cons.mp h).elim (fun e => ha w (List.mem_cons.mpr (Or.inl e))) (fun h => (List.mem_append.mp h).elim (fun h => ha w (List.mem_cons.mpr (Or.inr h))) (hb w))
theorem goodIn_sub {big ws : List Cond} (hm : ∀ w ∈ ws, w ∈ big) (h : ws.all goodWord = true) : GoodIn big ws := fun w hw => ⟨hm w hw, good_of_word (List.all_eq_true.mp h w hw)⟩
/-! ===== END ===== -/

/-! ===== BEGIN exceptions that leave a method, and their catching by the caller (launches without stack traces) ===== -/
section VXA
/-! The laws vx_back, vx_callV, vx_callS, vx_callSW, vx_throw0, vx_throwS follow proofs of the library, with one case more: JvmDerived/Free/Laws.lean (Back.of_free), Shelf42/LK1.lean (callV, callS), Shelf/KitTraced.lean (throwNew0V, throwNewS). -/
/-- where a method has thrown q: the class by its name, the cell, what was written, the world -/
def vx_T (XC : String → State → State → Prop) (st : State) (q : Addr) (t : State) (mc ms : Nat) (free : Addr → Prop) : Prop :=
  ∃ (E : String) (ce : Cell) (L : List Loc), XC E st t ∧ t.heap[q]? = some ce ∧ ce.vm = .none ∧ st.vm.findClass E = some ce.cls ∧ st.WarmedH t.vm ∧ st.sameButNew ({ t with vm := st.vm } : State) L mc ms ∧ ∀ z ∈ L, free z.base
def vx_Q (Qc : Array Value → State → Outcome → State → Prop) (XC : String → State → State → Prop) (mc ms : Nat) (free : Addr → Prop) : Array Value → State → Outcome → State → Prop := fun a st o t =>
  (Qc a st o t ∧ ∃ L, FrameEnd st o t L mc ms ∧ ∀ q ∈ L, free q.base) ∨ ∃ q, o = .threw q ∧ vx_T XC st q t mc ms free
/-- a callee that returns or throws -/
def vx_Met (l : Launch) (y : MethodName) (ws : List Cond) (rm : Room) (Pc : Array Value → State → Prop) (Qc : Array Value → State → Outcome → State → Prop) (XC : String → State → State → Prop) (mc ms : Nat) (free : Addr → Prop) : Prop :=
  MetFree l y (headSpec ws rm) Pc (fun _ _ _ _ _ => True) (vx_Q Qc XC mc ms free)
def vx_Post (XC : String → State → State → Prop) (mc ms : Nat) (free : Addr → Prop) : Pt → Array Value → Addr → Pt → Prop := fun A a q B =>
  ∃ (g : JFrame) (mk : MethodId) (t : State) (L : List Loc) (E : String) (ce : Cell), B.U.heap = t.heap ∧ B.U.vm = t.vm ∧ XC E (A.U.calling g mk a) t ∧ t.heap[q]? = some ce ∧ ce.vm = .none ∧ A.U.vm.findClass E = some ce.cls ∧ B.locs = A.locs ++ L ∧ (∀ z ∈ L, free z.base) ∧ B.cells = A.cells + mc ∧ B.slots = A.slots + ms
def vx_Back (l : Launch) (R : Room) (p : Program) (e : Env) (below : List Frame) (s : State) (sargs : Array Value) (y : MethodName) (len W9 : Nat)
    (Pre : Pt → Array Value → Prop) (Post : Pt → Array Value → Option Value → Pt → Prop) (PostX : Pt → Array Value → Addr → Pt → Prop) : Prop :=
  ∀ (m : MethodId) (meth : Method) (c : Code) (A : Pt) (g : JFrame) (ig : Instr) (mk : MethodId) (a : Array Value),
    Stand p l e R s m sargs below meth c A.U A.locs A.cells A.slots → g.method = m → g.locals.size = c.maxLocals → decode c.code g.pc = .ok (ig, len) →
    2 * g.monitorRoom + (g.stack.map fun v => v.category).sum ≤ W9 → A.U.methodNamed? y = some mk → Pre A a →
    (∃ (v : Option Value) (B : Pt), Stand p l e R s m sargs below meth c B.U B.locs B.cells B.slots ∧ Post A a v B ∧
      Steps p.tables e below (doInvoke e (A.U.setTop g) [] mk a).1 (B.U.setTop { g with pc := g.pc + len, stack := v.toList ++ g.stack })) ∨
    (∃ (q : Addr) (B : Pt), Stand p l e R s m sargs below meth c B.U B.locs B.cells B.slots ∧ PostX A a q B ∧
      Steps p.tables e below (doInvoke e (A.U.setTop g) [] mk a).1 ((B.U.setTop g).pushFrame (.throwing q)))
section Payer
variable {l : Launch} {R : Room} {p : Program} {e : Env} {below : List Frame} {s : State} {sargs : Array Value} {y : MethodName} {len W9 : Nat}
theorem vx_back {ws : List Cond} {rm : Room} {Pc : Array Value → State → Prop} {Qc : Array Value → State → Outcome → State → Prop} {XC : String → State → State → Prop} {mc ms : Nat} {free : Addr → Prop} {bytes : ByteArray} {maxL : Nat} {ret : Option FieldType}
    (hM : vx_Met l y ws rm Pc Qc XC mc ms free) (hblind : FrameBlind Pc) (hrc : rm.cells = mc) (hrs : rm.slots = ms)
    (hframes : rm.frames + 1 ≤ R.frames) (hlocals : W9 + (maxL + 11) + rm.locals ≤ R.locals)
    (hws : ∀ w ∈ ws, ∀ a' U, s.WarmedH U.vm → w.before a' U = true) (hcode : Cond.code y bytes maxL ret ∈ ws) (hinit : ∀ a' U, s.WarmedH U.vm → (Cond.initialized y.cls).before a' U = true) :
    vx_Back l R p e below s sargs y len W9 (PreOf R mc ms Pc) (PostOf Qc mc ms free) (vx_Post XC mc ms free) := by
  intro m meth c A g ig mk a X hg hsize hdg hW hn hp
  have h1 : (headSpec ws rm).pre.before a A.U = true := atoms_intro fun w hw => hws w hw _ _ X.warmed
  have h2 : (Cond.code y bytes maxL ret).before a A.U = true := hws _ hcode _ _ X.warmed
  have h3 : (Cond.initialized y.cls).before a A.U = true := hinit _ _ X.warmed
  have h4 : A.cells + (headSpec ws rm).room.cells ≤ R.cells := by rw [show (headSpec ws rm).room.cells = mc from hrc]; exact hp.1
  have h5 : A.slots + (headSpec ws rm).room.slots ≤ R.slots := by rw [show (headSpec ws rm).room.slots = ms from hrs]; exact hp.2.1
  have hPc : Pc a (A.U.calling g mk a) := hblind _ _ _ _ hp.2.2
  obtain ⟨U, Ls, c0, s0⟩ := A
  dsimp only [Pt.U, Pt.locs, Pt.cells, Pt.slots] at h1 h2 h3 h4 h5 X hn hPc ⊢
  obtain ⟨methY, cY, hmY, hcY, -, hlY, -, -, -, -⟩ := Cond.code_spec hn h2
  obtain ⟨kY, hkY, -⟩ := className_of_methodNamed hn
  have hinitY : kY.init = .initialized := Cond.initialized_spec (findClass_of_methodNamed hn) hkY h3
  have h : At U g.method c below := by rw [hg]; exact X.here
  have hlocals9 : W9 + (maxL + 11) + (headSpec ws rm).room.locals ≤ R.locals := hlocals
  have happ : (headSpec ws rm).appliesLoose y e.platform (U.calling g mk a) = true :=
    Spec.appliesLoose_calling (g := g) h hdg hn hkY hinitY
      (X.room_calling (g := g) (R' := (headSpec ws rm).room) hsize hmY hcY hframes (by rw [hlY]; omega) h4 h5) h1
  obtain ⟨mid, hmid⟩ := h.above
  have hfr : (U.setTop g).frames = (.java g :: mid) ++ below := by rw [State.frames_setTop' g h.top, hmid]; rfl
  obtain ⟨o, s₂, hsteps, -, hend, hq⟩ := Steps.callFree hM p X.admits X.cas X.clock (acts := []) hfr happ hPc trivial
  have hq' : vx_Q Qc XC mc ms free a (U.calling g mk a) o s₂ := hq
  rw [State.frames_setTop' g h.top] at hend
  obtain ⟨g₀, hg0⟩ := Option.isSome_iff_exists.mp h.top
  obtain ⟨r, hr⟩ := State.topJava?_eq_some.mp hg0
  have hr' : (({ U with heap := s₂.heap, slotsUsed := s₂.slotsUsed } : State).setVm s₂.vm).frames = .java g₀ :: r := hr
  rcases hq' with ⟨hqc, L, hfe, hL⟩ | ⟨q, rfl, E, ce, L, hx, hce, hcv, hcl, hW₂, hsm, hL⟩
  · obtain ⟨⟨v, rfl⟩, hW₂, e2, q2, q3, q4, q5, q6⟩ := id hfe
    have e3 : s₂ = ({ (U.calling g mk a).setFrames s₂.frames with heap := s₂.heap, slotsUsed := s₂.slotsUsed } : State).setVm s₂.vm := by
      have : s₂ = ({ s₂ with vm := (U.calling g mk a).vm } : State).setVm s₂.vm := rfl
      rw [e2] at this
      exact this
    obtain ⟨c₂, i₂, len₂, hc₂, hd₂, hf₂⟩ := hend
    have hW' : U.WarmedH s₂.vm := hW₂
    have hcc : c₂ = c := by
      have h1 : s₂.code? g.method = U.code? g.method := by
        rw [State.code?_eq, State.code?_eq, hW'.alike.method?]
      exact Option.some.inj (hc₂.symm.trans (h1.trans h.code))
    subst hcc
    have hlen : len₂ = len := by rw [hdg] at hd₂; cases hd₂; rfl
    subst hlen
    have hs₂ : s₂ = (({ U with heap := s₂.heap, slotsUsed := s₂.slotsUsed } : State).setVm s₂.vm).setTop { g with pc := g.pc + len₂, stack := v.toList ++ g.stack } := by
      refine e3.trans ?_
      rw [hf₂, State.calling_eq h.top, State.setFrames_setFrames, State.setTop_of_frames _ hr', hr]
      rfl
    have hsame : U.sameButNew ({ U with heap := s₂.heap, slotsUsed := s₂.slotsUsed } : State) L mc ms := by
      refine ⟨?_, q2, q3, q4, q5, q6⟩
      obtain ⟨t, ht, -⟩ := State.frames_cons hr
      show ({ U with heap := s₂.heap, slotsUsed := s₂.slotsUsed } : State) = { U.setFrames U.frames with heap := s₂.heap, slotsUsed := s₂.slotsUsed }
      rw [State.setFrames_self ht]
    subst hg
    refine Or.inl ⟨v, ⟨(({ U with heap := s₂.heap, slotsUsed := s₂.slotsUsed } : State).setVm s₂.vm), Ls ++ L, c0 + mc, s0 + ms⟩,
      ⟨X.admits, X.cas, X.clock, X.frames, X.room, X.hears, X.method, X.code, (X.here.setHeapUsed s₂.heap s₂.slotsUsed).setVm hW'.alike, X.tail, State.WarmedH.trans X.warmed hW', X.limits, X.bytes, X.same.trans (hsame.setVm s.vm)⟩,
      ⟨g, mk, s₂, L, rfl, rfl, hqc, rfl, hL, rfl, rfl⟩, ?_⟩
    show Steps p.tables e below _ ((({ U with heap := s₂.heap, slotsUsed := s₂.slotsUsed } : State).setVm s₂.vm).setTop { g with pc := g.pc + len₂, stack := v.toList ++ g.stack })
    rw [← hs₂]
    exact hsteps
  · obtain ⟨e2, q2, q3, q4, q5, q6⟩ := id hsm
    have e3 : s₂ = ({ (U.calling g mk a).setFrames s₂.frames with heap := s₂.heap, slotsUsed := s₂.slotsUsed } : State).setVm s₂.vm := by
      have : s₂ = ({ s₂ with vm := (U.calling g mk a).vm } : State).setVm s₂.vm := rfl
      rw [e2] at this
      exact this
    have hf₂ : s₂.frames = .throwing q :: .java g :: U.frames.tail := hend
    have hW' : U.WarmedH s₂.vm := hW₂
    have hs₂ : s₂ = ((({ U with heap := s₂.heap, slotsUsed := s₂.slotsUsed } : State).setVm s₂.vm).setTop g).pushFrame (.throwing q) := by
      refine e3.trans ?_
      rw [hf₂, State.calling_eq h.top, State.setFrames_setFrames, State.pushFrame, State.frames_setTop _ hr', State.setTop_of_frames _ hr', State.setFrames_setFrames, hr]
      rfl
    have hsame : U.sameButNew ({ U with heap := s₂.heap, slotsUsed := s₂.slotsUsed } : State) L mc ms := by
      refine ⟨?_, q2, q3, q4, q5, q6⟩
      obtain ⟨t, ht, -⟩ := State.frames_cons hr
      show ({ U with heap := s₂.heap, slotsUsed := s₂.slotsUsed } : State) = { U.setFrames U.frames with heap := s₂.heap, slotsUsed := s₂.slotsUsed }
      rw [State.setFrames_self ht]
    subst hg
    refine Or.inr ⟨q, ⟨(({ U with heap := s₂.heap, slotsUsed := s₂.slotsUsed } : State).setVm s₂.vm), Ls ++ L, c0 + mc, s0 + ms⟩,
      ⟨X.admits, X.cas, X.clock, X.frames, X.room, X.hears, X.method, X.code, (X.here.setHeapUsed s₂.heap s₂.slotsUsed).setVm hW'.alike, X.tail, State.WarmedH.trans X.warmed hW', X.limits, X.bytes, X.same.trans (hsame.setVm s.vm)⟩,
      ⟨g, mk, s₂, L, E, ce, rfl, rfl, hx, hce, hcv, hcl, rfl, hL, rfl, rfl⟩, ?_⟩
    show Steps p.tables e below _ (((({ U with heap := s₂.heap, slotsUsed := s₂.slotsUsed } : State).setVm s₂.vm).setTop g).pushFrame (.throwing q))
    rw [← hs₂]
    exact hsteps
end Payer
section Calls
variable {p : Program} {l : Launch} {e : Env} {R : Room} {s : State} {m : MethodId} {args : Array Value} {below : List Frame} {meth : Method} {c : Code} {T : State} {locs : List Loc} {cells slots : Nat}
theorem vx_callV (X : Stand p l e R s m args below meth c T locs cells slots) (hexec : p.tables.exec = Jvm.exec) {own C : String} {index : Nat} {y : MethodName} {bytes : ByteArray} {maxL : Nat} {ret : Option FieldType}
    (hown : s.vm.findClass own = some m.cls) (hlink : (Cond.methodLink own index y).before args s = true) (hinst : (Cond.instanceMethod y).before args s = true) (hsel : (Cond.selects C y y).before args s = true)
    (hcode : (Cond.code y bytes maxL ret).before args s = true) (hy : y.cls ≠ "java/lang/invoke/MethodHandle" ∧ y.cls ≠ "java/lang/invoke/VarHandle")
    {W9 : Nat} {Pre : Pt → Array Value → Prop} {Post : Pt → Array Value → Option Value → Pt → Prop} {PostX : Pt → Array Value → Addr → Pt → Prop} (hK : vx_Back l R p e below s args y 3 W9 Pre Post PostX)
    {b : Addr} {cellB : Cell} (hcell : T.heap[b]? = some cellB) (hobj : cellB.vm.isStatics = false) (hcls : s.vm.findClass C = some cellB.cls)
    {g : JFrame} (hg : g.method = m) (hsize : g.locals.size = c.maxLocals) {argsL rest : List Value} (hlen : ∀ sig, parseMethodDescriptor y.desc = some sig → argsL.length = sig.parameters.length)
    (hstack : g.stack = argsL.reverse ++ .ref b :: rest) (hW : 2 * g.monitorRoom + (rest.map fun v => v.category).sum ≤ W9) (hdg : decode c.code g.pc = .ok (.invokevirtual index, 3))
    (hpre : ∀ vm₁, s.WarmedH vm₁ → Pre ⟨T.setVm vm₁, locs, cells, slots⟩ (Value.ref b :: argsL).toArray) :
    (∃ (v : Option Value) (vm₁ : Vm) (B : Pt), s.WarmedH vm₁ ∧ Stand p l e R s m args below meth c B.U B.locs B.cells B.slots ∧ Post ⟨T.setVm vm₁, locs, cells, slots⟩ (Value.ref b :: argsL).toArray v B ∧
      ∀ target, Steps p.tables e below (B.U.setTop { g with pc := g.pc + 3, stack := v.toList ++ rest }) target → Steps p.tables e below (T.setTop g) target) ∨
    (∃ (q : Addr) (vm₁ : Vm) (B : Pt), s.WarmedH vm₁ ∧ Stand p l e R s m args below meth c B.U B.locs B.cells B.slots ∧ PostX ⟨T.setVm vm₁, locs, cells, slots⟩ (Value.ref b :: argsL).toArray q B ∧
      Steps p.tables e below (T.setTop g) ((B.U.setTop { g with stack := rest }).pushFrame (.throwing q))) := by
  obtain ⟨mk, methM, hnamed, hmethM, hstM, habM⟩ := Cond.instanceMethod_spec hinst
  obtain ⟨methM', cM, hmethM', -, -, -, -, -, -, hsigM⟩ := Cond.code_spec hnamed hcode
  cases hmethM.symm.trans hmethM'
  obtain ⟨c2, r2, m2, q1, q2, q3, q4, kP, hkP, hkPi⟩ := Cond.selects_spec hsel
  cases hcls.symm.trans q1
  cases (State.methodFound?_of_named hnamed hy).symm.trans q2
  cases hnamed.symm.trans q3
  have hselP : selectMethod e.platform s.vm cellB.cls mk = .method mk := by rw [Launch.admits_selectMethod X.admits]; exact q4
  obtain ⟨vm₁, X₁, hstep₁⟩ := X.invokevirtual hexec hown hlink hnamed hmethM hstM hkP hkPi hy (a := b) (cell := cellB) hcell
    (fun z h => by rw [h] at hobj; cases hobj) hselP hmethM habM hkP hkPi (g := g) hg (argsL := argsL) (rest := rest) (hlen _ hsigM) hstack hdg
  rcases hK m meth c ⟨T.setVm vm₁, locs, cells, slots⟩ { g with stack := rest } (.invokevirtual index) mk (Value.ref b :: argsL).toArray X₁ hg hsize hdg hW (X₁.named hnamed) (hpre vm₁ X₁.warmed) with ⟨v, B, X', hpost, hsteps⟩ | ⟨q, B, X', hpost, hsteps⟩
  · exact Or.inl ⟨v, vm₁, B, X₁.warmed, X', hpost, fun target h => hstep₁ _ fun acts => by rw [doInvoke_state]; exact hsteps.trans h⟩
  · exact Or.inr ⟨q, vm₁, B, X₁.warmed, X', hpost, hstep₁ _ fun acts => by rw [doInvoke_state]; exact hsteps⟩
theorem vx_callS (X : Stand p l e R s m args below meth c T locs cells slots) (hexec : p.tables.exec = Jvm.exec) {own : String} {index : Nat} {y : MethodName} {bytes : ByteArray} {maxL : Nat} {ret : Option FieldType}
    (hown : s.vm.findClass own = some m.cls) (hlink : (Cond.methodLink own index y).before args s = true) (hstat : (Cond.static y).before args s = true) (hinit : (Cond.initialized y.cls).before args s = true)
    (hcode : (Cond.code y bytes maxL ret).before args s = true) (hy : y.cls ≠ "java/lang/invoke/MethodHandle" ∧ y.cls ≠ "java/lang/invoke/VarHandle")
    {W9 : Nat} {Pre : Pt → Array Value → Prop} {Post : Pt → Array Value → Option Value → Pt → Prop} {PostX : Pt → Array Value → Addr → Pt → Prop} (hK : vx_Back l R p e below s args y 3 W9 Pre Post PostX)
    {g : JFrame} (hg : g.method = m) (hsize : g.locals.size = c.maxLocals) {argsL rest : List Value} (hlen : ∀ sig, parseMethodDescriptor y.desc = some sig → argsL.length = sig.parameters.length)
    (hstack : g.stack = argsL.reverse ++ rest) (hW : 2 * g.monitorRoom + (rest.map fun v => v.category).sum ≤ W9) (hdg : decode c.code g.pc = .ok (.invokestatic index, 3))
    (hpre : ∀ vm₁, s.WarmedH vm₁ → Pre ⟨T.setVm vm₁, locs, cells, slots⟩ argsL.toArray) :
    (∃ (v : Option Value) (vm₁ : Vm) (B : Pt), s.WarmedH vm₁ ∧ Stand p l e R s m args below meth c B.U B.locs B.cells B.slots ∧ Post ⟨T.setVm vm₁, locs, cells, slots⟩ argsL.toArray v B ∧
      ∀ target, Steps p.tables e below (B.U.setTop { g with pc := g.pc + 3, stack := v.toList ++ rest }) target → Steps p.tables e below (T.setTop g) target) ∨
    (∃ (q : Addr) (vm₁ : Vm) (B : Pt), s.WarmedH vm₁ ∧ Stand p l e R s m args below meth c B.U B.locs B.cells B.slots ∧ PostX ⟨T.setVm vm₁, locs, cells, slots⟩ argsL.toArray q B ∧
      Steps p.tables e below (T.setTop g) ((B.U.setTop { g with stack := rest }).pushFrame (.throwing q))) := by
  obtain ⟨mk, hnamed⟩ := Cond.code_named hcode
  obtain ⟨methM, cM, hmethM, -, -, -, -, -, -, hsigM⟩ := Cond.code_spec hnamed hcode
  have hstatic : methM.isStatic = true := Cond.static_spec hnamed hmethM hstat
  obtain ⟨kP, hkP, -⟩ := className_of_methodNamed hnamed
  have hinitP : kP.init = .initialized := Cond.initialized_spec (findClass_of_methodNamed hnamed) hkP hinit
  obtain ⟨vm₁, X₁, hstep₁⟩ := X.invokestatic hexec hown hlink hnamed hmethM hstatic hkP hinitP hy (g := g) hg (argsL := argsL) (rest := rest) (hlen _ hsigM) hstack hdg
  rcases hK m meth c ⟨T.setVm vm₁, locs, cells, slots⟩ { g with stack := rest } (.invokestatic index) mk argsL.toArray X₁ hg hsize hdg hW (X₁.named hnamed) (hpre vm₁ X₁.warmed) with ⟨v, B, X', hpost, hsteps⟩ | ⟨q, B, X', hpost, hsteps⟩
  · exact Or.inl ⟨v, vm₁, B, X₁.warmed, X', hpost, fun target h => hstep₁ _ fun acts => by rw [doInvoke_state]; exact hsteps.trans h⟩
  · exact Or.inr ⟨q, vm₁, B, X₁.warmed, X', hpost, hstep₁ _ fun acts => by rw [doInvoke_state]; exact hsteps⟩
end Calls
theorem vx_cls {s : State} {T : State} {vm₁ : Vm} {E : String} {k : ClassId} (hW : s.WarmedH vm₁) (h : (T.setVm vm₁).vm.findClass E = some k) : s.vm.findClass E = some k := by
  have h1 : vm₁.findClass E = some k := h
  rw [hW.alike.findClass] at h1
  exact h1
/-- the method's frame g, with q thrown over it -/
def vx_W (p : Program) (l : Launch) (e : Env) (R : Room) (s : State) (m : MethodId) (args : Array Value) (below : List Frame) (meth : Method) (c : Code) (H : Heap) (locs : List Loc) (cells slots : Nat) (Q : State → Prop) (g : JFrame) (q : Addr) : Prop :=
  ∀ T : State, T.heap = H → Stand p l e R s m args below meth c T locs cells slots → ∃ t, Steps p.tables e below ((T.setTop g).pushFrame (.throwing q)) t ∧ Q t
def vx_Run (p : Program) (l : Launch) (e : Env) (R : Room) (s : State) (m : MethodId) (args : Array Value) (below : List Frame) (meth : Method) (c : Code) (H : Heap) (locs : List Loc) (cells slots mc ms : Nat) (g : JFrame) (rest : List Value) (Qa : State → Outcome → State → Prop) (XC : String → State → State → Prop) (free : Addr → Prop) : Prop :=
  ∀ T : State, T.heap = H → Stand p l e R s m args below meth c T locs cells slots →
    (∃ (v : Option Value) (st₀ t T' : State) (L : List Loc), st₀.heap = H ∧ Stand p l e R s m args below meth c T' (locs ++ L) (cells + mc) (slots + ms) ∧ (∀ q ∈ L, free q.base) ∧ T'.heap = t.heap ∧ T'.vm = t.vm ∧ Qa st₀ (.returned v) t ∧
      Goes p e below T g T' { g with pc := g.pc + 3, stack := v.toList ++ rest }) ∨
    (∃ (q : Addr) (st₀ t T' : State) (L : List Loc) (E : String) (ce : Cell), st₀.heap = H ∧ Stand p l e R s m args below meth c T' (locs ++ L) (cells + mc) (slots + ms) ∧ (∀ z ∈ L, free z.base) ∧ T'.heap = t.heap ∧ T'.vm = t.vm ∧ XC E st₀ t ∧ t.heap[q]? = some ce ∧ ce.vm = .none ∧ s.vm.findClass E = some ce.cls ∧
      Steps p.tables e below (T.setTop g) ((T'.setTop { g with stack := rest }).pushFrame (.throwing q)))
def vx_X {S : Type} (px : S → Prop) (B : String → S → State → Prop) (A : Nat → Prop) : String → State → State → Prop := fun E st t => ∃ u : S, px u ∧ B E u t ∧ va_F A st t
section Runs
variable {p : Program} {l : Launch} {e : Env} {R : Room} {s : State} {m : MethodId} {args : Array Value} {below : List Frame} {meth : Method} {c : Code} {H : Heap} {locs : List Loc} {cells slots : Nat}
variable {y : MethodName} {bytes cc : ByteArray} {maxL nL mc ms n index : Nat} {ret : Option FieldType} {ws : List Cond} {rm : Room} {Pc : Array Value → State → Prop} {Qc : Array Value → State → Outcome → State → Prop} {XC : String → State → State → Prop} {free : Addr → Prop} {Ts : List Cond} {own C : String} {b : Addr} {As rest : List Value} {g : JFrame}
theorem vx_callBack (cb : CallB R s args own index y bytes maxL ret ws rm mc ms n) (hM : vx_Met l y ws rm Pc Qc XC mc ms free) (hbl : FrameBlind Pc) : vx_Back l R p e below s args y 3 8 (PreOf R mc ms Pc) (PostOf Qc mc ms free) (vx_Post XC mc ms free) := by
  obtain ⟨hrc, hrs, hfr, hlo, hws, hcw, -, hini, -⟩ := cb
  exact vx_back (bytes := bytes) (maxL := maxL) (ret := ret) hM hbl hrc hrs hfr hlo hws hcw (fun a' U hW => word_at hW (Or.inl (by first | rfl | simp [Cond.onTables, Cond.keeps, Cond.steady])) hini)
theorem vx_runV (S : CallFix p m c cc nL s args Ts own) (hM : vx_Met l y ws rm Pc Qc XC mc ms free) (cw : CallW R s args own C index y bytes maxL ret ws rm mc ms n) (hp : PreV s H C b Pc As)
    (hg : g.method = m) (hn : As.length = n) (hsize : g.locals.size = nL) (hstack : g.stack = As.reverse ++ .ref b :: rest) (hW : 2 * g.monitorRoom + (rest.map fun v => v.category).sum ≤ 8) (hdg : decode cc g.pc = .ok (.invokevirtual index, 3)) (hf : cells + mc ≤ R.cells ∧ slots + ms ≤ R.slots) :
    vx_Run p l e R s m args below meth c H locs cells slots mc ms g rest (Qc (Value.ref b :: As).toArray) XC free := by
  have hK : vx_Back l R p e below s args y 3 8 (PreOf R mc ms Pc) (PostOf Qc mc ms free) (vx_Post XC mc ms free) := vx_callBack cw.1 hM hp.1
  obtain ⟨⟨-, -, -, -, -, -, hcode, -, hy, hlen, hl⟩, hin, hse⟩ := cw
  obtain ⟨hx, hb, hml, ho, -⟩ := S
  obtain ⟨-, ⟨cellB, hcB, hoB, hclB⟩, hPc⟩ := hp
  intro T hT X
  rcases vx_callV X hx (C := C) (bytes := bytes) (maxL := maxL) (ret := ret) ho hl hin hse hcode hy hK (by rw [hT]; exact hcB) hoB hclB hg (hsize.trans hml.symm) (argsL := As) (rest := rest) (fun sig h => hn.trans (hlen sig h)) hstack hW (by rw [hb]; exact hdg)
    (fun vm₁ hW₁ => ⟨hf.1, hf.2, hPc (T.setVm vm₁) hT hW₁⟩) with ⟨v, vm₁, ⟨U', l2, c2, s2⟩, hW₁, X', ⟨g', mk, t, L, e1, e2, hq, h1, hL, h2, h3⟩, st⟩ | ⟨q, vm₁, ⟨U', l2, c2, s2⟩, hW₁, X', ⟨g', mk, t, L, E, ce, e1, e2, hq, hce, hcv, hcl, h1, hL, h2, h3⟩, st⟩
  · dsimp only [Pt.U, Pt.locs, Pt.cells, Pt.slots] at X' e1 e2 h1 h2 h3 st
    subst h1; subst h2; subst h3
    exact Or.inl ⟨v, (T.setVm vm₁).calling g' mk (Value.ref b :: As).toArray, t, U', L, hT, X', hL, e1, e2, hq, st⟩
  · dsimp only [Pt.U, Pt.locs, Pt.cells, Pt.slots] at X' e1 e2 h1 h2 h3 st hcl
    subst h1; subst h2; subst h3
    exact Or.inr ⟨q, (T.setVm vm₁).calling g' mk (Value.ref b :: As).toArray, t, U', L, E, ce, hT, X', hL, e1, e2, hq, hce, hcv, vx_cls hW₁ hcl, st⟩
theorem vx_runS (S : CallFix p m c cc nL s args Ts own) (hM : vx_Met l y ws rm Pc Qc XC mc ms free) (cw : CallB R s args own index y bytes maxL ret ws rm mc ms n ∧ (Cond.static y).before args s = true) (hp : PreS s H Pc As)
    (hg : g.method = m) (hn : As.length = n) (hsize : g.locals.size = nL) (hstack : g.stack = As.reverse ++ rest) (hW : 2 * g.monitorRoom + (rest.map fun v => v.category).sum ≤ 8) (hdg : decode cc g.pc = .ok (.invokestatic index, 3)) (hf : cells + mc ≤ R.cells ∧ slots + ms ≤ R.slots) :
    vx_Run p l e R s m args below meth c H locs cells slots mc ms g rest (Qc As.toArray) XC free := by
  have hK : vx_Back l R p e below s args y 3 8 (PreOf R mc ms Pc) (PostOf Qc mc ms free) (vx_Post XC mc ms free) := vx_callBack cw.1 hM hp.1
  obtain ⟨⟨-, -, -, -, -, -, hcode, hini, hy, hlen, hl⟩, hstt⟩ := cw
  obtain ⟨hx, hb, hml, ho, -⟩ := S
  intro T hT X
  rcases vx_callS X hx (bytes := bytes) (maxL := maxL) (ret := ret) ho hl hstt hini hcode hy hK hg (hsize.trans hml.symm) (argsL := As) (rest := rest) (fun sig h => hn.trans (hlen sig h)) hstack hW (by rw [hb]; exact hdg)
    (fun vm₁ hW₁ => ⟨hf.1, hf.2, hp.2 (T.setVm vm₁) hT hW₁⟩) with ⟨v, vm₁, ⟨U', l2, c2, s2⟩, hW₁, X', ⟨g', mk, t, L, e1, e2, hq, h1, hL, h2, h3⟩, st⟩ | ⟨q, vm₁, ⟨U', l2, c2, s2⟩, hW₁, X', ⟨g', mk, t, L, E, ce, e1, e2, hq, hce, hcv, hcl, h1, hL, h2, h3⟩, st⟩
  · dsimp only [Pt.U, Pt.locs, Pt.cells, Pt.slots] at X' e1 e2 h1 h2 h3 st
    subst h1; subst h2; subst h3
    exact Or.inl ⟨v, (T.setVm vm₁).calling g' mk As.toArray, t, U', L, hT, X', hL, e1, e2, hq, st⟩
  · dsimp only [Pt.U, Pt.locs, Pt.cells, Pt.slots] at X' e1 e2 h1 h2 h3 st hcl
    subst h1; subst h2; subst h3
    exact Or.inr ⟨q, (T.setVm vm₁).calling g' mk As.toArray, t, U', L, E, ce, hT, X', hL, e1, e2, hq, hce, hcv, vx_cls hW₁ hcl, st⟩
end Runs
section Rows
variable {p : Program} {l : Launch} {e : Env} {R : Room} {s : State} {m : MethodId} {args : Array Value} {below : List Frame} {meth : Method} {c : Code} {H : Heap} {locs : List Loc} {cells slots : Nat} {Q : State → Prop}
variable {mc ms : Nat} {free : Addr → Prop} {A0 A1 : Nat → Prop} {H0 : Heap} {a : Array Value} {pc : Nat} {ls : Array Slot} {st0 rest : List Value}
theorem vx_keep {st₀ t T' : State} {L : List Loc} (h0 : st₀.heap = H) (e1 : T'.heap = t.heap) (hS : va_S A0 H0 H locs) (hA : ∀ q, q < H.size → A1 q → A0 q) (hf : ∀ q, free q → A0 q) (hL : ∀ q ∈ L, free q.base) (hF : va_F A1 st₀ t) :
    H.size ≤ T'.heap.size ∧ (∀ q : Nat, q < H.size → ¬ A1 q → T'.heap[q]? = H[q]?) ∧ va_S A0 H0 T'.heap (locs ++ L) := by
  obtain ⟨hz, hk⟩ := hF
  rw [h0] at hz hk
  exact ⟨by rw [e1]; exact hz, fun q h1 h2 => by rw [e1]; exact hk q h1 h2,
    ⟨Nat.le_trans hS.1 (by rw [e1]; exact hz), fun q h1 h2 => by rw [e1, hk q (Nat.lt_of_lt_of_le h1 hS.1) (fun z => h2 (hA q (Nat.lt_of_lt_of_le h1 hS.1) z))]; exact hS.2.1 q h1 h2, fun q hq => by
      rcases List.mem_append.mp hq with h | h
      · exact hS.2.2 q h
      · exact hf _ (hL q h)⟩⟩
theorem vx_calli {S SX : Type} {post : Int32 → S → Prop} {px : SX → Prop} {B : S → State → Prop} {BX : String → SX → State → Prop} {AX : Nat → Prop} (hr : vx_Run p l e R s m args below meth c H locs cells slots mc ms (F0 m pc ls st0) rest (va_Qi post B A1 a) (vx_X px BX AX) free) (hS : va_S A0 H0 H locs) (hA : ∀ q, q < H.size → A1 q → A0 q) (hf : ∀ q, free q → A0 q) (hAX : ∀ q, q < H.size → AX q → A0 q)
    (kx : ∀ (E : String) (ce : Cell) (q9 : Addr) (u : SX) (t : State) (H1 : Heap) (locs1 : List Loc), t.heap = H1 → s.vm.Alike t.vm → px u → BX E u t → H.size ≤ H1.size → (∀ q : Nat, q < H.size → ¬ AX q → H1[q]? = H[q]?) → va_S A0 H0 H1 locs1 → H1[q9]? = some ce → ce.vm = .none → s.vm.findClass E = some ce.cls → vx_W p l e R s m args below meth c H1 locs1 (cells + mc) (slots + ms) Q (F0 m pc ls rest) q9)
    (kk : ∀ (r : Int32) (u : S) (t : State) (H1 : Heap) (locs1 : List Loc), t.heap = H1 → s.vm.Alike t.vm → post r u → B u t → H.size ≤ H1.size → (∀ q : Nat, q < H.size → ¬ A1 q → H1[q]? = H[q]?) → va_S A0 H0 H1 locs1 → W p l e R s m args below meth c H1 locs1 (cells + mc) (slots + ms) Q (F0 m (pc + 3) ls (.int r :: rest))) : W p l e R s m args below meth c H locs cells slots Q (F0 m pc ls st0) := by
  intro T hT X
  rcases hr T hT X with ⟨v, st₀, t, T', L, h0, X', hL, e1, e2, ⟨⟨r, u, hv, hp, hb⟩, hF⟩, st⟩ | ⟨q, st₀, t, T', L, E, ce, h0, X', hL, e1, e2, ⟨u, hp, hb, hF⟩, hce, hcv, hcl, st⟩
  · cases hv
    obtain ⟨k1, k2, k3⟩ := vx_keep h0 e1 hS hA hf hL hF
    obtain ⟨t2, a1, b1⟩ := kk r u t T'.heap (locs ++ L) e1.symm (by rw [← e2]; exact X'.warmed.alike) hp hb k1 k2 k3 T' rfl X'
    exact ⟨t2, st t2 a1, b1⟩
  · obtain ⟨k1, k2, k3⟩ := vx_keep h0 e1 hS hAX hf hL hF
    obtain ⟨t2, a1, b1⟩ := kx E ce q u t T'.heap (locs ++ L) e1.symm (by rw [← e2]; exact X'.warmed.alike) hp hb k1 k2 k3 (by rw [e1]; exact hce) hcv hcl T' rfl X'
    exact ⟨t2, st.trans a1, b1⟩
theorem vx_calll {S SX : Type} {post : Int64 → S → Prop} {px : SX → Prop} {B : S → State → Prop} {BX : String → SX → State → Prop} {AX : Nat → Prop} (hr : vx_Run p l e R s m args below meth c H locs cells slots mc ms (F0 m pc ls st0) rest (va_Ql post B A1 a) (vx_X px BX AX) free) (hS : va_S A0 H0 H locs) (hA : ∀ q, q < H.size → A1 q → A0 q) (hf : ∀ q, free q → A0 q) (hAX : ∀ q, q < H.size → AX q → A0 q)
    (kx : ∀ (E : String) (ce : Cell) (q9 : Addr) (u : SX) (t : State) (H1 : Heap) (locs1 : List Loc), t.heap = H1 → s.vm.Alike t.vm → px u → BX E u t → H.size ≤ H1.size → (∀ q : Nat, q < H.size → ¬ AX q → H1[q]? = H[q]?) → va_S A0 H0 H1 locs1 → H1[q9]? = some ce → ce.vm = .none → s.vm.findClass E = some ce.cls → vx_W p l e R s m args below meth c H1 locs1 (cells + mc) (slots + ms) Q (F0 m pc ls rest) q9)
    (kk : ∀ (r : Int64) (u : S) (t : State) (H1 : Heap) (locs1 : List Loc), t.heap = H1 → s.vm.Alike t.vm → post r u → B u t → H.size ≤ H1.size → (∀ q : Nat, q < H.size → ¬ A1 q → H1[q]? = H[q]?) → va_S A0 H0 H1 locs1 → W p l e R s m args below meth c H1 locs1 (cells + mc) (slots + ms) Q (F0 m (pc + 3) ls (.long r :: rest))) : W p l e R s m args below meth c H locs cells slots Q (F0 m pc ls st0) := by
  intro T hT X
  rcases hr T hT X with ⟨v, st₀, t, T', L, h0, X', hL, e1, e2, ⟨⟨r, u, hv, hp, hb⟩, hF⟩, st⟩ | ⟨q, st₀, t, T', L, E, ce, h0, X', hL, e1, e2, ⟨u, hp, hb, hF⟩, hce, hcv, hcl, st⟩
  · cases hv
    obtain ⟨k1, k2, k3⟩ := vx_keep h0 e1 hS hA hf hL hF
    obtain ⟨t2, a1, b1⟩ := kk r u t T'.heap (locs ++ L) e1.symm (by rw [← e2]; exact X'.warmed.alike) hp hb k1 k2 k3 T' rfl X'
    exact ⟨t2, st t2 a1, b1⟩
  · obtain ⟨k1, k2, k3⟩ := vx_keep h0 e1 hS hAX hf hL hF
    obtain ⟨t2, a1, b1⟩ := kx E ce q u t T'.heap (locs ++ L) e1.symm (by rw [← e2]; exact X'.warmed.alike) hp hb k1 k2 k3 (by rw [e1]; exact hce) hcv hcl T' rfl X'
    exact ⟨t2, st.trans a1, b1⟩
theorem vx_callf {S SX : Type} {post : UInt32 → S → Prop} {px : SX → Prop} {B : S → State → Prop} {BX : String → SX → State → Prop} {AX : Nat → Prop} (hr : vx_Run p l e R s m args below meth c H locs cells slots mc ms (F0 m pc ls st0) rest (va_Qf post B A1 a) (vx_X px BX AX) free) (hS : va_S A0 H0 H locs) (hA : ∀ q, q < H.size → A1 q → A0 q) (hf : ∀ q, free q → A0 q) (hAX : ∀ q, q < H.size → AX q → A0 q)
    (kx : ∀ (E : String) (ce : Cell) (q9 : Addr) (u : SX) (t : State) (H1 : Heap) (locs1 : List Loc), t.heap = H1 → s.vm.Alike t.vm → px u → BX E u t → H.size ≤ H1.size → (∀ q : Nat, q < H.size → ¬ AX q → H1[q]? = H[q]?) → va_S A0 H0 H1 locs1 → H1[q9]? = some ce → ce.vm = .none → s.vm.findClass E = some ce.cls → vx_W p l e R s m args below meth c H1 locs1 (cells + mc) (slots + ms) Q (F0 m pc ls rest) q9)
    (kk : ∀ (r : UInt32) (u : S) (t : State) (H1 : Heap) (locs1 : List Loc), t.heap = H1 → s.vm.Alike t.vm → post r u → B u t → H.size ≤ H1.size → (∀ q : Nat, q < H.size → ¬ A1 q → H1[q]? = H[q]?) → va_S A0 H0 H1 locs1 → W p l e R s m args below meth c H1 locs1 (cells + mc) (slots + ms) Q (F0 m (pc + 3) ls (.float r :: rest))) : W p l e R s m args below meth c H locs cells slots Q (F0 m pc ls st0) := by
  intro T hT X
  rcases hr T hT X with ⟨v, st₀, t, T', L, h0, X', hL, e1, e2, ⟨⟨r, u, hv, hp, hb⟩, hF⟩, st⟩ | ⟨q, st₀, t, T', L, E, ce, h0, X', hL, e1, e2, ⟨u, hp, hb, hF⟩, hce, hcv, hcl, st⟩
  · cases hv
    obtain ⟨k1, k2, k3⟩ := vx_keep h0 e1 hS hA hf hL hF
    obtain ⟨t2, a1, b1⟩ := kk r u t T'.heap (locs ++ L) e1.symm (by rw [← e2]; exact X'.warmed.alike) hp hb k1 k2 k3 T' rfl X'
    exact ⟨t2, st t2 a1, b1⟩
  · obtain ⟨k1, k2, k3⟩ := vx_keep h0 e1 hS hAX hf hL hF
    obtain ⟨t2, a1, b1⟩ := kx E ce q u t T'.heap (locs ++ L) e1.symm (by rw [← e2]; exact X'.warmed.alike) hp hb k1 k2 k3 (by rw [e1]; exact hce) hcv hcl T' rfl X'
    exact ⟨t2, st.trans a1, b1⟩
theorem vx_calld {S SX : Type} {post : UInt64 → S → Prop} {px : SX → Prop} {B : S → State → Prop} {BX : String → SX → State → Prop} {AX : Nat → Prop} (hr : vx_Run p l e R s m args below meth c H locs cells slots mc ms (F0 m pc ls st0) rest (va_Qd post B A1 a) (vx_X px BX AX) free) (hS : va_S A0 H0 H locs) (hA : ∀ q, q < H.size → A1 q → A0 q) (hf : ∀ q, free q → A0 q) (hAX : ∀ q, q < H.size → AX q → A0 q)
    (kx : ∀ (E : String) (ce : Cell) (q9 : Addr) (u : SX) (t : State) (H1 : Heap) (locs1 : List Loc), t.heap = H1 → s.vm.Alike t.vm → px u → BX E u t → H.size ≤ H1.size → (∀ q : Nat, q < H.size → ¬ AX q → H1[q]? = H[q]?) → va_S A0 H0 H1 locs1 → H1[q9]? = some ce → ce.vm = .none → s.vm.findClass E = some ce.cls → vx_W p l e R s m args below meth c H1 locs1 (cells + mc) (slots + ms) Q (F0 m pc ls rest) q9)
    (kk : ∀ (r : UInt64) (u : S) (t : State) (H1 : Heap) (locs1 : List Loc), t.heap = H1 → s.vm.Alike t.vm → post r u → B u t → H.size ≤ H1.size → (∀ q : Nat, q < H.size → ¬ A1 q → H1[q]? = H[q]?) → va_S A0 H0 H1 locs1 → W p l e R s m args below meth c H1 locs1 (cells + mc) (slots + ms) Q (F0 m (pc + 3) ls (.double r :: rest))) : W p l e R s m args below meth c H locs cells slots Q (F0 m pc ls st0) := by
  intro T hT X
  rcases hr T hT X with ⟨v, st₀, t, T', L, h0, X', hL, e1, e2, ⟨⟨r, u, hv, hp, hb⟩, hF⟩, st⟩ | ⟨q, st₀, t, T', L, E, ce, h0, X', hL, e1, e2, ⟨u, hp, hb, hF⟩, hce, hcv, hcl, st⟩
  · cases hv
    obtain ⟨k1, k2, k3⟩ := vx_keep h0 e1 hS hA hf hL hF
    obtain ⟨t2, a1, b1⟩ := kk r u t T'.heap (locs ++ L) e1.symm (by rw [← e2]; exact X'.warmed.alike) hp hb k1 k2 k3 T' rfl X'
    exact ⟨t2, st t2 a1, b1⟩
  · obtain ⟨k1, k2, k3⟩ := vx_keep h0 e1 hS hAX hf hL hF
    obtain ⟨t2, a1, b1⟩ := kx E ce q u t T'.heap (locs ++ L) e1.symm (by rw [← e2]; exact X'.warmed.alike) hp hb k1 k2 k3 (by rw [e1]; exact hce) hcv hcl T' rfl X'
    exact ⟨t2, st.trans a1, b1⟩
theorem vx_callv {S SX : Type} {post : S → Prop} {px : SX → Prop} {B : S → State → Prop} {BX : String → SX → State → Prop} {AX : Nat → Prop} (hr : vx_Run p l e R s m args below meth c H locs cells slots mc ms (F0 m pc ls st0) rest (va_Qv post B A1 a) (vx_X px BX AX) free) (hS : va_S A0 H0 H locs) (hA : ∀ q, q < H.size → A1 q → A0 q) (hf : ∀ q, free q → A0 q) (hAX : ∀ q, q < H.size → AX q → A0 q)
    (kx : ∀ (E : String) (ce : Cell) (q9 : Addr) (u : SX) (t : State) (H1 : Heap) (locs1 : List Loc), t.heap = H1 → s.vm.Alike t.vm → px u → BX E u t → H.size ≤ H1.size → (∀ q : Nat, q < H.size → ¬ AX q → H1[q]? = H[q]?) → va_S A0 H0 H1 locs1 → H1[q9]? = some ce → ce.vm = .none → s.vm.findClass E = some ce.cls → vx_W p l e R s m args below meth c H1 locs1 (cells + mc) (slots + ms) Q (F0 m pc ls rest) q9)
    (kk : ∀ (u : S) (t : State) (H1 : Heap) (locs1 : List Loc), t.heap = H1 → s.vm.Alike t.vm → post u → B u t → H.size ≤ H1.size → (∀ q : Nat, q < H.size → ¬ A1 q → H1[q]? = H[q]?) → va_S A0 H0 H1 locs1 → W p l e R s m args below meth c H1 locs1 (cells + mc) (slots + ms) Q (F0 m (pc + 3) ls (rest))) : W p l e R s m args below meth c H locs cells slots Q (F0 m pc ls st0) := by
  intro T hT X
  rcases hr T hT X with ⟨v, st₀, t, T', L, h0, X', hL, e1, e2, ⟨⟨u, hv, hp, hb⟩, hF⟩, st⟩ | ⟨q, st₀, t, T', L, E, ce, h0, X', hL, e1, e2, ⟨u, hp, hb, hF⟩, hce, hcv, hcl, st⟩
  · cases hv
    obtain ⟨k1, k2, k3⟩ := vx_keep h0 e1 hS hA hf hL hF
    obtain ⟨t2, a1, b1⟩ := kk u t T'.heap (locs ++ L) e1.symm (by rw [← e2]; exact X'.warmed.alike) hp hb k1 k2 k3 T' rfl X'
    exact ⟨t2, st t2 a1, b1⟩
  · obtain ⟨k1, k2, k3⟩ := vx_keep h0 e1 hS hAX hf hL hF
    obtain ⟨t2, a1, b1⟩ := kx E ce q u t T'.heap (locs ++ L) e1.symm (by rw [← e2]; exact X'.warmed.alike) hp hb k1 k2 k3 (by rw [e1]; exact hce) hcv hcl T' rfl X'
    exact ⟨t2, st.trans a1, b1⟩
/-- caught by the row x of this method's table; the rows ahead don't take it -/
theorem vx_catch {own name : String} {E : String} {ce : Cell} {q : Addr} (hown : s.vm.findClass own = some m.cls) (pre : List ExceptionTableEntry) (x : ExceptionTableEntry) (suf : List ExceptionTableEntry) (hsplit : c.exceptionTable.toList = pre ++ x :: suf)
    (hpass : ∀ z ∈ pre, covers z pc = false ∨ (z.catchType ≠ 0 ∧ ∃ nm : String, (Cond.classLink own z.catchType nm).before args s = true ∧ va_Nc E nm s)) (hx : covers x pc = true) (h0 : x.catchType ≠ 0)
    (hlink : (Cond.classLink own x.catchType name).before args s = true) (hcast : (Cond.castable E name).before args s = true) (hcell : H[q]? = some ce) (hv : ce.vm = .none) (hcl : s.vm.findClass E = some ce.cls)
    (kk : W p l e R s m args below meth c H locs cells slots Q (F0 m x.handlerPc ls [.ref q])) : vx_W p l e R s m args below meth c H locs cells slots Q (F0 m pc ls rest) q := by
  intro T hT X
  have hpl : e.platform.magicAccessors = ({} : Platform).magicAccessors := by rw [X.admits.platform]
  obtain ⟨c3, c4, hc3, hc4, hasg⟩ := Cond.castable_spec hcast
  cases Option.some.inj (hc3.symm.trans hcl)
  obtain ⟨c5, hc5, hcl5⟩ := Cond.classLink_spec hown hlink e.platform hpl
  cases Option.some.inj (hc4.symm.trans hc5)
  obtain ⟨vm', X', st⟩ := X.thenCaughtThrough q (g := F0 m pc ls rest) rfl (Steps.refl _) (by rw [hT]; exact hcell) (by rw [hv]; rfl) (by obtain ⟨k9, h9, -⟩ := Vm.findClass_spec hcl; exact ⟨k9, h9⟩) pre x suf hsplit
    (fun z hz => by
      rcases hpass z hz with h | ⟨hz0, nm, hl1, hn1⟩
      · exact Or.inl h
      · obtain ⟨c6, hc6, hcl6⟩ := Cond.classLink_spec hown hl1 e.platform hpl
        obtain ⟨a8, b8, h1, h2, h3⟩ := hn1
        cases Option.some.inj (h1.symm.trans hcl)
        cases Option.some.inj (h2.symm.trans hc6)
        exact Or.inr ⟨hz0, _, hcl6, h3⟩) hx (Or.inr ⟨h0, c4, hcl5, hasg⟩)
  obtain ⟨t, a1, b1⟩ := kk (T.setVm vm') hT X'
  exact ⟨t, st.trans a1, b1⟩
end Rows
section Ends
variable {p : Program} {l : Launch} {e : Env} {R : Room} {s : State} {m : MethodId} {args : Array Value} {below : List Frame} {meth : Method} {c : Code} {H : Heap} {locs : List Loc} {cells slots : Nat} {Q : State → Prop}
variable {mc ms : Nat} {free : Addr → Prop} {A0 A1 : Nat → Prop} {H0 : Heap} {a : Array Value} {ls : Array Slot} {st0 rest : List Value}
variable {Qc : Array Value → State → Outcome → State → Prop} {XC : String → State → State → Prop}
/-- what a body that may throw owes at its end -/
def vx_MQ (below : List Frame) (Qc : Array Value → State → Outcome → State → Prop) (XC : String → State → State → Prop) (a : Array Value) (s : State) (mc ms : Nat) (free : Addr → Prop) : State → Prop := fun t =>
  ∃ o, t.status = .running ∧ Ended t below o ∧ vx_Q Qc XC mc ms free a s o t
theorem vx_ret {g : JFrame} {mc ms : Nat} (k : W p l e R s m args below meth c H locs cells slots (MQ below Qc args s mc ms free) g) : W p l e R s m args below meth c H locs cells slots (vx_MQ below Qc XC args s mc ms free) g := by
  intro T hT X
  obtain ⟨t, a1, o, b1, b2, b3, b4⟩ := k T hT X
  exact ⟨t, a1, o, b1, b2, Or.inl ⟨b3, b4⟩⟩
/-- not caught here: it goes on to the caller -/
theorem vx_widen {g : JFrame} {q : Addr} {k n : Nat} (h1 : cells ≤ k) (h2 : slots ≤ n) (kk : vx_W p l e R s m args below meth c H locs k n Q g q) : vx_W p l e R s m args below meth c H locs cells slots Q g q := fun T hT X => kk T hT (stand_widen X h1 h2)
theorem vx_out {pc : Nat} {E : String} {ce : Cell} {q : Addr} {mc ms : Nat} (hout : ∀ x ∈ c.exceptionTable.toList, covers x pc = false) (hlocks : meth.locks = false) (hcell : H[q]? = some ce) (hv : ce.vm = .none) (hcl : s.vm.findClass E = some ce.cls)
    (hx : ∀ t : State, t.heap = H → s.vm.Alike t.vm → XC E s t) (hf : ∀ z ∈ locs, free z.base) (hc : cells ≤ mc) (hs : slots ≤ ms) :
    vx_W p l e R s m args below meth c H locs cells slots (vx_MQ below Qc XC args s mc ms free) (F0 m pc ls rest) q := by
  intro T hT X
  obtain ⟨st1, hrun, hend, hW, hsm⟩ := X.leaveThrown q (g := F0 m pc ls rest) rfl rfl rfl hout hlocks
  have hcell9 : (T.setFrames (.throwing q :: below)).heap[q]? = some ce := by
    show T.heap[q]? = some ce
    rw [hT]; exact hcell
  exact ⟨_, st1, .threw q, hrun, hend, Or.inr ⟨q, rfl, E, ce, locs, hx _ hT hW.alike, hcell9, hv, hcl, hW, hsm.mono hc hs, hf⟩⟩
theorem vx_frame {U : State} {k n : Nat} (h : s.sameButNew ({ U with vm := s.vm } : State) locs k n) : s.heap.size ≤ U.heap.size ∧ ∀ q : Nat, q < s.heap.size → (∀ z ∈ locs, z.base ≠ q) → U.heap[q]? = s.heap[q]? := by
  obtain ⟨-, h2, -, -, -, h6⟩ := h
  refine ⟨h2, fun q hq hz => ?_⟩
  obtain ⟨c9, e1, e2, e3, e4⟩ := h6 q _ (Array.getElem?_eq_getElem hq)
  have hs : c9.slots = (s.heap[q]).slots := Array.ext_getElem? fun i => e4 i fun hm => hz _ hm rfl
  have h9 : c9 = s.heap[q] := by
    rw [hs] at e2
    exact e2
  have e5 : U.heap[q]? = some c9 := e1
  rw [e5, h9, Array.getElem?_eq_getElem hq]
/-- the words of a throw but the four that speak of the heap -/
def vx_no (w : Cond) : Bool := decide (w ≠ .isRef (.static Bundle.tN "UNASSIGNED_STACK" Bundle.steD)) && decide (w ≠ .isRef (.static Bundle.tN "SUPPRESSED_SENTINEL" Bundle.listD)) && decide (w ≠ .laysStatic Bundle.tN "UNASSIGNED_STACK" Bundle.steD) && decide (w ≠ .laysStatic Bundle.tN "SUPPRESSED_SENTINEL" Bundle.listD)
def vx_at0 (own : String) (ic : Nat) (X : String) (names : List String) : List Cond := (Bundle.ownAtoms0 own ic X names).filter vx_no
def vx_atS (own : String) (ic : Nat) (X : String) (names : List String) : List Cond := (Bundle.ownAtoms own ic X names).filter vx_no
/-- a word that the tables alone decide, or a good one -/
def vx_ot (w : Cond) : Bool := w.onTables || goodWord w
theorem vx_ot_at {args a' : Array Value} {s U : State} {w : Cond} (hW : s.WarmedH U.vm) (hvm : s.vm = U.vm) (hg : vx_ot w = true) (h : w.before args s = true) : w.before a' U = true := by
  simp only [vx_ot, Bool.or_eq_true] at hg
  rcases hg with hg | hg
  · exact va_tabs hg hvm h
  · exact word_at hW (good_of_word hg) h
/-- a list's words: the good ones out of the method's own list, the others by premises of their own -/
theorem vx_hat {args : Array Value} {s : State} {L B : List Cond} (h1 : ∀ w ∈ L.filter goodWord, w.before args s = true) (h2 : ∀ w ∈ L.filter (fun w => !goodWord w), w ∈ B) (h3 : ∀ w ∈ B, w.before args s = true) : ∀ w ∈ L, w.before args s = true := by
  intro w hw
  by_cases g : goodWord w = true
  · exact h1 w (List.mem_filter.mpr ⟨hw, g⟩)
  · refine h3 w (h2 w (List.mem_filter.mpr ⟨hw, ?_⟩))
    show (!goodWord w) = true
    cases hgw : goodWord w
    · rfl
    · exact absurd hgw g
theorem vx_c {args : Array Value} {s : State} {w : Cond} {B : List Cond} (h : w.before args s = true) (t : ∀ w ∈ B, w.before args s = true) : ∀ w' ∈ w :: B, w'.before args s = true := fun w' h' => (List.mem_cons.mp h').elim (fun e => by rw [e]; exact h) (t w')
theorem vx_n {args : Array Value} {s : State} : ∀ w ∈ ([] : List Cond), w.before args s = true := fun _ h => nomatch h
theorem vx_own {args : Array Value} {s : State} {L : List Cond} (h1 : ∀ w ∈ L.filter vx_no, w.before args s = true)
    (hU : (Cond.isRef (.static Bundle.tN "UNASSIGNED_STACK" Bundle.steD)).before args s = true) (hN : (Cond.isRef (.static Bundle.tN "SUPPRESSED_SENTINEL" Bundle.listD)).before args s = true)
    (lU : (Cond.laysStatic Bundle.tN "UNASSIGNED_STACK" Bundle.steD).before args s = true) (lN : (Cond.laysStatic Bundle.tN "SUPPRESSED_SENTINEL" Bundle.listD).before args s = true) : ∀ w ∈ L, w.before args s = true := by
  intro w hw
  by_cases e1 : w = .isRef (.static Bundle.tN "UNASSIGNED_STACK" Bundle.steD)
  · rw [e1]; exact hU
  · by_cases e2 : w = .isRef (.static Bundle.tN "SUPPRESSED_SENTINEL" Bundle.listD)
    · rw [e2]; exact hN
    · by_cases e3 : w = .laysStatic Bundle.tN "UNASSIGNED_STACK" Bundle.steD
      · rw [e3]; exact lU
      · by_cases e4 : w = .laysStatic Bundle.tN "SUPPRESSED_SENTINEL" Bundle.listD
        · rw [e4]; exact lN
        · exact h1 w (List.mem_filter.mpr ⟨hw, by unfold vx_no; rw [decide_eq_true e1, decide_eq_true e2, decide_eq_true e3, decide_eq_true e4]; rfl⟩)
/-- where a static field lies, its class's statics cell in H -/
def vx_L (C n d : String) (A : Nat → Prop) (U : State) (H : Heap) : Prop := ∃ (c : ClassId) (k : Class) (i : Nat) (f : Field) (a : Nat) (cell : Cell), U.vm.findClass C = some c ∧ U.fieldFound? C n d = some (c, k, i, f) ∧ f.isStatic = true ∧ k.statics = some a ∧ H[a]? = some cell ∧ cell.vm.isStatics = true ∧ cell.cls = c ∧ f.slot < cell.slots.size ∧ k.staticTypes[f.slot]? = some f.type ∧ ¬ A a
theorem vx_L.moved {C n d : String} {A : Nat → Prop} {u U : State} {H : Heap} (hvm : u.vm.Alike U.vm) (h : vx_L C n d A u H) : vx_L C n d A U H := by
  obtain ⟨c, k, i, f, a, cell, h1, h2, h3, h4, h5, h6, h7, h8, h9, h10⟩ := h
  obtain ⟨k', hi', he⟩ := State.fieldFound?_setVm hvm h2
  exact ⟨c, k', i, f, a, cell, by rw [hvm.findClass]; exact h1, hi', h3, by rw [he]; exact h4, h5, h6, h7, h8, by rw [he]; exact h9, h10⟩
theorem vx_L.kept {C n d : String} {A : Nat → Prop} {U : State} {H H1 : Heap} (h : vx_L C n d A U H) (hq : ∀ a : Nat, a < H.size → ¬ A a → H1[a]? = H[a]?) : vx_L C n d A U H1 := by
  obtain ⟨c, k, i, f, a, cell, h1, h2, h3, h4, h5, h6, h7, h8, h9, h10⟩ := h
  exact ⟨c, k, i, f, a, cell, h1, h2, h3, h4, by rw [hq a (Array.getElem?_eq_some_iff.mp h5).1 h10]; exact h5, h6, h7, h8, h9, h10⟩
theorem vx_L.narrow {C n d : String} {A B : Nat → Prop} {U : State} {H : Heap} (h : vx_L C n d A U H) (hAB : ∀ q, B q → A q) : vx_L C n d B U H := by
  obtain ⟨c, k, i, f, a, cell, h1, h2, h3, h4, h5, h6, h7, h8, h9, h10⟩ := h
  exact ⟨c, k, i, f, a, cell, h1, h2, h3, h4, h5, h6, h7, h8, h9, fun z => h10 (hAB _ z)⟩
theorem vx_L.word {C n d : String} {A : Nat → Prop} {s : State} {args : Array Value} (h : vx_L C n d A s s.heap) : (Cond.laysStatic C n d).before args s = true := by
  obtain ⟨c, k, i, f, a, cell, h1, h2, h3, h4, h5, h6, h7, h8, h9, -⟩ := h
  show (Cond.laysStatic C n d).holds args s none s [] = true
  exact Cond.laysStatic_of h1 h2 h3 h4 h5 h6 h7 h8 h9
/-- .. and what it holds: null or some reference -/
def vx_Zq (C n d : String) (A : Nat → Prop) (U : State) (H : Heap) : Prop := va_Zq C n d A U H ∧ vx_L C n d A U H
theorem vx_Zq.moved {C n d : String} {A : Nat → Prop} {u U : State} {H : Heap} (hvm : u.vm.Alike U.vm) (h : vx_Zq C n d A u H) : vx_Zq C n d A U H := ⟨va_Zq.moved hvm h.1, vx_L.moved hvm h.2⟩
theorem vx_Zq.kept {C n d : String} {A : Nat → Prop} {U : State} {H H1 : Heap} (h : vx_Zq C n d A U H) (hq : ∀ a : Nat, a < H.size → ¬ A a → H1[a]? = H[a]?) : vx_Zq C n d A U H1 := ⟨va_Zq.kept h.1 hq, vx_L.kept h.2 hq⟩
theorem vx_Zq.narrow {C n d : String} {A B : Nat → Prop} {U : State} {H : Heap} (h : vx_Zq C n d A U H) (hAB : ∀ q, B q → A q) : vx_Zq C n d B U H := ⟨va_Zq.narrow h.1 hAB, vx_L.narrow h.2 hAB⟩
theorem vx_Zqof {args : Array Value} {s : State} {C n d : String} {A : Nat → Prop} (hl : (Cond.laysStatic C n d).before args s = true) (hini : (Cond.initialized C).before args s = true) (h : (Cond.isRef (.static C n d)).before args s = true) (hA : ∀ a : Nat, a < s.heap.size → ¬ A a) : vx_Zq C n d A s s.heap := by
  refine ⟨va_Zqof hl hini h hA, ?_⟩
  obtain ⟨c, k, i, f, a, cell, h1, h2, h3, h4, h5, h6, h7, h8, h9⟩ := Cond.laysStatic_spec hl
  exact ⟨c, k, i, f, a, cell, h1, h2, h3, h4, h5, h6, h7, h8, h9, hA a (Array.getElem?_eq_some_iff.mp h5).1⟩
theorem vx_isRef {C n d : String} {v : Value} {A : Nat → Prop} {s : State} {args : Array Value} (h : va_Z C n d v A s s.heap) (hv : v.isRef = true) : (Cond.isRef (.static C n d)).before args s = true := by
  obtain ⟨cf, kf, fi, f, a, cell, h1, h2, h3, h4, h5, h6, h7, -⟩ := h
  have he : (Term.static C n d).eval args s none [] s = some v := by
    simp [Term.eval, State.fieldNamed?, h1, h2, h4, h5, h6, h7]
  simp only [Cond.before, Cond.holds, Cond.value, he]
  cases v <;> simp_all [Value.isRef]
theorem vx_isRefq {C n d : String} {A : Nat → Prop} {s : State} {args : Array Value} (h : va_Zq C n d A s s.heap) : (Cond.isRef (.static C n d)).before args s = true := by
  rcases h with h | ⟨t, h⟩
  · exact vx_isRef h rfl
  · exact vx_isRef h rfl
/-- the same frame, seen from here: as if the method were called anew in this heap -/
theorem vx_rebase {T : State} (X : Stand p l e R s m args below meth c T locs cells slots) {R' : Room} (hf : R'.frames ≤ R.frames) (hl : R'.locals ≤ R.locals) (hc : cells + R'.cells ≤ R.cells) (hs : slots + R'.slots ≤ R.slots) :
    Stand p l e R' ((T.setVm s.vm).setFrames (.invoking m args :: below)) m args below meth c T [] 0 0 := by
  have htop : (T.setVm s.vm).topJava?.isSome := X.here.top
  have hF : ((T.setVm s.vm).setFrames (.invoking m args :: below)).frames = .invoking m args :: below := State.frames_setFrames _ (State.cur_lt_of_top htop)
  obtain ⟨g₀, hg0⟩ := Option.isSome_iff_exists.mp htop
  obtain ⟨r, hr⟩ := State.topJava?_eq_some.mp hg0
  have hl9 : e.platform.stackLimits (T.setVm s.vm).me = e.platform.stackLimits s.me := X.limits
  have hb9 : (T.setVm s.vm).me.stackBytes = s.me.stackBytes := X.bytes
  refine ⟨X.admits, X.cas, X.clock, hF, ?_, X.hears, X.method, X.code, X.here, X.tail, X.warmed, ?_, ?_, ?_⟩
  · have h := X.room
    have hU : ((T.setVm s.vm).setFrames (.invoking m args :: below)).localsInUse = s.localsInUse := by
      rw [State.localsInUse_invoking hF (meth := meth) (c := c) X.method X.code, State.localsInUse_invoking X.frames X.method X.code]
    simp only [State.hasRoom, Bool.and_eq_true, decide_eq_true_eq] at h ⊢
    obtain ⟨⟨⟨⟨h1, h2, h3, h4, h5, h6⟩, h7⟩, h8⟩, h9⟩ := h
    rw [X.frames, List.length_cons] at h2 h3
    have q1 := X.heapSize
    have q2 := X.used
    simp only [hF, hU, List.length_cons, State.stackLimits_setFrames, State.stackBytes_setFrames, hl9, hb9]
    refine ⟨⟨⟨⟨by omega, by omega, by omega, by omega, by omega, h6⟩, ?_⟩, ?_⟩, X.book⟩
    · show T.heap.size + R'.cells ≤ e.platform.maxCells
      omega
    · show T.slotsUsed + R'.slots ≤ e.platform.maxSlots
      omega
  · rw [State.stackLimits_setFrames]; rfl
  · rw [State.stackBytes_setFrames]; rfl
  · refine ⟨?_, Nat.le_refl _, Nat.le_refl _, ?_, ?_, fun a c9 h9 => ⟨c9, h9, rfl, rfl, fun _ _ => rfl⟩⟩
    · obtain ⟨t, ht, -⟩ := State.frames_cons hr
      show T.setVm s.vm = { ((T.setVm s.vm).setFrames (.invoking m args :: below)).setFrames (T.setVm s.vm).frames with heap := T.heap, slotsUsed := T.slotsUsed }
      rw [State.setFrames_setFrames, State.setFrames_self ht]
      rfl
    · show T.slotsUsed = T.slotsUsed + ((T.heap.toList.drop T.heap.size).map (·.slots.size)).sum
      rw [List.drop_eq_nil_of_le (Nat.le_of_eq Array.length_toList)]
      rfl
    · show ((T.heap.toList.drop T.heap.size).map (·.slots.size)).sum ≤ 0
      rw [List.drop_eq_nil_of_le (Nat.le_of_eq Array.length_toList)]
      exact Nat.le_refl _
/-- 'throw new E()': new; dup; invokespecial; athrow -/
theorem vx_throw0 {cc : ByteArray} {pc : Nat} (hexec : p.tables.exec = Jvm.exec) (hb : c.code = cc) (hl : l.stackTraces = false) {own cls : String} {names : List String} {ik ic mc ms : Nat} {A : Nat → Prop}
    (hown : s.vm.findClass own = some m.cls) (hcls : Bundle.fit cls = true) (hnames : ∀ n ∈ names, Bundle.fit n = true)
    (hk : (Cond.classLink own ik cls).before args s = true) (hini : (Cond.initialized cls).before args s = true) (hat : ∀ w ∈ vx_at0 own ic cls names, w.before args s = true)
    (hgood : ∀ w ∈ Cond.classLink own ik cls :: Cond.initialized cls :: vx_at0 own ic cls names, vx_ot w = true)
    (hU : vx_Zq Bundle.tN "UNASSIGNED_STACK" Bundle.steD A s s.heap) (hN : vx_Zq Bundle.tN "SUPPRESSED_SENTINEL" Bundle.listD A s s.heap) (hS : va_S A s.heap H locs) (hsize : ls.size = c.maxLocals)
    (d0 : decode cc pc = .ok (.new ik, 3)) (d3 : decode cc (pc + 3) = .ok (.dup, 1)) (d4 : decode cc (pc + 4) = .ok (.invokespecial ic, 3)) (d7 : decode cc (pc + 7) = .ok (.athrow, 1))
    (hout : ∀ x ∈ c.exceptionTable.toList, covers x (pc + 7) = false)
    (hRframes : names.length + 3 < R.frames) (hRlocals : (rest.map fun v => v.category).sum + (13 * (names.length + 1) + 42) ≤ R.locals) (hRcells : cells + 1 ≤ R.cells) (hRslots : slots + 6 ≤ R.slots) (hlocks : meth.locks = false)
    (hx : ∀ t : State, s.vm.Alike t.vm → H.size ≤ t.heap.size → (∀ q : Nat, q < H.size → t.heap[q]? = H[q]?) → XC cls s t)
    (hf : ∀ z ∈ locs, free z.base) (hc : cells + 1 ≤ mc) (hs : slots + 6 ≤ ms) :
    W p l e R s m args below meth c H locs cells slots (vx_MQ below Qc XC args s mc ms free) (F0 m pc ls rest) := by
  intro T hT X
  have htr : e.platform.stackTraces = false := (show e.platform.stackTraces = l.stackTraces by rw [X.admits.platform]).trans hl
  have Y := vx_rebase X (R' := { frames := R.frames, locals := R.locals, cells := 1, slots := 6 }) (Nat.le_refl _) (Nat.le_refl _) hRcells hRslots
  obtain ⟨s', hA⟩ : ∃ z, z = (T.setVm s.vm).setFrames (.invoking m args :: below) := ⟨_, rfl⟩
  rw [← hA] at Y
  have hvm : s'.vm = s.vm := by rw [hA]; rfl
  have hhp : s'.heap = H := by rw [hA]; exact hT
  have hW0 : s.WarmedH s'.vm := by rw [hvm]; exact State.WarmedH.refl s
  have hat' : ∀ w ∈ vx_at0 own ic cls names, w.before args s' = true := fun w hw => vx_ot_at hW0 hvm.symm (hgood w (List.mem_cons_of_mem _ (List.mem_cons_of_mem _ hw))) (hat w hw)
  have hk' : (Cond.classLink own ik cls).before args s' = true := vx_ot_at hW0 hvm.symm (hgood _ List.mem_cons_self) hk
  have hini' : (Cond.initialized cls).before args s' = true := vx_ot_at hW0 hvm.symm (hgood _ (List.mem_cons_of_mem _ List.mem_cons_self)) hini
  have hU' : vx_Zq Bundle.tN "UNASSIGNED_STACK" Bundle.steD A s' s'.heap := by rw [hhp]; exact vx_Zq.moved hW0.alike (hU.kept hS.2.1)
  have hN' : vx_Zq Bundle.tN "SUPPRESSED_SENTINEL" Bundle.listD A s' s'.heap := by rw [hhp]; exact vx_Zq.moved hW0.alike (hN.kept hS.2.1)
  have h : ∀ w ∈ Bundle.ownAtoms0 own ic cls names, w.before args s' = true := vx_own hat' (vx_isRefq hU'.1) (vx_isRefq hN'.1) hU'.2.word hN'.2.word
  have hown' : s'.vm.findClass own = some m.cls := by rw [hvm]; exact hown
  have hins : (Cond.instantiable cls 6).before args s' = true := h _ (by simp [Bundle.ownAtoms0])
  obtain ⟨vm₁, cX, kX, hfX, hkX, -, -, X₁, st1⟩ := Y.newCold hexec (own := own) (C := cls) (index := ik) (n := 6) hown' hk' hins hini'
    (g := F0 m pc ls rest) rfl (by rw [hb]; exact d0) (Nat.le_refl _) (Nat.le_refl _)
  generalize hT1 : (T.setVm vm₁).pushCell { cls := cX, slots := kX.instanceTypes.map defaultValue, vm := .none } = T1 at X₁ st1
  have hcat : (Value.ref T.heap.size).category = 1 := rfl
  have hcellA : T1.heap[T.heap.size]? = some (freshCell cX kX) := by rw [← hT1]; exact State.heap_pushCell_size _ _
  have d3' : decode c.code (pc + 3) = .ok (.dup, 1) := by rw [hb]; exact d3
  obtain ⟨U, hsteps, hrun, hend, hW, hsame, ce, hce, hO⟩ := X₁.ctorThrow0 hexec htr (own := own) (cls := cls) (names := names) (ic := ic) hown' hcls hnames h (fun x hx => nomatch hx) hfX hkX hcellA (by rw [hhp, hT]; exact Nat.le_refl _)
    (g := { method := m, pc := pc + 4, locals := ls, stack := .ref T.heap.size :: .ref T.heap.size :: rest, locked := none }) rfl hsize rfl rfl (rest := rest) rfl
    (by rw [hb]; exact d4) (by rw [hb]; exact d7) hout hRframes (by simp only [List.map_cons, List.sum_cons, hcat]; omega) hlocks
  obtain ⟨f1, f2⟩ := vx_frame hsame
  rw [hhp] at f1 f2
  have hWs : s.WarmedH U.vm := State.WarmedH.trans hW0 hW
  have hcl : s.vm.findClass cls = some ce.cls := by
    have h9 := hO.cls
    rw [hvm] at h9
    exact h9
  have hall : s.sameButNew ({ U with vm := s.vm } : State) locs mc ms := by
    subst hA
    obtain ⟨e1, e2⟩ := hsame
    rw [State.setFrames_setFrames] at e1
    have h2 : (T.setVm s.vm).sameButNew ({ U with vm := s.vm } : State) [] (0 + 1) (0 + 6) := ⟨e1, e2⟩
    have h3 := X.same.trans h2
    rw [List.append_nil] at h3
    exact h3.mono hc hs
  refine ⟨U, ?_, .threw T.heap.size, hrun, hend, Or.inr ⟨T.heap.size, rfl, cls, ce, locs, hx U hWs.alike f1 (fun q hq => f2 q hq (fun z hz => nomatch hz)), hce, hO.vm, hcl, hWs, hall, hf⟩⟩
  refine st1 _ ?_
  show Steps p.tables e below (T1.setTop { method := m, pc := pc + 3, locals := ls, stack := .ref T.heap.size :: rest, locked := none }) _
  jvm_step X₁.here [X₁.here.top, hexec, d3', Value.category]
  exact hsteps
/-- 'throw new E("text")': new; dup; ldc; invokespecial; athrow -/
theorem vx_throwS {cc : ByteArray} {pc : Nat} (hexec : p.tables.exec = Jvm.exec) (hb : c.code = cc) (hl : l.stackTraces = false) {own cls text : String} {names : List String} {ik is ic mc ms sa : Nat} {A : Nat → Prop}
    (hown : s.vm.findClass own = some m.cls) (hcls : Bundle.fit cls = true) (hnames : ∀ n ∈ names, Bundle.fit n = true)
    (hk : (Cond.classLink own ik cls).before args s = true) (hini : (Cond.initialized cls).before args s = true) (hstr : vk_R own is text sa s) (hat : ∀ w ∈ vx_atS own ic cls names, w.before args s = true)
    (hgood : ∀ w ∈ Cond.classLink own ik cls :: Cond.initialized cls :: vx_atS own ic cls names, vx_ot w = true)
    (hU : vx_Zq Bundle.tN "UNASSIGNED_STACK" Bundle.steD A s s.heap) (hN : vx_Zq Bundle.tN "SUPPRESSED_SENTINEL" Bundle.listD A s s.heap) (hS : va_S A s.heap H locs) (hsize : ls.size = c.maxLocals)
    (d0 : decode cc pc = .ok (.new ik, 3)) (d3 : decode cc (pc + 3) = .ok (.dup, 1)) (d4 : decode cc (pc + 4) = .ok (.ldc is, 2)) (d6 : decode cc (pc + 6) = .ok (.invokespecial ic, 3)) (d9 : decode cc (pc + 9) = .ok (.athrow, 1))
    (hout : ∀ x ∈ c.exceptionTable.toList, covers x (pc + 9) = false)
    (hRframes : names.length + 3 < R.frames) (hRlocals : (rest.map fun v => v.category).sum + (13 * (names.length + 1) + 43) ≤ R.locals) (hRcells : cells + 1 ≤ R.cells) (hRslots : slots + 6 ≤ R.slots) (hlocks : meth.locks = false)
    (hx : ∀ t : State, s.vm.Alike t.vm → H.size ≤ t.heap.size → (∀ q : Nat, q < H.size → t.heap[q]? = H[q]?) → XC cls s t)
    (hf : ∀ z ∈ locs, free z.base) (hc : cells + 1 ≤ mc) (hs : slots + 6 ≤ ms) :
    W p l e R s m args below meth c H locs cells slots (vx_MQ below Qc XC args s mc ms free) (F0 m pc ls rest) := by
  intro T hT X
  have htr : e.platform.stackTraces = false := (show e.platform.stackTraces = l.stackTraces by rw [X.admits.platform]).trans hl
  have Y := vx_rebase X (R' := { frames := R.frames, locals := R.locals, cells := 1, slots := 6 }) (Nat.le_refl _) (Nat.le_refl _) hRcells hRslots
  obtain ⟨s', hA⟩ : ∃ z, z = (T.setVm s.vm).setFrames (.invoking m args :: below) := ⟨_, rfl⟩
  rw [← hA] at Y
  have hvm : s'.vm = s.vm := by rw [hA]; rfl
  have hhp : s'.heap = H := by rw [hA]; exact hT
  have hW0 : s.WarmedH s'.vm := by rw [hvm]; exact State.WarmedH.refl s
  have hat' : ∀ w ∈ vx_atS own ic cls names, w.before args s' = true := fun w hw => vx_ot_at hW0 hvm.symm (hgood w (List.mem_cons_of_mem _ (List.mem_cons_of_mem _ hw))) (hat w hw)
  have hk' : (Cond.classLink own ik cls).before args s' = true := vx_ot_at hW0 hvm.symm (hgood _ List.mem_cons_self) hk
  have hini' : (Cond.initialized cls).before args s' = true := vx_ot_at hW0 hvm.symm (hgood _ (List.mem_cons_of_mem _ List.mem_cons_self)) hini
  have hU' : vx_Zq Bundle.tN "UNASSIGNED_STACK" Bundle.steD A s' s'.heap := by rw [hhp]; exact vx_Zq.moved hW0.alike (hU.kept hS.2.1)
  have hN' : vx_Zq Bundle.tN "SUPPRESSED_SENTINEL" Bundle.listD A s' s'.heap := by rw [hhp]; exact vx_Zq.moved hW0.alike (hN.kept hS.2.1)
  have h : ∀ w ∈ Bundle.ownAtoms own ic cls names, w.before args s' = true := vx_own hat' (vx_isRefq hU'.1) (vx_isRefq hN'.1) hU'.2.word hN'.2.word
  have hown' : s'.vm.findClass own = some m.cls := by rw [hvm]; exact hown
  have hins : (Cond.instantiable cls 6).before args s' = true := h _ (by simp [Bundle.ownAtoms])
  obtain ⟨vm₁, cX, kX, hfX, hkX, -, -, X₁, st1⟩ := Y.newCold hexec (own := own) (C := cls) (index := ik) (n := 6) hown' hk' hins hini'
    (g := F0 m pc ls rest) rfl (by rw [hb]; exact d0) (Nat.le_refl _) (Nat.le_refl _)
  generalize hT1 : (T.setVm vm₁).pushCell { cls := cX, slots := kX.instanceTypes.map defaultValue, vm := .none } = T1 at X₁ st1
  have hcat : (Value.ref T.heap.size).category = 1 := rfl
  have hcellA : T1.heap[T.heap.size]? = some (freshCell cX kX) := by rw [← hT1]; exact State.heap_pushCell_size _ _
  have d3' : decode c.code (pc + 3) = .ok (.dup, 1) := by rw [hb]; exact d3
  have d4' : decode c.code (pc + 4) = .ok (.ldc is, 2) := by rw [hb]; exact d4
  have hstr' : vk_R own is text sa s' := vk_R.warm hW0 hstr
  obtain ⟨U, hsteps, hrun, hend, hW, hsame, ce, hce, hO⟩ := X₁.ctorThrowS hexec htr (own := own) (cls := cls) (names := names) (ic := ic) hown' hcls hnames h (fun x hx => nomatch hx) hfX hkX hcellA (by rw [hhp, hT]; exact Nat.le_refl _) (msg := .ref sa) rfl
    (g := { method := m, pc := pc + 6, locals := ls, stack := .ref sa :: .ref T.heap.size :: .ref T.heap.size :: rest, locked := none }) rfl hsize rfl rfl (rest := rest) rfl
    (by rw [hb]; exact d6) (by rw [hb]; exact d9) hout hRframes (by simp only [List.map_cons, List.sum_cons, hcat]; omega) hlocks
  obtain ⟨f1, f2⟩ := vx_frame hsame
  rw [hhp] at f1 f2
  have hWs : s.WarmedH U.vm := State.WarmedH.trans hW0 hW
  have hcl : s.vm.findClass cls = some ce.cls := by
    have h9 := hO.cls
    rw [hvm] at h9
    exact h9
  have hall : s.sameButNew ({ U with vm := s.vm } : State) locs mc ms := by
    subst hA
    obtain ⟨e1, e2⟩ := hsame
    rw [State.setFrames_setFrames] at e1
    have h2 : (T.setVm s.vm).sameButNew ({ U with vm := s.vm } : State) [] (0 + 1) (0 + 6) := ⟨e1, e2⟩
    have h3 := X.same.trans h2
    rw [List.append_nil] at h3
    exact h3.mono hc hs
  refine ⟨U, ?_, .threw T.heap.size, hrun, hend, Or.inr ⟨T.heap.size, rfl, cls, ce, locs, hx U hWs.alike f1 (fun q hq => f2 q hq (fun z hz => nomatch hz)), hce, hO.vm, hcl, hWs, hall, hf⟩⟩
  refine st1 _ ?_
  show Steps p.tables e below (T1.setTop { method := m, pc := pc + 3, locals := ls, stack := .ref T.heap.size :: rest, locked := none }) _
  jvm_step X₁.here [X₁.here.top, hexec, d3', Value.category]
  exact X₁.ldcString hexec (own := own) (text := text) (index := is) (a := sa) hown' hstr'.1 hstr'.2
    (g := { method := m, pc := pc + 4, locals := ls, stack := .ref T.heap.size :: .ref T.heap.size :: rest, locked := none }) rfl d4' _ hsteps
/-- 'throw new E("text")', the text by a wide index -/
theorem vx_throwSW {cc : ByteArray} {pc : Nat} (hexec : p.tables.exec = Jvm.exec) (hb : c.code = cc) (hl : l.stackTraces = false) {own cls text : String} {names : List String} {ik is ic mc ms sa : Nat} {A : Nat → Prop}
    (hown : s.vm.findClass own = some m.cls) (hcls : Bundle.fit cls = true) (hnames : ∀ n ∈ names, Bundle.fit n = true)
    (hk : (Cond.classLink own ik cls).before args s = true) (hini : (Cond.initialized cls).before args s = true) (hstr : vk_R own is text sa s) (hat : ∀ w ∈ vx_atS own ic cls names, w.before args s = true)
    (hgood : ∀ w ∈ Cond.classLink own ik cls :: Cond.initialized cls :: vx_atS own ic cls names, vx_ot w = true)
    (hU : vx_Zq Bundle.tN "UNASSIGNED_STACK" Bundle.steD A s s.heap) (hN : vx_Zq Bundle.tN "SUPPRESSED_SENTINEL" Bundle.listD A s s.heap) (hS : va_S A s.heap H locs) (hsize : ls.size = c.maxLocals)
    (d0 : decode cc pc = .ok (.new ik, 3)) (d3 : decode cc (pc + 3) = .ok (.dup, 1)) (d4 : decode cc (pc + 4) = .ok (.ldc_w is, 3)) (d7 : decode cc (pc + 7) = .ok (.invokespecial ic, 3)) (d10 : decode cc (pc + 10) = .ok (.athrow, 1))
    (hout : ∀ x ∈ c.exceptionTable.toList, covers x (pc + 10) = false)
    (hRframes : names.length + 3 < R.frames) (hRlocals : (rest.map fun v => v.category).sum + (13 * (names.length + 1) + 43) ≤ R.locals) (hRcells : cells + 1 ≤ R.cells) (hRslots : slots + 6 ≤ R.slots) (hlocks : meth.locks = false)
    (hx : ∀ t : State, s.vm.Alike t.vm → H.size ≤ t.heap.size → (∀ q : Nat, q < H.size → t.heap[q]? = H[q]?) → XC cls s t)
    (hf : ∀ z ∈ locs, free z.base) (hc : cells + 1 ≤ mc) (hs : slots + 6 ≤ ms) :
    W p l e R s m args below meth c H locs cells slots (vx_MQ below Qc XC args s mc ms free) (F0 m pc ls rest) := by
  intro T hT X
  have htr : e.platform.stackTraces = false := (show e.platform.stackTraces = l.stackTraces by rw [X.admits.platform]).trans hl
  have Y := vx_rebase X (R' := { frames := R.frames, locals := R.locals, cells := 1, slots := 6 }) (Nat.le_refl _) (Nat.le_refl _) hRcells hRslots
  obtain ⟨s', hA⟩ : ∃ z, z = (T.setVm s.vm).setFrames (.invoking m args :: below) := ⟨_, rfl⟩
  rw [← hA] at Y
  have hvm : s'.vm = s.vm := by rw [hA]; rfl
  have hhp : s'.heap = H := by rw [hA]; exact hT
  have hW0 : s.WarmedH s'.vm := by rw [hvm]; exact State.WarmedH.refl s
  have hat' : ∀ w ∈ vx_atS own ic cls names, w.before args s' = true := fun w hw => vx_ot_at hW0 hvm.symm (hgood w (List.mem_cons_of_mem _ (List.mem_cons_of_mem _ hw))) (hat w hw)
  have hk' : (Cond.classLink own ik cls).before args s' = true := vx_ot_at hW0 hvm.symm (hgood _ List.mem_cons_self) hk
  have hini' : (Cond.initialized cls).before args s' = true := vx_ot_at hW0 hvm.symm (hgood _ (List.mem_cons_of_mem _ List.mem_cons_self)) hini
  have hU' : vx_Zq Bundle.tN "UNASSIGNED_STACK" Bundle.steD A s' s'.heap := by rw [hhp]; exact vx_Zq.moved hW0.alike (hU.kept hS.2.1)
  have hN' : vx_Zq Bundle.tN "SUPPRESSED_SENTINEL" Bundle.listD A s' s'.heap := by rw [hhp]; exact vx_Zq.moved hW0.alike (hN.kept hS.2.1)
  have h : ∀ w ∈ Bundle.ownAtoms own ic cls names, w.before args s' = true := vx_own hat' (vx_isRefq hU'.1) (vx_isRefq hN'.1) hU'.2.word hN'.2.word
  have hown' : s'.vm.findClass own = some m.cls := by rw [hvm]; exact hown
  have hins : (Cond.instantiable cls 6).before args s' = true := h _ (by simp [Bundle.ownAtoms])
  obtain ⟨vm₁, cX, kX, hfX, hkX, -, -, X₁, st1⟩ := Y.newCold hexec (own := own) (C := cls) (index := ik) (n := 6) hown' hk' hins hini'
    (g := F0 m pc ls rest) rfl (by rw [hb]; exact d0) (Nat.le_refl _) (Nat.le_refl _)
  generalize hT1 : (T.setVm vm₁).pushCell { cls := cX, slots := kX.instanceTypes.map defaultValue, vm := .none } = T1 at X₁ st1
  have hcat : (Value.ref T.heap.size).category = 1 := rfl
  have hcellA : T1.heap[T.heap.size]? = some (freshCell cX kX) := by rw [← hT1]; exact State.heap_pushCell_size _ _
  have d3' : decode c.code (pc + 3) = .ok (.dup, 1) := by rw [hb]; exact d3
  have d4' : decode c.code (pc + 4) = .ok (.ldc_w is, 3) := by rw [hb]; exact d4
  have hstr' : vk_R own is text sa s' := vk_R.warm hW0 hstr
  obtain ⟨U, hsteps, hrun, hend, hW, hsame, ce, hce, hO⟩ := X₁.ctorThrowS hexec htr (own := own) (cls := cls) (names := names) (ic := ic) hown' hcls hnames h (fun x hx => nomatch hx) hfX hkX hcellA (by rw [hhp, hT]; exact Nat.le_refl _) (msg := .ref sa) rfl
    (g := { method := m, pc := pc + 7, locals := ls, stack := .ref sa :: .ref T.heap.size :: .ref T.heap.size :: rest, locked := none }) rfl hsize rfl rfl (rest := rest) rfl
    (by rw [hb]; exact d7) (by rw [hb]; exact d10) hout hRframes (by simp only [List.map_cons, List.sum_cons, hcat]; omega) hlocks
  obtain ⟨f1, f2⟩ := vx_frame hsame
  rw [hhp] at f1 f2
  have hWs : s.WarmedH U.vm := State.WarmedH.trans hW0 hW
  have hcl : s.vm.findClass cls = some ce.cls := by
    have h9 := hO.cls
    rw [hvm] at h9
    exact h9
  have hall : s.sameButNew ({ U with vm := s.vm } : State) locs mc ms := by
    subst hA
    obtain ⟨e1, e2⟩ := hsame
    rw [State.setFrames_setFrames] at e1
    have h2 : (T.setVm s.vm).sameButNew ({ U with vm := s.vm } : State) [] (0 + 1) (0 + 6) := ⟨e1, e2⟩
    have h3 := X.same.trans h2
    rw [List.append_nil] at h3
    exact h3.mono hc hs
  refine ⟨U, ?_, .threw T.heap.size, hrun, hend, Or.inr ⟨T.heap.size, rfl, cls, ce, locs, hx U hWs.alike f1 (fun q hq => f2 q hq (fun z hz => nomatch hz)), hce, hO.vm, hcl, hWs, hall, hf⟩⟩
  refine st1 _ ?_
  show Steps p.tables e below (T1.setTop { method := m, pc := pc + 3, locals := ls, stack := .ref T.heap.size :: rest, locked := none }) _
  jvm_step X₁.here [X₁.here.top, hexec, d3', Value.category]
  exact X₁.ldcStringW hexec (own := own) (text := text) (index := is) (a := sa) hown' hstr'.1 hstr'.2
    (g := { method := m, pc := pc + 4, locals := ls, stack := .ref T.heap.size :: .ref T.heap.size :: rest, locked := none }) rfl d4' _ hsteps
end Ends
section Bodies
variable {l : Launch}
theorem vx_ofW {y : MethodName} {ws ws' : List Cond} {rm : Room} {Pc : Array Value → State → Prop} {Qc : Array Value → State → Outcome → State → Prop} {XC : String → State → State → Prop} {mc ms : Nat} {free : Addr → Prop} {cc : ByteArray} {maxL : Nat} {ret : Option FieldType}
    (hy : plainName y.cls = true) (hw : ws = Cond.code y cc maxL ret :: ws')
    (body : ∀ p e s m args below meth c s₁, BodyLoose p l y (headSpec ws rm) cc maxL ret e s m args below meth c s₁ → c.maxLocals = maxL → (∀ x ∈ c.exceptionTable.toList, False) → Pc args s →
      W p l e (headSpec ws rm).room s m args below meth c s.heap [] 0 0 (vx_MQ below Qc XC args s mc ms free) (entryFrame m args maxL)) : vx_Met l y ws rm Pc Qc XC mc ms free := by
  refine MetFree.of_bodyS (code := cc) (maxLocals := maxL) (ret := ret) hy ?_ ?_
  · intro args s m h hn
    obtain ⟨meth, c, h1, h2, h3, h4, h5, h6, -, -⟩ := Cond.code_spec hn (atoms_spec (ws := ws) h _ (by rw [hw]; exact List.mem_cons_self))
    exact ⟨meth, c, h1, h2, h3, h4, h5, h6⟩
  · intro p e s m args below meth c s₁ B hml hP _
    have hh0 : s₁.heap = s.heap := by rw [B.state]; rfl
    have ht : ∀ x ∈ c.exceptionTable.toList, False := by
      obtain ⟨meth9, c9, h1, h2, -, -, -, -, h7, -⟩ := Cond.code_spec B.named (atoms_spec (ws := ws) B.pre _ (by rw [hw]; exact List.mem_cons_self))
      cases Option.some.inj (h1.symm.trans B.method)
      cases Option.some.inj (h2.symm.trans (Stand.of_body B).code)
      intro x hx
      rw [Array.isEmpty_iff.mp h7] at hx
      cases hx
    obtain ⟨t, a1, o, b1, b2, b3⟩ := body p e s m args below meth c s₁ B hml ht hP s₁ hh0 (Stand.of_body B)
    exact ⟨t, o, a1, b1, b2, b3⟩
/-- the table of a body with handlers -/
theorem vx_table {p : Program} {x y : MethodName} {S : Spec} {cc bytes : ByteArray} {maxL maxL' : Nat} {ret ret' : Option FieldType} {e : Env} {s s₁ : State} {m : MethodId} {args : Array Value} {below : List Frame} {meth : Method} {c : Code} {hh : List (Nat × Nat × Nat × Nat)}
    (B : BodyLoose p l y S cc maxL ret e s m args below meth c s₁) (h : (Cond.codeWith y bytes maxL' ret' hh).before args s = true) : c.exceptionTable.toList = tableOf hh := by
  obtain ⟨m9, meth9, c9, hn9, h1, h2, -, -, h6, -⟩ := Cond.codeWith_spec h
  cases Option.some.inj (hn9.symm.trans B.named)
  cases Option.some.inj (h1.symm.trans B.method)
  cases Option.some.inj (h2.symm.trans (Stand.of_body B).code)
  rw [← h6, table_eq]
end Bodies
end VXA
/-! ===== END ===== -/
/-! ===== BEGIN a static call of a method with an exception table ===== -/
section VXS
variable {p : Program} {l : Launch} {e : Env} {R : Room} {s : State} {m : MethodId} {args : Array Value} {below : List Frame} {meth : Method} {c : Code} {T : State} {H : Heap} {locs : List Loc} {cells slots : Nat}
abbrev vx_CSW (R : Room) (s : State) (args : Array Value) (own : String) (index : Nat) (y : MethodName) (bytes : ByteArray) (maxL : Nat) (ret : Option FieldType) (hh : List (Nat × Nat × Nat × Nat)) (ws : List Cond) (rm : Room) (mc ms n : Nat) : Prop :=
  (rm.cells = mc ∧ rm.slots = ms ∧ rm.frames + 1 ≤ R.frames ∧ 8 + (maxL + 11) + rm.locals ≤ R.locals ∧ (∀ w ∈ ws, ∀ (a' : Array Value) (U : State), s.WarmedH U.vm → w.before a' U = true) ∧ Cond.codeWith y bytes maxL ret hh ∈ ws) ∧
  (Cond.codeWith y bytes maxL ret hh).before args s = true ∧ (Cond.initialized y.cls).before args s = true ∧ (y.cls ≠ "java/lang/invoke/MethodHandle" ∧ y.cls ≠ "java/lang/invoke/VarHandle") ∧
  (∀ sig, parseMethodDescriptor y.desc = some sig → n = sig.parameters.length) ∧ (Cond.methodLink own index y).before args s = true ∧ (Cond.static y).before args s = true
theorem vx_cwSW {own : String} {index maxL mc ms : Nat} {y : MethodName} {bytes : ByteArray} {ret : Option FieldType} {hh : List (Nat × Nat × Nat × Nat)} {Ts ws ws' : List Cond} {rm : Room} (n : Nat) (ht : ∀ w ∈ Ts, w.before args s = true) (hT : GoodIn Ts (va_wsS own index y ws)) (hw : ws = Cond.codeWith y bytes maxL ret hh :: ws') (hrc : rm.cells = mc) (hrs : rm.slots = ms)
    (hd : y.cls ≠ "java/lang/invoke/MethodHandle" ∧ y.cls ≠ "java/lang/invoke/VarHandle" ∧ (parseMethodDescriptor y.desc).map (fun d => d.parameters.length) = some n) (hR : rm.frames + 1 ≤ R.frames ∧ 8 + (maxL + 11) + rm.locals ≤ R.locals) :
    vx_CSW R s args own index y bytes maxL ret hh ws rm mc ms n := by
  have ok : ∀ w ∈ va_wsS own index y ws, w.before args s = true := fun w h => ht w (hT w h).1
  have hG : GoodIn Ts ws := fun w h => hT w (by unfold va_wsS; exact List.mem_append_right _ h)
  have hc : Cond.codeWith y bytes maxL ret hh ∈ ws := by rw [hw]; exact List.mem_cons_self
  refine ⟨⟨hrc, hrs, hR.1, hR.2, pay_in ht hG, hc⟩, ht _ (hG _ hc).1, ok _ (by simp [va_wsS]), ⟨hd.1, hd.2.1⟩, fun sig h => ?_, ok _ (by simp [va_wsS]), ok _ (by simp [va_wsS])⟩
  have h2 := hd.2.2
  rw [h] at h2
  exact (Option.some.inj h2).symm
theorem vx_callSW (X : Stand p l e R s m args below meth c T locs cells slots) (hexec : p.tables.exec = Jvm.exec) {own : String} {index : Nat} {y : MethodName} {bytes : ByteArray} {maxL : Nat} {ret : Option FieldType} {hh : List (Nat × Nat × Nat × Nat)}
    (hown : s.vm.findClass own = some m.cls) (hlink : (Cond.methodLink own index y).before args s = true) (hstat : (Cond.static y).before args s = true) (hinit : (Cond.initialized y.cls).before args s = true)
    (hcode : (Cond.codeWith y bytes maxL ret hh).before args s = true) (hy : y.cls ≠ "java/lang/invoke/MethodHandle" ∧ y.cls ≠ "java/lang/invoke/VarHandle")
    {W9 : Nat} {Pre : Pt → Array Value → Prop} {Post : Pt → Array Value → Option Value → Pt → Prop} (hK : Back l R p e below s args y 3 W9 Pre Post)
    {g : JFrame} (hg : g.method = m) (hsize : g.locals.size = c.maxLocals) {argsL rest : List Value} (hlen : ∀ sig, parseMethodDescriptor y.desc = some sig → argsL.length = sig.parameters.length)
    (hstack : g.stack = argsL.reverse ++ rest) (hW : 2 * g.monitorRoom + (rest.map fun v => v.category).sum ≤ W9) (hdg : decode c.code g.pc = .ok (.invokestatic index, 3))
    (hpre : ∀ vm₁, s.WarmedH vm₁ → Pre ⟨T.setVm vm₁, locs, cells, slots⟩ argsL.toArray) :
    ∃ (v : Option Value) (vm₁ : Vm) (B : Pt), s.WarmedH vm₁ ∧ Stand p l e R s m args below meth c B.U B.locs B.cells B.slots ∧ Post ⟨T.setVm vm₁, locs, cells, slots⟩ argsL.toArray v B ∧
      ∀ target, Steps p.tables e below (B.U.setTop { g with pc := g.pc + 3, stack := v.toList ++ rest }) target → Steps p.tables e below (T.setTop g) target := by
  obtain ⟨mk, methM, cM, hnamed, hmethM, -, -, -, -, -, -, hsigM⟩ := Cond.codeWith_spec hcode
  have hstatic : methM.isStatic = true := Cond.static_spec hnamed hmethM hstat
  obtain ⟨kP, hkP, -⟩ := className_of_methodNamed hnamed
  have hinitP : kP.init = .initialized := Cond.initialized_spec (findClass_of_methodNamed hnamed) hkP hinit
  obtain ⟨vm₁, X₁, hstep₁⟩ := X.invokestatic hexec hown hlink hnamed hmethM hstatic hkP hinitP hy (g := g) hg (argsL := argsL) (rest := rest) (hlen _ hsigM) hstack hdg
  obtain ⟨v, B, X', hpost, hsteps⟩ := hK m meth c ⟨T.setVm vm₁, locs, cells, slots⟩ { g with stack := rest } (.invokestatic index) mk argsL.toArray X₁ hg hsize hdg hW (X₁.named hnamed) (hpre vm₁ X₁.warmed)
  exact ⟨v, vm₁, B, X₁.warmed, X', hpost, fun target h => hstep₁ _ fun acts => by rw [doInvoke_state]; exact hsteps.trans h⟩
theorem vx_runSW {y : MethodName} {bytes cc : ByteArray} {maxL nL mc ms n index : Nat} {ret : Option FieldType} {hh : List (Nat × Nat × Nat × Nat)} {ws : List Cond} {rm : Room} {Pc : Array Value → State → Prop} {Qc : Array Value → State → Outcome → State → Prop} {free : Addr → Prop} {Ts : List Cond} {own : String} {As rest : List Value} {g : JFrame}
    (S : CallFix p m c cc nL s args Ts own) (hM : Met l y ws rm Pc Qc mc ms free) (cw : vx_CSW R s args own index y bytes maxL ret hh ws rm mc ms n) (hp : PreS s H Pc As)
    (hg : g.method = m) (hn : As.length = n) (hsize : g.locals.size = nL) (hstack : g.stack = As.reverse ++ rest) (hW : 2 * g.monitorRoom + (rest.map fun v => v.category).sum ≤ 8) (hdg : decode cc g.pc = .ok (.invokestatic index, 3)) (hf : cells + mc ≤ R.cells ∧ slots + ms ≤ R.slots) :
    va_Run p l e R s m args below meth c H locs cells slots mc ms g rest (Qc As.toArray) (free) := by
  obtain ⟨⟨hrc, hrs, hfr, hlo, hws, hcw⟩, hcode, hini, hy, hlen, hl, hstt⟩ := cw
  have hK : Back l R p e below s args y 3 8 (PreOf R mc ms Pc) (PostOf Qc mc ms free) := va_backW (hh := hh) (bytes := bytes) (maxL := maxL) (ret := ret) hM hp.1 hrc hrs hfr hlo hws hcw (fun a' U hW => word_at hW (Or.inl (by first | rfl | simp [Cond.onTables, Cond.keeps, Cond.steady])) hini)
  obtain ⟨hx, hb, hml, ho, -⟩ := S
  intro T hT X
  obtain ⟨v, vm₁, ⟨U', l2, c2, s2⟩, hW₁, X', ⟨g', mk, t, L, e1, e2, hq, h1, hL, h2, h3⟩, st⟩ := vx_callSW X hx (hh := hh) (bytes := bytes) (maxL := maxL) (ret := ret) ho hl hstt hini hcode hy hK hg (hsize.trans hml.symm) (argsL := As) (rest := rest) (fun sig h => hn.trans (hlen sig h)) hstack hW (by rw [hb]; exact hdg)
    (fun vm₁ hW₁ => ⟨hf.1, hf.2, hp.2 (T.setVm vm₁) hT hW₁⟩)
  dsimp only [Pt.U, Pt.locs, Pt.cells, Pt.slots] at X' e1 e2 h1 h2 h3 st
  subst h1; subst h2; subst h3
  exact ⟨v, (T.setVm vm₁).calling g' mk As.toArray, t, U', L, hT, X', hL, e1, e2, hq, st⟩
/-- not caught here, past rows that name other classes: it goes on to the caller -/
theorem vx_outP {p : Program} {l : Launch} {e : Env} {R : Room} {s : State} {m : MethodId} {args : Array Value} {below : List Frame} {meth : Method} {c : Code} {H : Heap} {locs : List Loc} {cells slots : Nat} {free : Addr → Prop} {ls : Array Slot} {rest : List Value} {Qc : Array Value → State → Outcome → State → Prop} {XC : String → State → State → Prop}
    {pc : Nat} {own E : String} {ce : Cell} {q : Addr} {mc ms : Nat} (hown : s.vm.findClass own = some m.cls) (hlocks : meth.locks = false)
    (hpass : ∀ z ∈ c.exceptionTable.toList, covers z pc = false ∨ (z.catchType ≠ 0 ∧ ∃ nm : String, (Cond.classLink own z.catchType nm).before args s = true ∧ va_Nc E nm s)) (hcell : H[q]? = some ce) (hv : ce.vm = .none) (hcl : s.vm.findClass E = some ce.cls)
    (hx : ∀ t : State, t.heap = H → s.vm.Alike t.vm → XC E s t) (hf : ∀ z ∈ locs, free z.base) (hc : cells ≤ mc) (hs : slots ≤ ms) :
    vx_W p l e R s m args below meth c H locs cells slots (vx_MQ below Qc XC args s mc ms free) (F0 m pc ls rest) q := by
  intro T hT X
  have hpl : e.platform.magicAccessors = ({} : Platform).magicAccessors := by rw [X.admits.platform]
  obtain ⟨vm', hW', X', st⟩ := X.outThrough hlocks q (g := F0 m pc ls rest) rfl rfl rfl (cell := ce) (by rw [hT]; exact hcell) (by rw [hv]; rfl)
    (by obtain ⟨k9, h9, -⟩ := Vm.findClass_spec hcl; exact ⟨k9, h9⟩) (fun z hz => by
      rcases hpass z hz with h | ⟨hz0, nm, hl1, hn1⟩
      · exact Or.inl h
      · obtain ⟨c6, hc6, hcl6⟩ := Cond.classLink_spec hown hl1 e.platform hpl
        obtain ⟨a8, b8, h1, h2, h3⟩ := hn1
        cases Option.some.inj (h1.symm.trans hcl)
        cases Option.some.inj (h2.symm.trans hc6)
        exact Or.inr ⟨hz0, _, hcl6, h3⟩)
  obtain ⟨g₀, hfr⟩ := X'.frames_eq
  have hcell9 : ((T.setVm vm').setFrames (.throwing q :: below)).heap[q]? = some ce := by
    show T.heap[q]? = some ce
    rw [hT]; exact hcell
  have hend : Ended ((T.setVm vm').setFrames (.throwing q :: below)) below (.threw q) := State.frames_setFrames _ (State.cur_lt_of_frames hfr)
  refine ⟨(T.setVm vm').setFrames (.throwing q :: below), ?_, .threw q, X'.here.running, hend, Or.inr ⟨q, rfl, E, ce, locs, hx _ hT (X'.ends _).1.alike, hcell9, hv, hcl, (X'.ends _).1, (X'.ends _).2.mono hc hs, hf⟩⟩
  rw [X.pushThrowing_eq]
  exact st
/-- a thing of a world lies in the heap -/
theorem vx_lt {D : va_G} {cl : List vw_C} {ws : va_W} {H1 : Heap} (h : va_P D cl ws H1) {k : Nat} {q : Nat × va_E} (hk : ws[k]? = some q) : q.1 < H1.size := (h k q hk).lt
end VXS
/-! ===== END ===== -/
/-! ===== BEGIN methods with a table of their own: called by a name, returning or throwing ===== -/
section VXH
/-! vx_backW, vx_callVX, vx_callSX, vx_callVW, vx_runVW, vx_runVX, vx_runSX, vx_ofWH follow the same proofs as their sisters above (Free/Laws.lean, Shelf42/LK1.lean); vx_outP calls Shelf42/NT130.lean (outThrough). -/
section
variable {l : Launch} {R : Room} {p : Program} {e : Env} {below : List Frame} {s : State} {sargs : Array Value} {y : MethodName} {len W9 : Nat}
theorem vx_backW {ws : List Cond} {rm : Room} {Pc : Array Value → State → Prop} {Qc : Array Value → State → Outcome → State → Prop} {XC : String → State → State → Prop} {mc ms : Nat} {free : Addr → Prop} {bytes : ByteArray} {maxL : Nat} {ret : Option FieldType} {hh : List (Nat × Nat × Nat × Nat)}
    (hM : vx_Met l y ws rm Pc Qc XC mc ms free) (hblind : FrameBlind Pc) (hrc : rm.cells = mc) (hrs : rm.slots = ms)
    (hframes : rm.frames + 1 ≤ R.frames) (hlocals : W9 + (maxL + 11) + rm.locals ≤ R.locals)
    (hws : ∀ w ∈ ws, ∀ a' U, s.WarmedH U.vm → w.before a' U = true) (hcode : Cond.codeWith y bytes maxL ret hh ∈ ws) (hinit : ∀ a' U, s.WarmedH U.vm → (Cond.initialized y.cls).before a' U = true) :
    vx_Back l R p e below s sargs y len W9 (PreOf R mc ms Pc) (PostOf Qc mc ms free) (vx_Post XC mc ms free) := by
  intro m meth c A g ig mk a X hg hsize hdg hW hn hp
  have h1 : (headSpec ws rm).pre.before a A.U = true := atoms_intro fun w hw => hws w hw _ _ X.warmed
  have h2 : (Cond.codeWith y bytes maxL ret hh).before a A.U = true := hws _ hcode _ _ X.warmed
  have h3 : (Cond.initialized y.cls).before a A.U = true := hinit _ _ X.warmed
  have h4 : A.cells + (headSpec ws rm).room.cells ≤ R.cells := by rw [show (headSpec ws rm).room.cells = mc from hrc]; exact hp.1
  have h5 : A.slots + (headSpec ws rm).room.slots ≤ R.slots := by rw [show (headSpec ws rm).room.slots = ms from hrs]; exact hp.2.1
  have hPc : Pc a (A.U.calling g mk a) := hblind _ _ _ _ hp.2.2
  obtain ⟨U, Ls, c0, s0⟩ := A
  dsimp only [Pt.U, Pt.locs, Pt.cells, Pt.slots] at h1 h2 h3 h4 h5 X hn hPc ⊢
  obtain ⟨m9, methY, cY, hn9, hmY, hcY, -, hlY, -⟩ := Cond.codeWith_spec h2
  cases Option.some.inj (hn9.symm.trans hn)
  obtain ⟨kY, hkY, -⟩ := className_of_methodNamed hn
  have hinitY : kY.init = .initialized := Cond.initialized_spec (findClass_of_methodNamed hn) hkY h3
  have h : At U g.method c below := by rw [hg]; exact X.here
  have hlocals9 : W9 + (maxL + 11) + (headSpec ws rm).room.locals ≤ R.locals := hlocals
  have happ : (headSpec ws rm).appliesLoose y e.platform (U.calling g mk a) = true :=
    Spec.appliesLoose_calling (g := g) h hdg hn hkY hinitY
      (X.room_calling (g := g) (R' := (headSpec ws rm).room) hsize hmY hcY hframes (by rw [hlY]; omega) h4 h5) h1
  obtain ⟨mid, hmid⟩ := h.above
  have hfr : (U.setTop g).frames = (.java g :: mid) ++ below := by rw [State.frames_setTop' g h.top, hmid]; rfl
  obtain ⟨o, s₂, hsteps, -, hend, hq⟩ := Steps.callFree hM p X.admits X.cas X.clock (acts := []) hfr happ hPc trivial
  have hq' : vx_Q Qc XC mc ms free a (U.calling g mk a) o s₂ := hq
  rw [State.frames_setTop' g h.top] at hend
  obtain ⟨g₀, hg0⟩ := Option.isSome_iff_exists.mp h.top
  obtain ⟨r, hr⟩ := State.topJava?_eq_some.mp hg0
  have hr' : (({ U with heap := s₂.heap, slotsUsed := s₂.slotsUsed } : State).setVm s₂.vm).frames = .java g₀ :: r := hr
  rcases hq' with ⟨hqc, L, hfe, hL⟩ | ⟨q, rfl, E, ce, L, hx, hce, hcv, hcl, hW₂, hsm, hL⟩
  · obtain ⟨⟨v, rfl⟩, hW₂, e2, q2, q3, q4, q5, q6⟩ := id hfe
    have e3 : s₂ = ({ (U.calling g mk a).setFrames s₂.frames with heap := s₂.heap, slotsUsed := s₂.slotsUsed } : State).setVm s₂.vm := by
      have : s₂ = ({ s₂ with vm := (U.calling g mk a).vm } : State).setVm s₂.vm := rfl
      rw [e2] at this
      exact this
    obtain ⟨c₂, i₂, len₂, hc₂, hd₂, hf₂⟩ := hend
    have hW' : U.WarmedH s₂.vm := hW₂
    have hcc : c₂ = c := by
      have h1 : s₂.code? g.method = U.code? g.method := by
        rw [State.code?_eq, State.code?_eq, hW'.alike.method?]
      exact Option.some.inj (hc₂.symm.trans (h1.trans h.code))
    subst hcc
    have hlen : len₂ = len := by rw [hdg] at hd₂; cases hd₂; rfl
    subst hlen
    have hs₂ : s₂ = (({ U with heap := s₂.heap, slotsUsed := s₂.slotsUsed } : State).setVm s₂.vm).setTop { g with pc := g.pc + len₂, stack := v.toList ++ g.stack } := by
      refine e3.trans ?_
      rw [hf₂, State.calling_eq h.top, State.setFrames_setFrames, State.setTop_of_frames _ hr', hr]
      rfl
    have hsame : U.sameButNew ({ U with heap := s₂.heap, slotsUsed := s₂.slotsUsed } : State) L mc ms := by
      refine ⟨?_, q2, q3, q4, q5, q6⟩
      obtain ⟨t, ht, -⟩ := State.frames_cons hr
      show ({ U with heap := s₂.heap, slotsUsed := s₂.slotsUsed } : State) = { U.setFrames U.frames with heap := s₂.heap, slotsUsed := s₂.slotsUsed }
      rw [State.setFrames_self ht]
    subst hg
    refine Or.inl ⟨v, ⟨(({ U with heap := s₂.heap, slotsUsed := s₂.slotsUsed } : State).setVm s₂.vm), Ls ++ L, c0 + mc, s0 + ms⟩,
      ⟨X.admits, X.cas, X.clock, X.frames, X.room, X.hears, X.method, X.code, (X.here.setHeapUsed s₂.heap s₂.slotsUsed).setVm hW'.alike, X.tail, State.WarmedH.trans X.warmed hW', X.limits, X.bytes, X.same.trans (hsame.setVm s.vm)⟩,
      ⟨g, mk, s₂, L, rfl, rfl, hqc, rfl, hL, rfl, rfl⟩, ?_⟩
    show Steps p.tables e below _ ((({ U with heap := s₂.heap, slotsUsed := s₂.slotsUsed } : State).setVm s₂.vm).setTop { g with pc := g.pc + len₂, stack := v.toList ++ g.stack })
    rw [← hs₂]
    exact hsteps
  · obtain ⟨e2, q2, q3, q4, q5, q6⟩ := id hsm
    have e3 : s₂ = ({ (U.calling g mk a).setFrames s₂.frames with heap := s₂.heap, slotsUsed := s₂.slotsUsed } : State).setVm s₂.vm := by
      have : s₂ = ({ s₂ with vm := (U.calling g mk a).vm } : State).setVm s₂.vm := rfl
      rw [e2] at this
      exact this
    have hf₂ : s₂.frames = .throwing q :: .java g :: U.frames.tail := hend
    have hW' : U.WarmedH s₂.vm := hW₂
    have hs₂ : s₂ = ((({ U with heap := s₂.heap, slotsUsed := s₂.slotsUsed } : State).setVm s₂.vm).setTop g).pushFrame (.throwing q) := by
      refine e3.trans ?_
      rw [hf₂, State.calling_eq h.top, State.setFrames_setFrames, State.pushFrame, State.frames_setTop _ hr', State.setTop_of_frames _ hr', State.setFrames_setFrames, hr]
      rfl
    have hsame : U.sameButNew ({ U with heap := s₂.heap, slotsUsed := s₂.slotsUsed } : State) L mc ms := by
      refine ⟨?_, q2, q3, q4, q5, q6⟩
      obtain ⟨t, ht, -⟩ := State.frames_cons hr
      show ({ U with heap := s₂.heap, slotsUsed := s₂.slotsUsed } : State) = { U.setFrames U.frames with heap := s₂.heap, slotsUsed := s₂.slotsUsed }
      rw [State.setFrames_self ht]
    subst hg
    refine Or.inr ⟨q, ⟨(({ U with heap := s₂.heap, slotsUsed := s₂.slotsUsed } : State).setVm s₂.vm), Ls ++ L, c0 + mc, s0 + ms⟩,
      ⟨X.admits, X.cas, X.clock, X.frames, X.room, X.hears, X.method, X.code, (X.here.setHeapUsed s₂.heap s₂.slotsUsed).setVm hW'.alike, X.tail, State.WarmedH.trans X.warmed hW', X.limits, X.bytes, X.same.trans (hsame.setVm s.vm)⟩,
      ⟨g, mk, s₂, L, E, ce, rfl, rfl, hx, hce, hcv, hcl, rfl, hL, rfl, rfl⟩, ?_⟩
    show Steps p.tables e below _ (((({ U with heap := s₂.heap, slotsUsed := s₂.slotsUsed } : State).setVm s₂.vm).setTop g).pushFrame (.throwing q))
    rw [← hs₂]
    exact hsteps
end
variable {p : Program} {l : Launch} {e : Env} {R : Room} {s : State} {m : MethodId} {args : Array Value} {below : List Frame} {meth : Method} {c : Code} {T : State} {H : Heap} {locs : List Loc} {cells slots : Nat}
theorem vx_callVX (X : Stand p l e R s m args below meth c T locs cells slots) (hexec : p.tables.exec = Jvm.exec) {own C : String} {index : Nat} {y : MethodName} {bytes : ByteArray} {maxL : Nat} {ret : Option FieldType} {hh : List (Nat × Nat × Nat × Nat)}
    (hown : s.vm.findClass own = some m.cls) (hlink : (Cond.methodLink own index y).before args s = true) (hinst : (Cond.instanceMethod y).before args s = true) (hsel : (Cond.selects C y y).before args s = true)
    (hcode : (Cond.codeWith y bytes maxL ret hh).before args s = true) (hy : y.cls ≠ "java/lang/invoke/MethodHandle" ∧ y.cls ≠ "java/lang/invoke/VarHandle")
    {W9 : Nat} {Pre : Pt → Array Value → Prop} {Post : Pt → Array Value → Option Value → Pt → Prop} {PostX : Pt → Array Value → Addr → Pt → Prop} (hK : vx_Back l R p e below s args y 3 W9 Pre Post PostX)
    {b : Addr} {cellB : Cell} (hcell : T.heap[b]? = some cellB) (hobj : cellB.vm.isStatics = false) (hcls : s.vm.findClass C = some cellB.cls)
    {g : JFrame} (hg : g.method = m) (hsize : g.locals.size = c.maxLocals) {argsL rest : List Value} (hlen : ∀ sig, parseMethodDescriptor y.desc = some sig → argsL.length = sig.parameters.length)
    (hstack : g.stack = argsL.reverse ++ .ref b :: rest) (hW : 2 * g.monitorRoom + (rest.map fun v => v.category).sum ≤ W9) (hdg : decode c.code g.pc = .ok (.invokevirtual index, 3))
    (hpre : ∀ vm₁, s.WarmedH vm₁ → Pre ⟨T.setVm vm₁, locs, cells, slots⟩ (Value.ref b :: argsL).toArray) :
    (∃ (v : Option Value) (vm₁ : Vm) (B : Pt), s.WarmedH vm₁ ∧ Stand p l e R s m args below meth c B.U B.locs B.cells B.slots ∧ Post ⟨T.setVm vm₁, locs, cells, slots⟩ (Value.ref b :: argsL).toArray v B ∧
      ∀ target, Steps p.tables e below (B.U.setTop { g with pc := g.pc + 3, stack := v.toList ++ rest }) target → Steps p.tables e below (T.setTop g) target) ∨
    (∃ (q : Addr) (vm₁ : Vm) (B : Pt), s.WarmedH vm₁ ∧ Stand p l e R s m args below meth c B.U B.locs B.cells B.slots ∧ PostX ⟨T.setVm vm₁, locs, cells, slots⟩ (Value.ref b :: argsL).toArray q B ∧
      Steps p.tables e below (T.setTop g) ((B.U.setTop { g with stack := rest }).pushFrame (.throwing q))) := by
  obtain ⟨mk, methM, hnamed, hmethM, hstM, habM⟩ := Cond.instanceMethod_spec hinst
  obtain ⟨m8, methM', cM, hn8, hmethM', -, -, -, -, -, -, hsigM⟩ := Cond.codeWith_spec hcode
  cases Option.some.inj (hn8.symm.trans hnamed)
  cases hmethM.symm.trans hmethM'
  obtain ⟨c2, r2, m2, q1, q2, q3, q4, kP, hkP, hkPi⟩ := Cond.selects_spec hsel
  cases hcls.symm.trans q1
  cases (State.methodFound?_of_named hnamed hy).symm.trans q2
  cases hnamed.symm.trans q3
  have hselP : selectMethod e.platform s.vm cellB.cls mk = .method mk := by rw [Launch.admits_selectMethod X.admits]; exact q4
  obtain ⟨vm₁, X₁, hstep₁⟩ := X.invokevirtual hexec hown hlink hnamed hmethM hstM hkP hkPi hy (a := b) (cell := cellB) hcell
    (fun z h => by rw [h] at hobj; cases hobj) hselP hmethM habM hkP hkPi (g := g) hg (argsL := argsL) (rest := rest) (hlen _ hsigM) hstack hdg
  rcases hK m meth c ⟨T.setVm vm₁, locs, cells, slots⟩ { g with stack := rest } (.invokevirtual index) mk (Value.ref b :: argsL).toArray X₁ hg hsize hdg hW (X₁.named hnamed) (hpre vm₁ X₁.warmed) with ⟨v, B, X', hpost, hsteps⟩ | ⟨q, B, X', hpost, hsteps⟩
  · exact Or.inl ⟨v, vm₁, B, X₁.warmed, X', hpost, fun target h => hstep₁ _ fun acts => by rw [doInvoke_state]; exact hsteps.trans h⟩
  · exact Or.inr ⟨q, vm₁, B, X₁.warmed, X', hpost, hstep₁ _ fun acts => by rw [doInvoke_state]; exact hsteps⟩
theorem vx_callSX (X : Stand p l e R s m args below meth c T locs cells slots) (hexec : p.tables.exec = Jvm.exec) {own : String} {index : Nat} {y : MethodName} {bytes : ByteArray} {maxL : Nat} {ret : Option FieldType} {hh : List (Nat × Nat × Nat × Nat)}
    (hown : s.vm.findClass own = some m.cls) (hlink : (Cond.methodLink own index y).before args s = true) (hstat : (Cond.static y).before args s = true) (hinit : (Cond.initialized y.cls).before args s = true)
    (hcode : (Cond.codeWith y bytes maxL ret hh).before args s = true) (hy : y.cls ≠ "java/lang/invoke/MethodHandle" ∧ y.cls ≠ "java/lang/invoke/VarHandle")
    {W9 : Nat} {Pre : Pt → Array Value → Prop} {Post : Pt → Array Value → Option Value → Pt → Prop} {PostX : Pt → Array Value → Addr → Pt → Prop} (hK : vx_Back l R p e below s args y 3 W9 Pre Post PostX)
    {g : JFrame} (hg : g.method = m) (hsize : g.locals.size = c.maxLocals) {argsL rest : List Value} (hlen : ∀ sig, parseMethodDescriptor y.desc = some sig → argsL.length = sig.parameters.length)
    (hstack : g.stack = argsL.reverse ++ rest) (hW : 2 * g.monitorRoom + (rest.map fun v => v.category).sum ≤ W9) (hdg : decode c.code g.pc = .ok (.invokestatic index, 3))
    (hpre : ∀ vm₁, s.WarmedH vm₁ → Pre ⟨T.setVm vm₁, locs, cells, slots⟩ argsL.toArray) :
    (∃ (v : Option Value) (vm₁ : Vm) (B : Pt), s.WarmedH vm₁ ∧ Stand p l e R s m args below meth c B.U B.locs B.cells B.slots ∧ Post ⟨T.setVm vm₁, locs, cells, slots⟩ argsL.toArray v B ∧
      ∀ target, Steps p.tables e below (B.U.setTop { g with pc := g.pc + 3, stack := v.toList ++ rest }) target → Steps p.tables e below (T.setTop g) target) ∨
    (∃ (q : Addr) (vm₁ : Vm) (B : Pt), s.WarmedH vm₁ ∧ Stand p l e R s m args below meth c B.U B.locs B.cells B.slots ∧ PostX ⟨T.setVm vm₁, locs, cells, slots⟩ argsL.toArray q B ∧
      Steps p.tables e below (T.setTop g) ((B.U.setTop { g with stack := rest }).pushFrame (.throwing q))) := by
  obtain ⟨mk, methM, cM, hnamed, hmethM, -, -, -, -, -, -, hsigM⟩ := Cond.codeWith_spec hcode
  have hstatic : methM.isStatic = true := Cond.static_spec hnamed hmethM hstat
  obtain ⟨kP, hkP, -⟩ := className_of_methodNamed hnamed
  have hinitP : kP.init = .initialized := Cond.initialized_spec (findClass_of_methodNamed hnamed) hkP hinit
  obtain ⟨vm₁, X₁, hstep₁⟩ := X.invokestatic hexec hown hlink hnamed hmethM hstatic hkP hinitP hy (g := g) hg (argsL := argsL) (rest := rest) (hlen _ hsigM) hstack hdg
  rcases hK m meth c ⟨T.setVm vm₁, locs, cells, slots⟩ { g with stack := rest } (.invokestatic index) mk argsL.toArray X₁ hg hsize hdg hW (X₁.named hnamed) (hpre vm₁ X₁.warmed) with ⟨v, B, X', hpost, hsteps⟩ | ⟨q, B, X', hpost, hsteps⟩
  · exact Or.inl ⟨v, vm₁, B, X₁.warmed, X', hpost, fun target h => hstep₁ _ fun acts => by rw [doInvoke_state]; exact hsteps.trans h⟩
  · exact Or.inr ⟨q, vm₁, B, X₁.warmed, X', hpost, hstep₁ _ fun acts => by rw [doInvoke_state]; exact hsteps⟩
theorem vx_callVW (X : Stand p l e R s m args below meth c T locs cells slots) (hexec : p.tables.exec = Jvm.exec) {own C : String} {index : Nat} {y : MethodName} {bytes : ByteArray} {maxL : Nat} {ret : Option FieldType} {hh : List (Nat × Nat × Nat × Nat)}
    (hown : s.vm.findClass own = some m.cls) (hlink : (Cond.methodLink own index y).before args s = true) (hinst : (Cond.instanceMethod y).before args s = true) (hsel : (Cond.selects C y y).before args s = true)
    (hcode : (Cond.codeWith y bytes maxL ret hh).before args s = true) (hy : y.cls ≠ "java/lang/invoke/MethodHandle" ∧ y.cls ≠ "java/lang/invoke/VarHandle")
    {W9 : Nat} {Pre : Pt → Array Value → Prop} {Post : Pt → Array Value → Option Value → Pt → Prop} (hK : Back l R p e below s args y 3 W9 Pre Post)
    {b : Addr} {cellB : Cell} (hcell : T.heap[b]? = some cellB) (hobj : cellB.vm.isStatics = false) (hcls : s.vm.findClass C = some cellB.cls)
    {g : JFrame} (hg : g.method = m) (hsize : g.locals.size = c.maxLocals) {argsL rest : List Value} (hlen : ∀ sig, parseMethodDescriptor y.desc = some sig → argsL.length = sig.parameters.length)
    (hstack : g.stack = argsL.reverse ++ .ref b :: rest) (hW : 2 * g.monitorRoom + (rest.map fun v => v.category).sum ≤ W9) (hdg : decode c.code g.pc = .ok (.invokevirtual index, 3))
    (hpre : ∀ vm₁, s.WarmedH vm₁ → Pre ⟨T.setVm vm₁, locs, cells, slots⟩ (Value.ref b :: argsL).toArray) :
    ∃ (v : Option Value) (vm₁ : Vm) (B : Pt), s.WarmedH vm₁ ∧ Stand p l e R s m args below meth c B.U B.locs B.cells B.slots ∧ Post ⟨T.setVm vm₁, locs, cells, slots⟩ (Value.ref b :: argsL).toArray v B ∧
      ∀ target, Steps p.tables e below (B.U.setTop { g with pc := g.pc + 3, stack := v.toList ++ rest }) target → Steps p.tables e below (T.setTop g) target := by
  obtain ⟨mk, methM, hnamed, hmethM, hstM, habM⟩ := Cond.instanceMethod_spec hinst
  obtain ⟨m8, methM', cM, hn8, hmethM', -, -, -, -, -, -, hsigM⟩ := Cond.codeWith_spec hcode
  cases Option.some.inj (hn8.symm.trans hnamed)
  cases hmethM.symm.trans hmethM'
  obtain ⟨c2, r2, m2, q1, q2, q3, q4, kP, hkP, hkPi⟩ := Cond.selects_spec hsel
  cases hcls.symm.trans q1
  cases (State.methodFound?_of_named hnamed hy).symm.trans q2
  cases hnamed.symm.trans q3
  have hselP : selectMethod e.platform s.vm cellB.cls mk = .method mk := by rw [Launch.admits_selectMethod X.admits]; exact q4
  obtain ⟨vm₁, X₁, hstep₁⟩ := X.invokevirtual hexec hown hlink hnamed hmethM hstM hkP hkPi hy (a := b) (cell := cellB) hcell
    (fun z h => by rw [h] at hobj; cases hobj) hselP hmethM habM hkP hkPi (g := g) hg (argsL := argsL) (rest := rest) (hlen _ hsigM) hstack hdg
  obtain ⟨v, B, X', hpost, hsteps⟩ := hK m meth c ⟨T.setVm vm₁, locs, cells, slots⟩ { g with stack := rest } (.invokevirtual index) mk (Value.ref b :: argsL).toArray X₁ hg hsize hdg hW (X₁.named hnamed) (hpre vm₁ X₁.warmed)
  exact ⟨v, vm₁, B, X₁.warmed, X', hpost, fun target h => hstep₁ _ fun acts => by rw [doInvoke_state]; exact hsteps.trans h⟩
abbrev vx_CVW (R : Room) (s : State) (args : Array Value) (own C : String) (index : Nat) (y : MethodName) (bytes : ByteArray) (maxL : Nat) (ret : Option FieldType) (hh : List (Nat × Nat × Nat × Nat)) (ws : List Cond) (rm : Room) (mc ms n : Nat) : Prop :=
  (rm.cells = mc ∧ rm.slots = ms ∧ rm.frames + 1 ≤ R.frames ∧ 8 + (maxL + 11) + rm.locals ≤ R.locals ∧ (∀ w ∈ ws, ∀ (a' : Array Value) (U : State), s.WarmedH U.vm → w.before a' U = true) ∧ Cond.codeWith y bytes maxL ret hh ∈ ws) ∧
  (Cond.codeWith y bytes maxL ret hh).before args s = true ∧ (Cond.initialized y.cls).before args s = true ∧ (y.cls ≠ "java/lang/invoke/MethodHandle" ∧ y.cls ≠ "java/lang/invoke/VarHandle") ∧
  (∀ sig, parseMethodDescriptor y.desc = some sig → n = sig.parameters.length) ∧ (Cond.methodLink own index y).before args s = true ∧ (Cond.instanceMethod y).before args s = true ∧ (Cond.selects C y y).before args s = true
theorem vx_cwVW {own C : String} {index maxL mc ms : Nat} {y : MethodName} {bytes : ByteArray} {ret : Option FieldType} {hh : List (Nat × Nat × Nat × Nat)} {Ts ws ws' : List Cond} {rm : Room} (n : Nat) (ht : ∀ w ∈ Ts, w.before args s = true) (hT : GoodIn Ts (wsV own index C y ws)) (hw : ws = Cond.codeWith y bytes maxL ret hh :: ws') (hrc : rm.cells = mc) (hrs : rm.slots = ms)
    (hd : y.cls = C ∧ y.cls ≠ "java/lang/invoke/MethodHandle" ∧ y.cls ≠ "java/lang/invoke/VarHandle" ∧ (parseMethodDescriptor y.desc).map (fun d => d.parameters.length) = some n) (hR : rm.frames + 1 ≤ R.frames ∧ 8 + (maxL + 11) + rm.locals ≤ R.locals) :
    vx_CVW R s args own C index y bytes maxL ret hh ws rm mc ms n := by
  obtain ⟨hC, hd⟩ := hd
  subst hC
  have ok : ∀ w ∈ wsV own index y.cls y ws, w.before args s = true := fun w h => ht w (hT w h).1
  have hG : GoodIn Ts ws := fun w h => hT w (by unfold wsV; exact List.mem_append_right _ h)
  have hc : Cond.codeWith y bytes maxL ret hh ∈ ws := by rw [hw]; exact List.mem_cons_self
  refine ⟨⟨hrc, hrs, hR.1, hR.2, pay_in ht hG, hc⟩, ht _ (hG _ hc).1, ok _ (by simp [wsV]), ⟨hd.1, hd.2.1⟩, fun sig h => ?_, ok _ (by simp [wsV]), ok _ (by simp [wsV]), ok _ (by simp [wsV])⟩
  have h2 := hd.2.2
  rw [h] at h2
  exact (Option.some.inj h2).symm
theorem vx_runVW {y : MethodName} {bytes cc : ByteArray} {maxL nL mc ms n index : Nat} {ret : Option FieldType} {hh : List (Nat × Nat × Nat × Nat)} {ws : List Cond} {rm : Room} {Pc : Array Value → State → Prop} {Qc : Array Value → State → Outcome → State → Prop} {free : Addr → Prop} {Ts : List Cond} {own C : String} {b : Addr} {As rest : List Value} {g : JFrame}
    (S : CallFix p m c cc nL s args Ts own) (hM : Met l y ws rm Pc Qc mc ms free) (cw : vx_CVW R s args own C index y bytes maxL ret hh ws rm mc ms n) (hp : PreV s H C b Pc As)
    (hg : g.method = m) (hn : As.length = n) (hsize : g.locals.size = nL) (hstack : g.stack = As.reverse ++ .ref b :: rest) (hW : 2 * g.monitorRoom + (rest.map fun v => v.category).sum ≤ 8) (hdg : decode cc g.pc = .ok (.invokevirtual index, 3)) (hf : cells + mc ≤ R.cells ∧ slots + ms ≤ R.slots) :
    va_Run p l e R s m args below meth c H locs cells slots mc ms g rest (Qc (Value.ref b :: As).toArray) free := by
  obtain ⟨⟨hrc, hrs, hfr, hlo, hws, hcw⟩, hcode, hini, hy, hlen, hl, hin, hse⟩ := cw
  have hK : Back l R p e below s args y 3 8 (PreOf R mc ms Pc) (PostOf Qc mc ms free) := va_backW (hh := hh) (bytes := bytes) (maxL := maxL) (ret := ret) hM hp.1 hrc hrs hfr hlo hws hcw (fun a' U hW => word_at hW (Or.inl (by first | rfl | simp [Cond.onTables, Cond.keeps, Cond.steady])) hini)
  obtain ⟨hx, hb, hml, ho, -⟩ := S
  obtain ⟨-, ⟨cellB, hcB, hoB, hclB⟩, hPc⟩ := hp
  intro T hT X
  obtain ⟨v, vm₁, ⟨U', l2, c2, s2⟩, hW₁, X', ⟨g', mk, t, L, e1, e2, hq, h1, hL, h2, h3⟩, st⟩ := vx_callVW X hx (C := C) (hh := hh) (bytes := bytes) (maxL := maxL) (ret := ret) ho hl hin hse hcode hy hK (by rw [hT]; exact hcB) hoB hclB hg (hsize.trans hml.symm) (argsL := As) (rest := rest) (fun sig h => hn.trans (hlen sig h)) hstack hW (by rw [hb]; exact hdg)
    (fun vm₁ hW₁ => ⟨hf.1, hf.2, hPc (T.setVm vm₁) hT hW₁⟩)
  dsimp only [Pt.U, Pt.locs, Pt.cells, Pt.slots] at X' e1 e2 h1 h2 h3 st
  subst h1; subst h2; subst h3
  exact ⟨v, (T.setVm vm₁).calling g' mk (Value.ref b :: As).toArray, t, U', L, hT, X', hL, e1, e2, hq, st⟩
section
variable {y : MethodName} {bytes cc : ByteArray} {maxL nL mc ms n index : Nat} {ret : Option FieldType} {ws : List Cond} {rm : Room} {Pc : Array Value → State → Prop} {Qc : Array Value → State → Outcome → State → Prop} {XC : String → State → State → Prop} {free : Addr → Prop} {Ts : List Cond} {own C : String} {b : Addr} {As rest : List Value} {g : JFrame}
theorem vx_runVX {hh : List (Nat × Nat × Nat × Nat)} (S : CallFix p m c cc nL s args Ts own) (hM : vx_Met l y ws rm Pc Qc XC mc ms free) (cw : vx_CVW R s args own C index y bytes maxL ret hh ws rm mc ms n) (hp : PreV s H C b Pc As)
    (hg : g.method = m) (hn : As.length = n) (hsize : g.locals.size = nL) (hstack : g.stack = As.reverse ++ .ref b :: rest) (hW : 2 * g.monitorRoom + (rest.map fun v => v.category).sum ≤ 8) (hdg : decode cc g.pc = .ok (.invokevirtual index, 3)) (hf : cells + mc ≤ R.cells ∧ slots + ms ≤ R.slots) :
    vx_Run p l e R s m args below meth c H locs cells slots mc ms g rest (Qc (Value.ref b :: As).toArray) XC free := by
  obtain ⟨⟨hrc, hrs, hfr, hlo, hws, hcw⟩, hcode, hini, hy, hlen, hl, hin, hse⟩ := cw
  have hK : vx_Back l R p e below s args y 3 8 (PreOf R mc ms Pc) (PostOf Qc mc ms free) (vx_Post XC mc ms free) := vx_backW (hh := hh) (bytes := bytes) (maxL := maxL) (ret := ret) hM hp.1 hrc hrs hfr hlo hws hcw (fun a' U hW => word_at hW (Or.inl (by first | rfl | simp [Cond.onTables, Cond.keeps, Cond.steady])) hini)
  obtain ⟨hx, hb, hml, ho, -⟩ := S
  obtain ⟨-, ⟨cellB, hcB, hoB, hclB⟩, hPc⟩ := hp
  intro T hT X
  rcases vx_callVX X hx (C := C) (hh := hh) (bytes := bytes) (maxL := maxL) (ret := ret) ho hl hin hse hcode hy hK (by rw [hT]; exact hcB) hoB hclB hg (hsize.trans hml.symm) (argsL := As) (rest := rest) (fun sig h => hn.trans (hlen sig h)) hstack hW (by rw [hb]; exact hdg)
    (fun vm₁ hW₁ => ⟨hf.1, hf.2, hPc (T.setVm vm₁) hT hW₁⟩) with ⟨v, vm₁, ⟨U', l2, c2, s2⟩, hW₁, X', ⟨g', mk, t, L, e1, e2, hq, h1, hL, h2, h3⟩, st⟩ | ⟨q, vm₁, ⟨U', l2, c2, s2⟩, hW₁, X', ⟨g', mk, t, L, E, ce, e1, e2, hq, hce, hcv, hcl, h1, hL, h2, h3⟩, st⟩
  · dsimp only [Pt.U, Pt.locs, Pt.cells, Pt.slots] at X' e1 e2 h1 h2 h3 st
    subst h1; subst h2; subst h3
    exact Or.inl ⟨v, (T.setVm vm₁).calling g' mk (Value.ref b :: As).toArray, t, U', L, hT, X', hL, e1, e2, hq, st⟩
  · dsimp only [Pt.U, Pt.locs, Pt.cells, Pt.slots] at X' e1 e2 h1 h2 h3 st hcl
    subst h1; subst h2; subst h3
    exact Or.inr ⟨q, (T.setVm vm₁).calling g' mk (Value.ref b :: As).toArray, t, U', L, E, ce, hT, X', hL, e1, e2, hq, hce, hcv, vx_cls hW₁ hcl, st⟩
theorem vx_runSX {hh : List (Nat × Nat × Nat × Nat)} (S : CallFix p m c cc nL s args Ts own) (hM : vx_Met l y ws rm Pc Qc XC mc ms free) (cw : vx_CSW R s args own index y bytes maxL ret hh ws rm mc ms n) (hp : PreS s H Pc As)
    (hg : g.method = m) (hn : As.length = n) (hsize : g.locals.size = nL) (hstack : g.stack = As.reverse ++ rest) (hW : 2 * g.monitorRoom + (rest.map fun v => v.category).sum ≤ 8) (hdg : decode cc g.pc = .ok (.invokestatic index, 3)) (hf : cells + mc ≤ R.cells ∧ slots + ms ≤ R.slots) :
    vx_Run p l e R s m args below meth c H locs cells slots mc ms g rest (Qc As.toArray) XC free := by
  obtain ⟨⟨hrc, hrs, hfr, hlo, hws, hcw⟩, hcode, hini, hy, hlen, hl, hstt⟩ := cw
  have hK : vx_Back l R p e below s args y 3 8 (PreOf R mc ms Pc) (PostOf Qc mc ms free) (vx_Post XC mc ms free) := vx_backW (hh := hh) (bytes := bytes) (maxL := maxL) (ret := ret) hM hp.1 hrc hrs hfr hlo hws hcw (fun a' U hW => word_at hW (Or.inl (by first | rfl | simp [Cond.onTables, Cond.keeps, Cond.steady])) hini)
  obtain ⟨hx, hb, hml, ho, -⟩ := S
  intro T hT X
  rcases vx_callSX X hx (hh := hh) (bytes := bytes) (maxL := maxL) (ret := ret) ho hl hstt hini hcode hy hK hg (hsize.trans hml.symm) (argsL := As) (rest := rest) (fun sig h => hn.trans (hlen sig h)) hstack hW (by rw [hb]; exact hdg)
    (fun vm₁ hW₁ => ⟨hf.1, hf.2, hp.2 (T.setVm vm₁) hT hW₁⟩) with ⟨v, vm₁, ⟨U', l2, c2, s2⟩, hW₁, X', ⟨g', mk, t, L, e1, e2, hq, h1, hL, h2, h3⟩, st⟩ | ⟨q, vm₁, ⟨U', l2, c2, s2⟩, hW₁, X', ⟨g', mk, t, L, E, ce, e1, e2, hq, hce, hcv, hcl, h1, hL, h2, h3⟩, st⟩
  · dsimp only [Pt.U, Pt.locs, Pt.cells, Pt.slots] at X' e1 e2 h1 h2 h3 st
    subst h1; subst h2; subst h3
    exact Or.inl ⟨v, (T.setVm vm₁).calling g' mk As.toArray, t, U', L, hT, X', hL, e1, e2, hq, st⟩
  · dsimp only [Pt.U, Pt.locs, Pt.cells, Pt.slots] at X' e1 e2 h1 h2 h3 st hcl
    subst h1; subst h2; subst h3
    exact Or.inr ⟨q, (T.setVm vm₁).calling g' mk As.toArray, t, U', L, E, ce, hT, X', hL, e1, e2, hq, hce, hcv, vx_cls hW₁ hcl, st⟩
end
end VXH
theorem vx_ofWH {l : Launch} {y : MethodName} {ws ws' : List Cond} {rm : Room} {Pc : Array Value → State → Prop} {Qc : Array Value → State → Outcome → State → Prop} {XC : String → State → State → Prop} {mc ms : Nat} {free : Addr → Prop} {cc : ByteArray} {maxL : Nat} {ret : Option FieldType} {hh : List (Nat × Nat × Nat × Nat)}
    (hy : plainName y.cls = true) (hw : ws = Cond.codeWith y cc maxL ret hh :: ws')
    (body : ∀ p e s m args below meth c s₁, BodyLoose p l y (headSpec ws rm) cc maxL ret e s m args below meth c s₁ → c.maxLocals = maxL → Pc args s →
      W p l e (headSpec ws rm).room s m args below meth c s.heap [] 0 0 (vx_MQ below Qc XC args s mc ms free) (entryFrame m args maxL)) : vx_Met l y ws rm Pc Qc XC mc ms free := by
  refine MetFree.of_bodyS (code := cc) (maxLocals := maxL) (ret := ret) hy ?_ ?_
  · intro args s m h hn
    obtain ⟨m9, meth, c, hn9, h1, h2, h3, h4, -, h5, h6, -⟩ := Cond.codeWith_spec (atoms_spec (ws := ws) h _ (by rw [hw]; exact List.mem_cons_self))
    cases hn.symm.trans hn9
    exact ⟨meth, c, h1, h2, h3, h4, h5, h6⟩
  · intro p e s m args below meth c s₁ B hml hP _
    have hh0 : s₁.heap = s.heap := by rw [B.state]; rfl
    obtain ⟨t, a1, o, b1, b2, b3⟩ := body p e s m args below meth c s₁ B hml hP s₁ hh0 (Stand.of_body B)
    exact ⟨t, o, a1, b1, b2, b3⟩
/-! ===== END ===== -/
end
section
/-! ===== BEGIN printed: names, fields, word lists, decode rows ===== -/
def RX0 : String := "Yarncourt$Chart"
def TX0 : u_T := fun k => match k with
  | 0 => ("Yarncourt$Chart", "rowCount", "I", false)
  | 1 => ("Yarncourt$Chart", "stitches", "[I", true)
  | 2 => ("Yarncourt$Chart", "yarnOfRow", "[I", true)
  | _ => ("Yarncourt$Chart", "nextWidth", "I", false)
def tyX0 : Nat → FieldType := fun k => match k with
  | 0 => .int
  | 1 => .array .int
  | 2 => .array .int
  | _ => .int
abbrev wsX00 : List Cond := u_ws RX0 TX0 4
theorem nmX0 : ∀ a, a < 4 → ∀ b, b < 4 → a ≠ b → (TX0 a).2.1 ≠ (TX0 b).2.1 := by decide +kernel
theorem tyX0_ok : ∀ k, k < 4 → parseFieldDescriptor (TX0 k).2.2.1 = some (tyX0 k) := by decide +kernel
abbrev cX0_init : ByteArray := prog_2_method_1_code
def yX0_init : MethodName := ⟨RX0, "<init>", "(I)V"⟩
abbrev cX0_drawLine : ByteArray := prog_2_method_2_code
def yX0_drawLine : MethodName := ⟨RX0, "drawLine", "(IIII)V"⟩
abbrev cX0_drawRow : ByteArray := prog_2_method_3_code
def yX0_drawRow : MethodName := ⟨RX0, "drawRow", "(III)I"⟩
abbrev cX0_stitchAt : ByteArray := prog_2_method_4_code
def yX0_stitchAt : MethodName := ⟨RX0, "stitchAt", "(II)I"⟩
abbrev cX0_yarnOf : ByteArray := prog_2_method_5_code
def yX0_yarnOf : MethodName := ⟨RX0, "yarnOf", "(I)I"⟩
abbrev cX0_yarnOfAllRows : ByteArray := prog_2_method_6_code
def yX0_yarnOfAllRows : MethodName := ⟨RX0, "yarnOfAllRows", "()I"⟩
abbrev cX0_isSameAs : ByteArray := prog_2_method_7_code
def yX0_isSameAs : MethodName := ⟨RX0, "isSameAs", "(LYarncourt$Chart;)Z"⟩
def RX1 : String := "Yarncourt$Lot"
def TX1 : u_T := fun k => match k with
  | 0 => ("Yarncourt$Lot", "number", "I", true)
  | 1 => ("Yarncourt$Lot", "gauge", "I", true)
  | 2 => ("Yarncourt$Lot", "person", "I", false)
  | _ => ("Yarncourt$Lot", "yarn", "I", false)
def tyX1 : Nat → FieldType := fun k => match k with
  | 0 => .int
  | 1 => .int
  | 2 => .int
  | _ => .int
abbrev wsX10 : List Cond := u_ws RX1 TX1 4
theorem nmX1 : ∀ a, a < 4 → ∀ b, b < 4 → a ≠ b → (TX1 a).2.1 ≠ (TX1 b).2.1 := by decide +kernel
theorem tyX1_ok : ∀ k, k < 4 → parseFieldDescriptor (TX1 k).2.2.1 = some (tyX1 k) := by decide +kernel
abbrev cX1_init : ByteArray := prog_3_method_1_code
def yX1_init : MethodName := ⟨RX1, "<init>", "(IIII)V"⟩
def RX2 : String := "Yarncourt$Pattern"
def TX2 : u_T := fun k => match k with
  | 0 => ("Yarncourt$Pattern", "number", "I", true)
  | 1 => ("Yarncourt$Pattern", "owner", "I", true)
  | 2 => ("Yarncourt$Pattern", "price", "I", true)
  | 3 => ("Yarncourt$Pattern", "program", "LYarncourt$Program;", true)
  | 4 => ("Yarncourt$Pattern", "chart", "LYarncourt$Chart;", true)
  | 5 => ("Yarncourt$Pattern", "boughtBy", "[Z", true)
  | 6 => ("Yarncourt$Pattern", "original", "LYarncourt$Pattern;", false)
  | 7 => ("Yarncourt$Pattern", "takings", "I", false)
  | _ => ("Yarncourt$Pattern", "barred", "Z", false)
def tyX2 : Nat → FieldType := fun k => match k with
  | 0 => .int
  | 1 => .int
  | 2 => .int
  | 3 => .object "Yarncourt$Program"
  | 4 => .object "Yarncourt$Chart"
  | 5 => .array .boolean
  | 6 => .object "Yarncourt$Pattern"
  | 7 => .int
  | _ => .boolean
abbrev wsX20 : List Cond := u_ws RX2 TX2 9
theorem nmX2 : ∀ a, a < 9 → ∀ b, b < 9 → a ≠ b → (TX2 a).2.1 ≠ (TX2 b).2.1 := by decide +kernel
theorem tyX2_ok : ∀ k, k < 9 → parseFieldDescriptor (TX2 k).2.2.1 = some (tyX2 k) := by decide +kernel
abbrev cX2_init : ByteArray := prog_4_method_1_code
def yX2_init : MethodName := ⟨RX2, "<init>", "(IIII)V"⟩
abbrev cX2_isPublished : ByteArray := prog_4_method_2_code
def yX2_isPublished : MethodName := ⟨RX2, "isPublished", "()Z"⟩
abbrev cX2_hasNoLines : ByteArray := prog_4_method_3_code
def yX2_hasNoLines : MethodName := ⟨RX2, "hasNoLines", "()Z"⟩
abbrev cX2_takesLine : ByteArray := prog_4_method_4_code
def yX2_takesLine : MethodName := ⟨RX2, "takesLine", "(I)Z"⟩
abbrev cX2_addLine : ByteArray := prog_4_method_5_code
def yX2_addLine : MethodName := ⟨RX2, "addLine", "(IIII)V"⟩
abbrev cX2_addLinesFor : ByteArray := prog_4_method_6_code
def yX2_addLinesFor : MethodName := ⟨RX2, "addLinesFor", "(ILYarncourt$Program;)V"⟩
abbrev cX2_mayBeKnittedBy : ByteArray := prog_4_method_7_code
def yX2_mayBeKnittedBy : MethodName := ⟨RX2, "mayBeKnittedBy", "(I)Z"⟩
def RX3 : String := "Yarncourt$Program"
def TX3 : u_T := fun k => match k with
  | 0 => ("Yarncourt$Program", "firstWidth", "I", true)
  | 1 => ("Yarncourt$Program", "knits", "[I", true)
  | 2 => ("Yarncourt$Program", "purls", "[I", true)
  | 3 => ("Yarncourt$Program", "shaping", "[I", true)
  | 4 => ("Yarncourt$Program", "times", "[I", true)
  | _ => ("Yarncourt$Program", "lineCount", "I", false)
def tyX3 : Nat → FieldType := fun k => match k with
  | 0 => .int
  | 1 => .array .int
  | 2 => .array .int
  | 3 => .array .int
  | 4 => .array .int
  | _ => .int
abbrev wsX30 : List Cond := u_ws RX3 TX3 6
theorem nmX3 : ∀ a, a < 6 → ∀ b, b < 6 → a ≠ b → (TX3 a).2.1 ≠ (TX3 b).2.1 := by decide +kernel
theorem tyX3_ok : ∀ k, k < 6 → parseFieldDescriptor (TX3 k).2.2.1 = some (tyX3 k) := by decide +kernel
abbrev cX3_init : ByteArray := prog_5_method_1_code
def yX3_init : MethodName := ⟨RX3, "<init>", "(I)V"⟩
abbrev cX3_append : ByteArray := prog_5_method_2_code
def yX3_append : MethodName := ⟨RX3, "append", "(IIII)V"⟩
abbrev cX3_timesFor : ByteArray := prog_5_method_3_code
def yX3_timesFor : MethodName := ⟨RX3, "timesFor", "(II)I"⟩
abbrev cX3_rowsFor : ByteArray := prog_5_method_4_code
def yX3_rowsFor : MethodName := ⟨RX3, "rowsFor", "(I)I"⟩
abbrev cX3_workTo : ByteArray := prog_5_method_5_code
def yX3_workTo : MethodName := ⟨RX3, "workTo", "(II)I"⟩
abbrev cX3_workAlong : ByteArray := prog_5_method_6_code
def yX3_workAlong : MethodName := ⟨RX3, "workAlong", "(II)I"⟩
def RX4 : String := "Yarncourt$Project"
def TX4 : u_T := fun k => match k with
  | 0 => ("Yarncourt$Project", "person", "I", true)
  | 1 => ("Yarncourt$Project", "pattern", "LYarncourt$Pattern;", true)
  | 2 => ("Yarncourt$Project", "lot", "LYarncourt$Lot;", false)
  | _ => ("Yarncourt$Project", "knitted", "I", false)
def tyX4 : Nat → FieldType := fun k => match k with
  | 0 => .int
  | 1 => .object "Yarncourt$Pattern"
  | 2 => .object "Yarncourt$Lot"
  | _ => .int
abbrev wsX40 : List Cond := u_ws RX4 TX4 4
theorem nmX4 : ∀ a, a < 4 → ∀ b, b < 4 → a ≠ b → (TX4 a).2.1 ≠ (TX4 b).2.1 := by decide +kernel
theorem tyX4_ok : ∀ k, k < 4 → parseFieldDescriptor (TX4 k).2.2.1 = some (tyX4 k) := by decide +kernel
abbrev cX4_init : ByteArray := prog_6_method_1_code
def yX4_init : MethodName := ⟨RX4, "<init>", "(ILYarncourt$Pattern;LYarncourt$Lot;)V"⟩
abbrev cX4_knitUpTo : ByteArray := prog_6_method_2_code
def yX4_knitUpTo : MethodName := ⟨RX4, "knitUpTo", "(I)I"⟩
abbrev cX4_canKnitRow : ByteArray := prog_6_method_3_code
def yX4_canKnitRow : MethodName := ⟨RX4, "canKnitRow", "()Z"⟩
abbrev cX4_yarnOfNextRow : ByteArray := prog_6_method_4_code
def yX4_yarnOfNextRow : MethodName := ⟨RX4, "yarnOfNextRow", "()I"⟩
def RX5 : String := "Yarncourt"
def TX5 : u_T := fun k => match k with
  | 0 => ("Yarncourt", "patterns", "Ljava/util/ArrayList;", true)
  | 1 => ("Yarncourt", "inOrderOfPublishing", "Ljava/util/ArrayList;", true)
  | 2 => ("Yarncourt", "lots", "Ljava/util/ArrayList;", true)
  | 3 => ("Yarncourt", "projects", "Ljava/util/ArrayList;", true)
  | _ => ("Yarncourt", "purses", "[I", true)
def tyX5 : Nat → FieldType := fun k => match k with
  | 0 => .object "java/util/ArrayList"
  | 1 => .object "java/util/ArrayList"
  | 2 => .object "java/util/ArrayList"
  | 3 => .object "java/util/ArrayList"
  | _ => .array .int
abbrev wsX50 : List Cond := u_ws RX5 TX5 5
theorem nmX5 : ∀ a, a < 5 → ∀ b, b < 5 → a ≠ b → (TX5 a).2.1 ≠ (TX5 b).2.1 := by decide +kernel
theorem tyX5_ok : ∀ k, k < 5 → parseFieldDescriptor (TX5 k).2.2.1 = some (tyX5 k) := by decide +kernel
abbrev cX5_init : ByteArray := prog_1_method_1_code
def yX5_init : MethodName := ⟨RX5, "<init>", "()V"⟩
abbrev cX5_begin : ByteArray := prog_1_method_2_code
def yX5_begin : MethodName := ⟨RX5, "begin", "(III)I"⟩
abbrev cX5_line : ByteArray := prog_1_method_3_code
def yX5_line : MethodName := ⟨RX5, "line", "(IIIII)I"⟩
abbrev cX5_anew : ByteArray := prog_1_method_4_code
def yX5_anew : MethodName := ⟨RX5, "anew", "(II)I"⟩
abbrev cX5_publish : ByteArray := prog_1_method_5_code
def yX5_publish : MethodName := ⟨RX5, "publish", "(I)I"⟩
abbrev cX5_original : ByteArray := prog_1_method_6_code
def yX5_original : MethodName := ⟨RX5, "original", "(I)I"⟩
abbrev cX5_rows : ByteArray := prog_1_method_7_code
def yX5_rows : MethodName := ⟨RX5, "rows", "(I)I"⟩
abbrev cX5_stitch : ByteArray := prog_1_method_8_code
def yX5_stitch : MethodName := ⟨RX5, "stitch", "(III)I"⟩
abbrev cX5_stitchByWork : ByteArray := prog_1_method_9_code
def yX5_stitchByWork : MethodName := ⟨RX5, "stitchByWork", "(III)I"⟩
abbrev cX5_need : ByteArray := prog_1_method_10_code
def yX5_need : MethodName := ⟨RX5, "need", "(II)I"⟩
abbrev cX5_buy : ByteArray := prog_1_method_11_code
def yX5_buy : MethodName := ⟨RX5, "buy", "(II)I"⟩
abbrev cX5_rule : ByteArray := prog_1_method_12_code
def yX5_rule : MethodName := ⟨RX5, "rule", "(I)I"⟩
abbrev cX5_money : ByteArray := prog_1_method_13_code
def yX5_money : MethodName := ⟨RX5, "money", "(I)I"⟩
abbrev cX5_lot : ByteArray := prog_1_method_14_code
def yX5_lot : MethodName := ⟨RX5, "lot", "(III)I"⟩
abbrev cX5_swap : ByteArray := prog_1_method_15_code
def yX5_swap : MethodName := ⟨RX5, "swap", "(II)I"⟩
abbrev cX5_left : ByteArray := prog_1_method_16_code
def yX5_left : MethodName := ⟨RX5, "left", "(I)I"⟩
abbrev cX5_project : ByteArray := prog_1_method_17_code
def yX5_project : MethodName := ⟨RX5, "project", "(III)I"⟩
abbrev cX5_take : ByteArray := prog_1_method_18_code
def yX5_take : MethodName := ⟨RX5, "take", "(II)I"⟩
abbrev cX5_knit : ByteArray := prog_1_method_19_code
def yX5_knit : MethodName := ⟨RX5, "knit", "(II)I"⟩
abbrev cX5_progress : ByteArray := prog_1_method_20_code
def yX5_progress : MethodName := ⟨RX5, "progress", "(I)I"⟩
abbrev cX5_patternAt : ByteArray := prog_1_method_21_code
def yX5_patternAt : MethodName := ⟨RX5, "patternAt", "(I)LYarncourt$Pattern;"⟩
abbrev cX5_lotAt : ByteArray := prog_1_method_22_code
def yX5_lotAt : MethodName := ⟨RX5, "lotAt", "(I)LYarncourt$Lot;"⟩
abbrev cX5_projectAt : ByteArray := prog_1_method_23_code
def yX5_projectAt : MethodName := ⟨RX5, "projectAt", "(I)LYarncourt$Project;"⟩
abbrev cX5_checkRoomForPattern : ByteArray := prog_1_method_24_code
def yX5_checkRoomForPattern : MethodName := ⟨RX5, "checkRoomForPattern", "()V"⟩
abbrev cX5_addPattern : ByteArray := prog_1_method_25_code
def yX5_addPattern : MethodName := ⟨RX5, "addPattern", "(III)LYarncourt$Pattern;"⟩
abbrev cX5_firstOfSameChart : ByteArray := prog_1_method_26_code
def yX5_firstOfSameChart : MethodName := ⟨RX5, "firstOfSameChart", "(LYarncourt$Pattern;)LYarncourt$Pattern;"⟩
abbrev cX5_checkPerson : ByteArray := prog_1_method_27_code
def yX5_checkPerson : MethodName := ⟨RX5, "checkPerson", "(I)V"⟩
abbrev cX5_checkPlace : ByteArray := prog_1_method_28_code
def yX5_checkPlace : MethodName := ⟨RX5, "checkPlace", "(LYarncourt$Pattern;II)V"⟩
abbrev cX5_checkGauge : ByteArray := prog_1_method_29_code
def yX5_checkGauge : MethodName := ⟨RX5, "checkGauge", "(I)V"⟩
abbrev cX5_checkRange : ByteArray := prog_1_method_30_code
def yX5_checkRange : MethodName := ⟨RX5, "checkRange", "(III)V"⟩
abbrev cX5_within : ByteArray := prog_1_method_31_code
def yX5_within : MethodName := ⟨RX5, "within", "(III)I"⟩
abbrev cX5_forGauge : ByteArray := prog_1_method_32_code
def yX5_forGauge : MethodName := ⟨RX5, "forGauge", "(II)I"⟩
abbrev cX5_widthAfter : ByteArray := prog_1_method_33_code
def yX5_widthAfter : MethodName := ⟨RX5, "widthAfter", "(II)I"⟩
def RX6 : String := "YarncourtModel"
def TX6 : u_T := fun k => match k with
  | 0 => ("YarncourtModel", "refusal", "I", false)
  | 1 => ("YarncourtModel", "patterns", "I", false)
  | 2 => ("YarncourtModel", "owners", "[I", true)
  | 3 => ("YarncourtModel", "widths", "[I", true)
  | 4 => ("YarncourtModel", "prices", "[I", true)
  | 5 => ("YarncourtModel", "lines", "[I", true)
  | 6 => ("YarncourtModel", "knits", "[I", true)
  | 7 => ("YarncourtModel", "purls", "[I", true)
  | 8 => ("YarncourtModel", "shapings", "[I", true)
  | 9 => ("YarncourtModel", "times", "[I", true)
  | 10 => ("YarncourtModel", "orders", "[I", true)
  | 11 => ("YarncourtModel", "published", "I", false)
  | 12 => ("YarncourtModel", "isBarred", "[Z", true)
  | 13 => ("YarncourtModel", "buyers", "[I", true)
  | 14 => ("YarncourtModel", "moneys", "[I", true)
  | 15 => ("YarncourtModel", "lots", "I", false)
  | 16 => ("YarncourtModel", "holders", "[I", true)
  | 17 => ("YarncourtModel", "gauges", "[I", true)
  | 18 => ("YarncourtModel", "yarns", "[I", true)
  | 19 => ("YarncourtModel", "projects", "I", false)
  | 20 => ("YarncourtModel", "knitters", "[I", true)
  | 21 => ("YarncourtModel", "projectPatterns", "[I", true)
  | 22 => ("YarncourtModel", "projectLots", "[I", true)
  | 23 => ("YarncourtModel", "done", "[I", true)
  | 24 => ("YarncourtModel", "rowLine", "I", false)
  | _ => ("YarncourtModel", "rowWidth", "I", false)
def tyX6 : Nat → FieldType := fun k => match k with
  | 0 => .int
  | 1 => .int
  | 2 => .array .int
  | 3 => .array .int
  | 4 => .array .int
  | 5 => .array .int
  | 6 => .array .int
  | 7 => .array .int
  | 8 => .array .int
  | 9 => .array .int
  | 10 => .array .int
  | 11 => .int
  | 12 => .array .boolean
  | 13 => .array .int
  | 14 => .array .int
  | 15 => .int
  | 16 => .array .int
  | 17 => .array .int
  | 18 => .array .int
  | 19 => .int
  | 20 => .array .int
  | 21 => .array .int
  | 22 => .array .int
  | 23 => .array .int
  | 24 => .int
  | _ => .int
abbrev wsX60 : List Cond := u_ws RX6 TX6 26
theorem nmX6 : ∀ a, a < 26 → ∀ b, b < 26 → a ≠ b → (TX6 a).2.1 ≠ (TX6 b).2.1 := by decide +kernel
theorem tyX6_ok : ∀ k, k < 26 → parseFieldDescriptor (TX6 k).2.2.1 = some (tyX6 k) := by decide +kernel
abbrev cX6_init : ByteArray := prog_8_method_1_code
def yX6_init : MethodName := ⟨RX6, "<init>", "()V"⟩
abbrev cX6_thrown : ByteArray := prog_8_method_2_code
def yX6_thrown : MethodName := ⟨RX6, "thrown", "()I"⟩
abbrev cX6_refused : ByteArray := prog_8_method_3_code
def yX6_refused : MethodName := ⟨RX6, "refused", "(I)Z"⟩
abbrev cX6_in : ByteArray := prog_8_method_4_code
def yX6_in : MethodName := ⟨RX6, "in", "(III)Z"⟩
abbrev cX6_isPerson : ByteArray := prog_8_method_5_code
def yX6_isPerson : MethodName := ⟨RX6, "isPerson", "(I)Z"⟩
abbrev cX6_isPattern : ByteArray := prog_8_method_6_code
def yX6_isPattern : MethodName := ⟨RX6, "isPattern", "(I)Z"⟩
abbrev cX6_isLot : ByteArray := prog_8_method_7_code
def yX6_isLot : MethodName := ⟨RX6, "isLot", "(I)Z"⟩
abbrev cX6_isProject : ByteArray := prog_8_method_8_code
def yX6_isProject : MethodName := ⟨RX6, "isProject", "(I)Z"⟩
abbrev cX6_added : ByteArray := prog_8_method_9_code
def yX6_added : MethodName := ⟨RX6, "added", "(III)I"⟩
abbrev cX6_begin : ByteArray := prog_8_method_10_code
def yX6_begin : MethodName := ⟨RX6, "begin", "(III)I"⟩
abbrev cX6_rowsOf : ByteArray := prog_8_method_11_code
def yX6_rowsOf : MethodName := ⟨RX6, "rowsOf", "(I)I"⟩
abbrev cX6_put : ByteArray := prog_8_method_12_code
def yX6_put : MethodName := ⟨RX6, "put", "(IIIII)V"⟩
abbrev cX6_isPublished : ByteArray := prog_8_method_13_code
def yX6_isPublished : MethodName := ⟨RX6, "isPublished", "(I)Z"⟩
abbrev cX6_line : ByteArray := prog_8_method_14_code
def yX6_line : MethodName := ⟨RX6, "line", "(IIIII)I"⟩
abbrev cX6_oftenAnew : ByteArray := prog_8_method_15_code
def yX6_oftenAnew : MethodName := ⟨RX6, "oftenAnew", "(II)I"⟩
abbrev cX6_anew : ByteArray := prog_8_method_16_code
def yX6_anew : MethodName := ⟨RX6, "anew", "(II)I"⟩
abbrev cX6_goTo : ByteArray := prog_8_method_17_code
def yX6_goTo : MethodName := ⟨RX6, "goTo", "(II)V"⟩
abbrev cX6_stitchAt : ByteArray := prog_8_method_18_code
def yX6_stitchAt : MethodName := ⟨RX6, "stitchAt", "(I)I"⟩
abbrev cX6_stitchOf : ByteArray := prog_8_method_19_code
def yX6_stitchOf : MethodName := ⟨RX6, "stitchOf", "(III)I"⟩
abbrev cX6_areAlike : ByteArray := prog_8_method_20_code
def yX6_areAlike : MethodName := ⟨RX6, "areAlike", "(II)Z"⟩
abbrev cX6_originalOf : ByteArray := prog_8_method_21_code
def yX6_originalOf : MethodName := ⟨RX6, "originalOf", "(I)I"⟩
abbrev cX6_publish : ByteArray := prog_8_method_22_code
def yX6_publish : MethodName := ⟨RX6, "publish", "(I)I"⟩
abbrev cX6_noPattern : ByteArray := prog_8_method_23_code
def yX6_noPattern : MethodName := ⟨RX6, "noPattern", "(I)Z"⟩
abbrev cX6_original : ByteArray := prog_8_method_24_code
def yX6_original : MethodName := ⟨RX6, "original", "(I)I"⟩
abbrev cX6_rows : ByteArray := prog_8_method_25_code
def yX6_rows : MethodName := ⟨RX6, "rows", "(I)I"⟩
abbrev cX6_stitch : ByteArray := prog_8_method_26_code
def yX6_stitch : MethodName := ⟨RX6, "stitch", "(III)I"⟩
abbrev cX6_stitchByWork : ByteArray := prog_8_method_27_code
def yX6_stitchByWork : MethodName := ⟨RX6, "stitchByWork", "(III)I"⟩
abbrev cX6_rowNeed : ByteArray := prog_8_method_28_code
def yX6_rowNeed : MethodName := ⟨RX6, "rowNeed", "(III)I"⟩
abbrev cX6_need : ByteArray := prog_8_method_29_code
def yX6_need : MethodName := ⟨RX6, "need", "(II)I"⟩
abbrev cX6_hasBought : ByteArray := prog_8_method_30_code
def yX6_hasBought : MethodName := ⟨RX6, "hasBought", "(II)Z"⟩
abbrev cX6_buy : ByteArray := prog_8_method_31_code
def yX6_buy : MethodName := ⟨RX6, "buy", "(II)I"⟩
abbrev cX6_rule : ByteArray := prog_8_method_32_code
def yX6_rule : MethodName := ⟨RX6, "rule", "(I)I"⟩
abbrev cX6_money : ByteArray := prog_8_method_33_code
def yX6_money : MethodName := ⟨RX6, "money", "(I)I"⟩
abbrev cX6_lot : ByteArray := prog_8_method_34_code
def yX6_lot : MethodName := ⟨RX6, "lot", "(III)I"⟩
abbrev cX6_swap : ByteArray := prog_8_method_35_code
def yX6_swap : MethodName := ⟨RX6, "swap", "(II)I"⟩
abbrev cX6_left : ByteArray := prog_8_method_36_code
def yX6_left : MethodName := ⟨RX6, "left", "(I)I"⟩
abbrev cX6_project : ByteArray := prog_8_method_37_code
def yX6_project : MethodName := ⟨RX6, "project", "(III)I"⟩
abbrev cX6_take : ByteArray := prog_8_method_38_code
def yX6_take : MethodName := ⟨RX6, "take", "(II)I"⟩
abbrev cX6_knitsRow : ByteArray := prog_8_method_39_code
def yX6_knitsRow : MethodName := ⟨RX6, "knitsRow", "(I)Z"⟩
abbrev cX6_knit : ByteArray := prog_8_method_40_code
def yX6_knit : MethodName := ⟨RX6, "knit", "(II)I"⟩
abbrev cX6_progress : ByteArray := prog_8_method_41_code
def yX6_progress : MethodName := ⟨RX6, "progress", "(I)I"⟩
def RJx145de : String := "java/io/Serializable"
def TJx145de : u_T := fun k => match k with
  | _ => ("", "", "", false)
def tyJx145de : Nat → FieldType := fun k => match k with
  | _ => .int
abbrev wsJx145de0 : List Cond := u_ws RJx145de TJx145de 0
theorem nmJx145de : ∀ a, a < 0 → ∀ b, b < 0 → a ≠ b → (TJx145de a).2.1 ≠ (TJx145de b).2.1 := by decide +kernel
theorem tyJx145de_ok : ∀ k, k < 0 → parseFieldDescriptor (TJx145de k).2.2.1 = some (tyJx145de k) := by decide +kernel
def RJx8e188 : String := "java/lang/Cloneable"
def TJx8e188 : u_T := fun k => match k with
  | _ => ("", "", "", false)
def tyJx8e188 : Nat → FieldType := fun k => match k with
  | _ => .int
abbrev wsJx8e1880 : List Cond := u_ws RJx8e188 TJx8e188 0
theorem nmJx8e188 : ∀ a, a < 0 → ∀ b, b < 0 → a ≠ b → (TJx8e188 a).2.1 ≠ (TJx8e188 b).2.1 := by decide +kernel
theorem tyJx8e188_ok : ∀ k, k < 0 → parseFieldDescriptor (TJx8e188 k).2.2.1 = some (tyJx8e188 k) := by decide +kernel
def RJxab1ab : String := "java/lang/Iterable"
def TJxab1ab : u_T := fun k => match k with
  | _ => ("", "", "", false)
def tyJxab1ab : Nat → FieldType := fun k => match k with
  | _ => .int
abbrev wsJxab1ab0 : List Cond := u_ws RJxab1ab TJxab1ab 0
theorem nmJxab1ab : ∀ a, a < 0 → ∀ b, b < 0 → a ≠ b → (TJxab1ab a).2.1 ≠ (TJxab1ab b).2.1 := by decide +kernel
theorem tyJxab1ab_ok : ∀ k, k < 0 → parseFieldDescriptor (TJxab1ab k).2.2.1 = some (tyJxab1ab k) := by decide +kernel
def RJ9 : String := "java/lang/Math"
def TJ9 : u_T := fun k => match k with
  | _ => ("", "", "", false)
def tyJ9 : Nat → FieldType := fun k => match k with
  | _ => .int
abbrev wsJ90 : List Cond := u_ws RJ9 TJ9 0
theorem nmJ9 : ∀ a, a < 0 → ∀ b, b < 0 → a ≠ b → (TJ9 a).2.1 ≠ (TJ9 b).2.1 := by decide +kernel
theorem tyJ9_ok : ∀ k, k < 0 → parseFieldDescriptor (TJ9 k).2.2.1 = some (tyJ9 k) := by decide +kernel
abbrev cJ9_max_7cf53 : ByteArray := prog_16_method_65_code
def yJ9_max_7cf53 : MethodName := ⟨RJ9, "max", "(II)I"⟩
abbrev cJ9_min_7cf53 : ByteArray := prog_16_method_69_code
def yJ9_min_7cf53 : MethodName := ⟨RJ9, "min", "(II)I"⟩
def RJ0 : String := "java/lang/String"
def TJ0 : u_T := fun k => match k with
  | _ => ("", "", "", false)
def tyJ0 : Nat → FieldType := fun k => match k with
  | _ => .int
abbrev wsJ00 : List Cond := u_ws RJ0 TJ0 0
theorem nmJ0 : ∀ a, a < 0 → ∀ b, b < 0 → a ≠ b → (TJ0 a).2.1 ≠ (TJ0 b).2.1 := by decide +kernel
theorem tyJ0_ok : ∀ k, k < 0 → parseFieldDescriptor (TJ0 k).2.2.1 = some (tyJ0 k) := by decide +kernel
def RJ10 : String := "java/lang/System"
def TJ10 : u_T := fun k => match k with
  | _ => ("", "", "", false)
def tyJ10 : Nat → FieldType := fun k => match k with
  | _ => .int
abbrev wsJ100 : List Cond := u_ws RJ10 TJ10 0
theorem nmJ10 : ∀ a, a < 0 → ∀ b, b < 0 → a ≠ b → (TJ10 a).2.1 ≠ (TJ10 b).2.1 := by decide +kernel
theorem tyJ10_ok : ∀ k, k < 0 → parseFieldDescriptor (TJ10 k).2.2.1 = some (tyJ10 k) := by decide +kernel
def RJxa1e45 : String := "java/util/AbstractCollection"
def TJxa1e45 : u_T := fun k => match k with
  | _ => ("", "", "", false)
def tyJxa1e45 : Nat → FieldType := fun k => match k with
  | _ => .int
abbrev wsJxa1e450 : List Cond := u_ws RJxa1e45 TJxa1e45 0
theorem nmJxa1e45 : ∀ a, a < 0 → ∀ b, b < 0 → a ≠ b → (TJxa1e45 a).2.1 ≠ (TJxa1e45 b).2.1 := by decide +kernel
theorem tyJxa1e45_ok : ∀ k, k < 0 → parseFieldDescriptor (TJxa1e45 k).2.2.1 = some (tyJxa1e45 k) := by decide +kernel
abbrev cJxa1e45_init_da8c8 : ByteArray := prog_21_method_1_code
def yJxa1e45_init_da8c8 : MethodName := ⟨RJxa1e45, "<init>", "()V"⟩
def RJxc12de : String := "java/util/AbstractList"
def TJxc12de : u_T := fun k => match k with
  | _ => ("", "", "", false)
def tyJxc12de : Nat → FieldType := fun k => match k with
  | _ => .int
abbrev wsJxc12de0 : List Cond := u_ws RJxc12de TJxc12de 0
theorem nmJxc12de : ∀ a, a < 0 → ∀ b, b < 0 → a ≠ b → (TJxc12de a).2.1 ≠ (TJxc12de b).2.1 := by decide +kernel
theorem tyJxc12de_ok : ∀ k, k < 0 → parseFieldDescriptor (TJxc12de k).2.2.1 = some (tyJxc12de k) := by decide +kernel
abbrev cJxc12de_init_da8c8 : ByteArray := prog_22_method_1_code
def yJxc12de_init_da8c8 : MethodName := ⟨RJxc12de, "<init>", "()V"⟩
def RJx4a65c : String := "java/util/ArrayList"
def TJx4a65c : u_T := fun k => match k with
  | 0 => ("java/util/AbstractList", "modCount", "I", false)
  | 1 => ("java/util/ArrayList", "elementData", "[Ljava/lang/Object;", false)
  | _ => ("java/util/ArrayList", "size", "I", false)
def tyJx4a65c : Nat → FieldType := fun k => match k with
  | 0 => .int
  | 1 => .array (.object "java/lang/Object")
  | _ => .int
abbrev wsJx4a65c0 : List Cond := u_ws RJx4a65c TJx4a65c 3
theorem nmJx4a65c : ∀ a, a < 3 → ∀ b, b < 3 → a ≠ b → (TJx4a65c a).2.1 ≠ (TJx4a65c b).2.1 := by decide +kernel
theorem tyJx4a65c_ok : ∀ k, k < 3 → parseFieldDescriptor (TJx4a65c k).2.2.1 = some (tyJx4a65c k) := by decide +kernel
abbrev cJx4a65c_init_da8c8 : ByteArray := prog_23_method_2_code
def yJx4a65c_init_da8c8 : MethodName := ⟨RJx4a65c, "<init>", "()V"⟩
abbrev cJx4a65c_grow_92f84 : ByteArray := prog_23_method_6_code
def yJx4a65c_grow_92f84 : MethodName := ⟨RJx4a65c, "grow", "(I)[Ljava/lang/Object;"⟩
abbrev cJx4a65c_grow_d5877 : ByteArray := prog_23_method_7_code
def yJx4a65c_grow_d5877 : MethodName := ⟨RJx4a65c, "grow", "()[Ljava/lang/Object;"⟩
abbrev cJx4a65c_size_8abf5 : ByteArray := prog_23_method_8_code
def yJx4a65c_size_8abf5 : MethodName := ⟨RJx4a65c, "size", "()I"⟩
abbrev cJx4a65c_elementData_915e3 : ByteArray := prog_23_method_18_code
def yJx4a65c_elementData_915e3 : MethodName := ⟨RJx4a65c, "elementData", "(I)Ljava/lang/Object;"⟩
abbrev cJx4a65c_get_915e3 : ByteArray := prog_23_method_20_code
def yJx4a65c_get_915e3 : MethodName := ⟨RJx4a65c, "get", "(I)Ljava/lang/Object;"⟩
abbrev cJx4a65c_add_72be8 : ByteArray := prog_23_method_24_code
def yJx4a65c_add_72be8 : MethodName := ⟨RJx4a65c, "add", "(Ljava/lang/Object;[Ljava/lang/Object;I)V"⟩
abbrev cJx4a65c_add_9ea2d : ByteArray := prog_23_method_25_code
def yJx4a65c_add_9ea2d : MethodName := ⟨RJx4a65c, "add", "(Ljava/lang/Object;)Z"⟩
def RJ7 : String := "java/util/Arrays"
def TJ7 : u_T := fun k => match k with
  | _ => ("", "", "", false)
def tyJ7 : Nat → FieldType := fun k => match k with
  | _ => .int
abbrev wsJ70 : List Cond := u_ws RJ7 TJ7 0
theorem nmJ7 : ∀ a, a < 0 → ∀ b, b < 0 → a ≠ b → (TJ7 a).2.1 ≠ (TJ7 b).2.1 := by decide +kernel
theorem tyJ7_ok : ∀ k, k < 0 → parseFieldDescriptor (TJ7 k).2.2.1 = some (tyJ7 k) := by decide +kernel
abbrev cJ7_copyOf_1904c : ByteArray := prog_24_method_119_code
def yJ7_copyOf_1904c : MethodName := ⟨RJ7, "copyOf", "([Ljava/lang/Object;I)[Ljava/lang/Object;"⟩
abbrev cJ7_copyOf_6403c : ByteArray := prog_24_method_120_code
def yJ7_copyOf_6403c : MethodName := ⟨RJ7, "copyOf", "([Ljava/lang/Object;ILjava/lang/Class;)[Ljava/lang/Object;"⟩
def RJx5ef63 : String := "java/util/Collection"
def TJx5ef63 : u_T := fun k => match k with
  | _ => ("", "", "", false)
def tyJx5ef63 : Nat → FieldType := fun k => match k with
  | _ => .int
abbrev wsJx5ef630 : List Cond := u_ws RJx5ef63 TJx5ef63 0
theorem nmJx5ef63 : ∀ a, a < 0 → ∀ b, b < 0 → a ≠ b → (TJx5ef63 a).2.1 ≠ (TJx5ef63 b).2.1 := by decide +kernel
theorem tyJx5ef63_ok : ∀ k, k < 0 → parseFieldDescriptor (TJx5ef63 k).2.2.1 = some (tyJx5ef63 k) := by decide +kernel
def RJxbd725 : String := "java/util/List"
def TJxbd725 : u_T := fun k => match k with
  | _ => ("", "", "", false)
def tyJxbd725 : Nat → FieldType := fun k => match k with
  | _ => .int
abbrev wsJxbd7250 : List Cond := u_ws RJxbd725 TJxbd725 0
theorem nmJxbd725 : ∀ a, a < 0 → ∀ b, b < 0 → a ≠ b → (TJxbd725 a).2.1 ≠ (TJxbd725 b).2.1 := by decide +kernel
theorem tyJxbd725_ok : ∀ k, k < 0 → parseFieldDescriptor (TJxbd725 k).2.2.1 = some (tyJxbd725 k) := by decide +kernel
def RJ15 : String := "java/util/Objects"
def TJ15 : u_T := fun k => match k with
  | _ => ("", "", "", false)
def tyJ15 : Nat → FieldType := fun k => match k with
  | _ => .int
abbrev wsJ150 : List Cond := u_ws RJ15 TJ15 0
theorem nmJ15 : ∀ a, a < 0 → ∀ b, b < 0 → a ≠ b → (TJ15 a).2.1 ≠ (TJ15 b).2.1 := by decide +kernel
theorem tyJ15_ok : ∀ k, k < 0 → parseFieldDescriptor (TJ15 k).2.2.1 = some (tyJ15 k) := by decide +kernel
abbrev cJ15_checkIndex_7cf53 : ByteArray := prog_27_method_17_code
def yJ15_checkIndex_7cf53 : MethodName := ⟨RJ15, "checkIndex", "(II)I"⟩
def RJxf0a74 : String := "java/util/RandomAccess"
def TJxf0a74 : u_T := fun k => match k with
  | _ => ("", "", "", false)
def tyJxf0a74 : Nat → FieldType := fun k => match k with
  | _ => .int
abbrev wsJxf0a740 : List Cond := u_ws RJxf0a74 TJxf0a74 0
theorem nmJxf0a74 : ∀ a, a < 0 → ∀ b, b < 0 → a ≠ b → (TJxf0a74 a).2.1 ≠ (TJxf0a74 b).2.1 := by decide +kernel
theorem tyJxf0a74_ok : ∀ k, k < 0 → parseFieldDescriptor (TJxf0a74 k).2.2.1 = some (tyJxf0a74 k) := by decide +kernel
def RJxa66e6 : String := "java/util/SequencedCollection"
def TJxa66e6 : u_T := fun k => match k with
  | _ => ("", "", "", false)
def tyJxa66e6 : Nat → FieldType := fun k => match k with
  | _ => .int
abbrev wsJxa66e60 : List Cond := u_ws RJxa66e6 TJxa66e6 0
theorem nmJxa66e6 : ∀ a, a < 0 → ∀ b, b < 0 → a ≠ b → (TJxa66e6 a).2.1 ≠ (TJxa66e6 b).2.1 := by decide +kernel
theorem tyJxa66e6_ok : ∀ k, k < 0 → parseFieldDescriptor (TJxa66e6 k).2.2.1 = some (tyJxa66e6 k) := by decide +kernel
def RJ8 : String := "jdk/internal/util/ArraysSupport"
def TJ8 : u_T := fun k => match k with
  | _ => ("", "", "", false)
def tyJ8 : Nat → FieldType := fun k => match k with
  | _ => .int
abbrev wsJ80 : List Cond := u_ws RJ8 TJ8 0
theorem nmJ8 : ∀ a, a < 0 → ∀ b, b < 0 → a ≠ b → (TJ8 a).2.1 ≠ (TJ8 b).2.1 := by decide +kernel
theorem tyJ8_ok : ∀ k, k < 0 → parseFieldDescriptor (TJ8 k).2.2.1 = some (tyJ8 k) := by decide +kernel
abbrev cJ8_newLength_cabcc : ByteArray := prog_30_method_27_code
def yJ8_newLength_cabcc : MethodName := ⟨RJ8, "newLength", "(III)I"⟩
abbrev cJ8_hugeLength_7cf53 : ByteArray := prog_30_method_28_code
def yJ8_hugeLength_7cf53 : MethodName := ⟨RJ8, "hugeLength", "(II)I"⟩
def RJ3 : String := "jdk/internal/util/Preconditions"
def TJ3 : u_T := fun k => match k with
  | _ => ("", "", "", false)
def tyJ3 : Nat → FieldType := fun k => match k with
  | _ => .int
abbrev wsJ30 : List Cond := u_ws RJ3 TJ3 0
theorem nmJ3 : ∀ a, a < 0 → ∀ b, b < 0 → a ≠ b → (TJ3 a).2.1 ≠ (TJ3 b).2.1 := by decide +kernel
theorem tyJ3_ok : ∀ k, k < 0 → parseFieldDescriptor (TJ3 k).2.2.1 = some (tyJ3 k) := by decide +kernel
abbrev cJ3_checkIndex_8e157 : ByteArray := prog_31_method_11_code
def yJ3_checkIndex_8e157 : MethodName := ⟨RJ3, "checkIndex", "(IILjava/util/function/BiFunction;)I"⟩
def RL : String := "YarncourtLaw"
abbrev cL_begin : ByteArray := method_3_code
def yL_begin : MethodName := ⟨RL, "begin", "(LYarncourt;III[J)I"⟩
abbrev cL_line : ByteArray := method_4_code
def yL_line : MethodName := ⟨RL, "line", "(LYarncourt;IIIII[J)I"⟩
abbrev cL_anew : ByteArray := method_5_code
def yL_anew : MethodName := ⟨RL, "anew", "(LYarncourt;II[J)I"⟩
abbrev cL_publish : ByteArray := method_6_code
def yL_publish : MethodName := ⟨RL, "publish", "(LYarncourt;I[J)I"⟩
abbrev cL_original : ByteArray := method_7_code
def yL_original : MethodName := ⟨RL, "original", "(LYarncourt;I[J)I"⟩
abbrev cL_rows : ByteArray := method_8_code
def yL_rows : MethodName := ⟨RL, "rows", "(LYarncourt;I[J)I"⟩
abbrev cL_stitch : ByteArray := method_9_code
def yL_stitch : MethodName := ⟨RL, "stitch", "(LYarncourt;III[J)I"⟩
abbrev cL_stitchByWork : ByteArray := method_10_code
def yL_stitchByWork : MethodName := ⟨RL, "stitchByWork", "(LYarncourt;III[J)I"⟩
abbrev cL_need : ByteArray := method_11_code
def yL_need : MethodName := ⟨RL, "need", "(LYarncourt;II[J)I"⟩
abbrev cL_buy : ByteArray := method_12_code
def yL_buy : MethodName := ⟨RL, "buy", "(LYarncourt;II[J)I"⟩
abbrev cL_rule : ByteArray := method_13_code
def yL_rule : MethodName := ⟨RL, "rule", "(LYarncourt;I[J)I"⟩
abbrev cL_money : ByteArray := method_14_code
def yL_money : MethodName := ⟨RL, "money", "(LYarncourt;I[J)I"⟩
abbrev cL_lot : ByteArray := method_15_code
def yL_lot : MethodName := ⟨RL, "lot", "(LYarncourt;III[J)I"⟩
abbrev cL_swap : ByteArray := method_16_code
def yL_swap : MethodName := ⟨RL, "swap", "(LYarncourt;II[J)I"⟩
abbrev cL_left : ByteArray := method_17_code
def yL_left : MethodName := ⟨RL, "left", "(LYarncourt;I[J)I"⟩
abbrev cL_project : ByteArray := method_18_code
def yL_project : MethodName := ⟨RL, "project", "(LYarncourt;III[J)I"⟩
abbrev cL_take : ByteArray := method_19_code
def yL_take : MethodName := ⟨RL, "take", "(LYarncourt;II[J)I"⟩
abbrev cL_knit : ByteArray := method_20_code
def yL_knit : MethodName := ⟨RL, "knit", "(LYarncourt;II[J)I"⟩
abbrev cL_progress : ByteArray := method_21_code
def yL_progress : MethodName := ⟨RL, "progress", "(LYarncourt;I[J)I"⟩
abbrev cL_law : ByteArray := code
def yL_law : MethodName := ⟨RL, "law", "([I)Z"⟩
def wsX0_init : List Cond := .code yX0_init cX0_init 2 none :: ([.methodLink RX0 3 objectInit, .instanceMethod objectInit, .code objectInit ⟨#[0xb1]⟩ 1 none, .fieldLink RX0 9 "Yarncourt$Chart" "rowCount" "I", .arrayClass .int, .fieldLink RX0 15 "Yarncourt$Chart" "stitches" "[I", .fieldLink RX0 19 "Yarncourt$Chart" "yarnOfRow" "[I", .fieldLink RX0 22 "Yarncourt$Chart" "nextWidth" "I"] ++ wsX00)
def wsX0_drawRow : List Cond := .code yX0_drawRow cX0_drawRow 8 (some .int) :: ([.fieldLink RX0 22 "Yarncourt$Chart" "nextWidth" "I", .fieldLink RX0 15 "Yarncourt$Chart" "stitches" "[I"] ++ wsX00)
def wsX5_within : List Cond := .code yX5_within cX5_within 3 (some .int) :: ([.methodLink RX5 245 Lib.Math.max.name, .static Lib.Math.max.name, .initialized "java/lang/Math", .code Lib.Math.max.name Lib.Math.max.code 2 (some .int), .methodLink RX5 250 Lib.Math.min.name, .static Lib.Math.min.name, .code Lib.Math.min.name Lib.Math.min.code 2 (some .int)])
def wsX5_widthAfter : List Cond := .code yX5_widthAfter cX5_widthAfter 2 (some .int) :: ([.methodLink RX5 112 yX5_within, .static yX5_within, .initialized RX5, .code yX5_within cX5_within 3 (some .int), .methodLink RX5 245 Lib.Math.max.name, .static Lib.Math.max.name, .initialized "java/lang/Math", .code Lib.Math.max.name Lib.Math.max.code 2 (some .int), .methodLink RX5 250 Lib.Math.min.name, .static Lib.Math.min.name, .code Lib.Math.min.name Lib.Math.min.code 2 (some .int)])
def wsX0_drawLine : List Cond := .code yX0_drawLine cX0_drawLine 6 none :: ([.fieldLink RX0 9 "Yarncourt$Chart" "rowCount" "I", .fieldLink RX0 19 "Yarncourt$Chart" "yarnOfRow" "[I", .fieldLink RX0 22 "Yarncourt$Chart" "nextWidth" "I", .methodLink RX0 25 yX0_drawRow, .instanceMethod yX0_drawRow, .selects RX0 yX0_drawRow yX0_drawRow, .initialized RX0, .code yX0_drawRow cX0_drawRow 8 (some .int), .fieldLink RX0 15 "Yarncourt$Chart" "stitches" "[I", .static yX5_widthAfter, .initialized RX5, .code yX5_widthAfter cX5_widthAfter 2 (some .int), .methodLink RX5 112 yX5_within, .static yX5_within, .code yX5_within cX5_within 3 (some .int), .methodLink RX5 245 Lib.Math.max.name, .static Lib.Math.max.name, .initialized "java/lang/Math", .code Lib.Math.max.name Lib.Math.max.code 2 (some .int), .methodLink RX5 250 Lib.Math.min.name, .static Lib.Math.min.name, .code Lib.Math.min.name Lib.Math.min.code 2 (some .int)] ++ wsX00)
def wsX0_stitchAt : List Cond := .code yX0_stitchAt cX0_stitchAt 3 (some .int) :: ([.fieldLink RX0 15 "Yarncourt$Chart" "stitches" "[I"] ++ wsX00)
def wsX0_yarnOf : List Cond := .code yX0_yarnOf cX0_yarnOf 2 (some .int) :: ([.fieldLink RX0 19 "Yarncourt$Chart" "yarnOfRow" "[I"] ++ wsX00)
def wsX0_yarnOfAllRows : List Cond := .code yX0_yarnOfAllRows cX0_yarnOfAllRows 3 (some .int) :: ([.fieldLink RX0 9 "Yarncourt$Chart" "rowCount" "I", .fieldLink RX0 19 "Yarncourt$Chart" "yarnOfRow" "[I"] ++ wsX00)
def wsX0_isSameAs : List Cond := .code yX0_isSameAs cX0_isSameAs 3 (some .boolean) :: ([.fieldLink RX0 9 "Yarncourt$Chart" "rowCount" "I", .fieldLink RX0 15 "Yarncourt$Chart" "stitches" "[I"] ++ wsX00)
def wsX1_init : List Cond := .code yX1_init cX1_init 5 none :: ([.methodLink RX1 1 objectInit, .instanceMethod objectInit, .code objectInit ⟨#[0xb1]⟩ 1 none, .fieldLink RX1 7 "Yarncourt$Lot" "number" "I", .fieldLink RX1 13 "Yarncourt$Lot" "gauge" "I", .fieldLink RX1 16 "Yarncourt$Lot" "person" "I", .fieldLink RX1 19 "Yarncourt$Lot" "yarn" "I"] ++ wsX10)
def wsX3_init : List Cond := .code yX3_init cX3_init 2 none :: ([.methodLink RX3 3 objectInit, .instanceMethod objectInit, .code objectInit ⟨#[0xb1]⟩ 1 none, .arrayClass .int, .fieldLink RX3 9 "Yarncourt$Program" "knits" "[I", .fieldLink RX3 15 "Yarncourt$Program" "purls" "[I", .fieldLink RX3 18 "Yarncourt$Program" "shaping" "[I", .fieldLink RX3 21 "Yarncourt$Program" "times" "[I", .fieldLink RX3 24 "Yarncourt$Program" "lineCount" "I", .fieldLink RX3 28 "Yarncourt$Program" "firstWidth" "I"] ++ wsX30)
def wsX2_init_r1 : List Cond := [Cond.methodLink RX2 3 objectInit, Cond.instanceMethod objectInit, Cond.code objectInit ⟨#[0xb1]⟩ 1 none, Cond.arrayClass .boolean, Cond.fieldLink RX2 9 "Yarncourt$Pattern" "boughtBy" "[Z", Cond.fieldLink RX2 15 "Yarncourt$Pattern" "original" "LYarncourt$Pattern;", Cond.fieldLink RX2 19 "Yarncourt$Pattern" "takings" "I", Cond.fieldLink RX2 23 "Yarncourt$Pattern" "barred" "Z", Cond.fieldLink RX2 27 "Yarncourt$Pattern" "number" "I", Cond.fieldLink RX2 30 "Yarncourt$Pattern" "owner" "I", Cond.fieldLink RX2 33 "Yarncourt$Pattern" "price" "I", Cond.classLink RX2 36 RX3, Cond.instantiable RX3 6, Cond.initialized RX3, Cond.fieldLink RX2 41 "Yarncourt$Pattern" "program" "LYarncourt$Program;", Cond.classLink RX2 45 RX0, Cond.instantiable RX0 4, Cond.initialized RX0, Cond.fieldLink RX2 48 "Yarncourt$Pattern" "chart" "LYarncourt$Chart;", Cond.methodLink RX2 38 yX3_init, Cond.instanceMethod yX3_init, Cond.code yX3_init cX3_init 2 none, Cond.methodLink RX3 3 objectInit, Cond.arrayClass .int]
def wsX2_init_r2 : List Cond := [Cond.fieldLink RX3 9 "Yarncourt$Program" "knits" "[I", Cond.fieldLink RX3 15 "Yarncourt$Program" "purls" "[I", Cond.fieldLink RX3 18 "Yarncourt$Program" "shaping" "[I", Cond.fieldLink RX3 21 "Yarncourt$Program" "times" "[I", Cond.fieldLink RX3 24 "Yarncourt$Program" "lineCount" "I", Cond.fieldLink RX3 28 "Yarncourt$Program" "firstWidth" "I", Cond.methodLink RX2 47 yX0_init, Cond.instanceMethod yX0_init, Cond.code yX0_init cX0_init 2 none, Cond.methodLink RX0 3 objectInit, Cond.fieldLink RX0 9 "Yarncourt$Chart" "rowCount" "I", Cond.fieldLink RX0 15 "Yarncourt$Chart" "stitches" "[I", Cond.fieldLink RX0 19 "Yarncourt$Chart" "yarnOfRow" "[I", Cond.fieldLink RX0 22 "Yarncourt$Chart" "nextWidth" "I"]
def wsX2_init : List Cond := .code yX2_init cX2_init 5 none :: ((wsX2_init_r1 ++ wsX2_init_r2) ++ wsX20 ++ wsX30 ++ wsX00)
def wsX2_isPublished : List Cond := .code yX2_isPublished cX2_isPublished 1 (some .boolean) :: ([.fieldLink RX2 15 "Yarncourt$Pattern" "original" "LYarncourt$Pattern;"] ++ wsX20)
def wsX2_hasNoLines : List Cond := .code yX2_hasNoLines cX2_hasNoLines 1 (some .boolean) :: ([.fieldLink RX2 41 "Yarncourt$Pattern" "program" "LYarncourt$Program;"] ++ wsX20 ++ wsX30)
def wsX2_takesLine : List Cond := .code yX2_takesLine cX2_takesLine 2 (some .boolean) :: ([.fieldLink RX2 41 "Yarncourt$Pattern" "program" "LYarncourt$Program;", .fieldLink RX2 48 "Yarncourt$Pattern" "chart" "LYarncourt$Chart;", .fieldLink RX2 55 "Yarncourt$Chart" "rowCount" "I"] ++ wsX20 ++ wsX30 ++ wsX00)
def wsX3_append : List Cond := .code yX3_append cX3_append 5 none :: ([.fieldLink RX3 24 "Yarncourt$Program" "lineCount" "I", .fieldLink RX3 9 "Yarncourt$Program" "knits" "[I", .fieldLink RX3 15 "Yarncourt$Program" "purls" "[I", .fieldLink RX3 18 "Yarncourt$Program" "shaping" "[I", .fieldLink RX3 21 "Yarncourt$Program" "times" "[I"] ++ wsX30)
def wsX2_addLine_r1 : List Cond := [Cond.fieldLink RX2 41 "Yarncourt$Pattern" "program" "LYarncourt$Program;", Cond.fieldLink RX2 48 "Yarncourt$Pattern" "chart" "LYarncourt$Chart;", Cond.methodLink RX2 58 yX3_append, Cond.instanceMethod yX3_append, Cond.selects RX3 yX3_append yX3_append, Cond.initialized RX3, Cond.code yX3_append cX3_append 5 none, Cond.fieldLink RX3 24 "Yarncourt$Program" "lineCount" "I", Cond.fieldLink RX3 9 "Yarncourt$Program" "knits" "[I", Cond.fieldLink RX3 15 "Yarncourt$Program" "purls" "[I", Cond.fieldLink RX3 18 "Yarncourt$Program" "shaping" "[I", Cond.fieldLink RX3 21 "Yarncourt$Program" "times" "[I", Cond.methodLink RX2 62 yX0_drawLine, Cond.instanceMethod yX0_drawLine, Cond.selects RX0 yX0_drawLine yX0_drawLine, Cond.initialized RX0, Cond.code yX0_drawLine cX0_drawLine 6 none, Cond.fieldLink RX0 9 "Yarncourt$Chart" "rowCount" "I", Cond.fieldLink RX0 19 "Yarncourt$Chart" "yarnOfRow" "[I", Cond.fieldLink RX0 22 "Yarncourt$Chart" "nextWidth" "I", Cond.methodLink RX0 25 yX0_drawRow, Cond.instanceMethod yX0_drawRow, Cond.selects RX0 yX0_drawRow yX0_drawRow, Cond.code yX0_drawRow cX0_drawRow 8 (some .int)]
def wsX2_addLine_r2 : List Cond := [Cond.fieldLink RX0 15 "Yarncourt$Chart" "stitches" "[I", Cond.static yX5_widthAfter, Cond.initialized RX5, Cond.code yX5_widthAfter cX5_widthAfter 2 (some .int), Cond.methodLink RX5 112 yX5_within, Cond.static yX5_within, Cond.code yX5_within cX5_within 3 (some .int), Cond.methodLink RX5 245 Lib.Math.max.name, Cond.static Lib.Math.max.name, Cond.initialized "java/lang/Math", Cond.code Lib.Math.max.name Lib.Math.max.code 2 (some .int), Cond.methodLink RX5 250 Lib.Math.min.name, Cond.static Lib.Math.min.name, Cond.code Lib.Math.min.name Lib.Math.min.code 2 (some .int)]
def wsX2_addLine : List Cond := .code yX2_addLine cX2_addLine 5 none :: ((wsX2_addLine_r1 ++ wsX2_addLine_r2) ++ wsX20 ++ wsX30 ++ wsX00)
def wsX5_forGauge : List Cond := .code yX5_forGauge cX5_forGauge 2 (some .int) :: ([])
def wsX3_timesFor : List Cond := .code yX3_timesFor cX3_timesFor 3 (some .int) :: ([.fieldLink RX3 21 "Yarncourt$Program" "times" "[I", .methodLink RX3 35 Lib.Math.max.name, .static Lib.Math.max.name, .initialized "java/lang/Math", .code Lib.Math.max.name Lib.Math.max.code 2 (some .int), .static yX5_forGauge, .initialized RX5, .code yX5_forGauge cX5_forGauge 2 (some .int)] ++ wsX30)
def wsX2_addLinesFor_r1 : List Cond := [Cond.methodLink RX2 75 yX3_timesFor, Cond.instanceMethod yX3_timesFor, Cond.selects RX3 yX3_timesFor yX3_timesFor, Cond.initialized RX3, Cond.code yX3_timesFor cX3_timesFor 3 (some .int), Cond.fieldLink RX3 21 "Yarncourt$Program" "times" "[I", Cond.methodLink RX3 35 Lib.Math.max.name, Cond.static Lib.Math.max.name, Cond.initialized "java/lang/Math", Cond.code Lib.Math.max.name Lib.Math.max.code 2 (some .int), Cond.static yX5_forGauge, Cond.initialized RX5, Cond.code yX5_forGauge cX5_forGauge 2 (some .int), Cond.methodLink RX2 79 yX2_addLine, Cond.instanceMethod yX2_addLine, Cond.selects RX2 yX2_addLine yX2_addLine, Cond.initialized RX2, Cond.code yX2_addLine cX2_addLine 5 none, Cond.fieldLink RX2 41 "Yarncourt$Pattern" "program" "LYarncourt$Program;", Cond.fieldLink RX2 48 "Yarncourt$Pattern" "chart" "LYarncourt$Chart;", Cond.methodLink RX2 58 yX3_append, Cond.instanceMethod yX3_append, Cond.selects RX3 yX3_append yX3_append, Cond.code yX3_append cX3_append 5 none]
def wsX2_addLinesFor_r2 : List Cond := [Cond.fieldLink RX3 24 "Yarncourt$Program" "lineCount" "I", Cond.fieldLink RX3 9 "Yarncourt$Program" "knits" "[I", Cond.fieldLink RX3 15 "Yarncourt$Program" "purls" "[I", Cond.fieldLink RX3 18 "Yarncourt$Program" "shaping" "[I", Cond.methodLink RX2 62 yX0_drawLine, Cond.instanceMethod yX0_drawLine, Cond.selects RX0 yX0_drawLine yX0_drawLine, Cond.initialized RX0, Cond.code yX0_drawLine cX0_drawLine 6 none, Cond.fieldLink RX0 9 "Yarncourt$Chart" "rowCount" "I", Cond.fieldLink RX0 19 "Yarncourt$Chart" "yarnOfRow" "[I", Cond.fieldLink RX0 22 "Yarncourt$Chart" "nextWidth" "I", Cond.methodLink RX0 25 yX0_drawRow, Cond.instanceMethod yX0_drawRow, Cond.selects RX0 yX0_drawRow yX0_drawRow, Cond.code yX0_drawRow cX0_drawRow 8 (some .int), Cond.fieldLink RX0 15 "Yarncourt$Chart" "stitches" "[I", Cond.static yX5_widthAfter, Cond.code yX5_widthAfter cX5_widthAfter 2 (some .int), Cond.methodLink RX5 112 yX5_within, Cond.static yX5_within, Cond.code yX5_within cX5_within 3 (some .int), Cond.methodLink RX5 245 Lib.Math.max.name, Cond.methodLink RX5 250 Lib.Math.min.name]
def wsX2_addLinesFor_r3 : List Cond := [Cond.static Lib.Math.min.name, Cond.code Lib.Math.min.name Lib.Math.min.code 2 (some .int)]
def wsX2_addLinesFor : List Cond := .code yX2_addLinesFor cX2_addLinesFor 4 none :: ((wsX2_addLinesFor_r1 ++ (wsX2_addLinesFor_r2 ++ wsX2_addLinesFor_r3)) ++ wsX30 ++ wsX20 ++ wsX00)
def wsX2_mayBeKnittedBy : List Cond := .code yX2_mayBeKnittedBy cX2_mayBeKnittedBy 2 (some .boolean) :: ([.fieldLink RX2 30 "Yarncourt$Pattern" "owner" "I", .fieldLink RX2 9 "Yarncourt$Pattern" "boughtBy" "[Z"] ++ wsX20)
def wsX3_rowsFor : List Cond := .code yX3_rowsFor cX3_rowsFor 4 (some .int) :: ([.fieldLink RX3 24 "Yarncourt$Program" "lineCount" "I", .methodLink RX3 40 yX3_timesFor, .instanceMethod yX3_timesFor, .selects RX3 yX3_timesFor yX3_timesFor, .initialized RX3, .code yX3_timesFor cX3_timesFor 3 (some .int), .fieldLink RX3 21 "Yarncourt$Program" "times" "[I", .methodLink RX3 35 Lib.Math.max.name, .static Lib.Math.max.name, .initialized "java/lang/Math", .code Lib.Math.max.name Lib.Math.max.code 2 (some .int), .static yX5_forGauge, .initialized RX5, .code yX5_forGauge cX5_forGauge 2 (some .int)] ++ wsX30)
def wsX3_workAlong : List Cond := .code yX3_workAlong cX3_workAlong 6 (some .int) :: ([.fieldLink RX3 9 "Yarncourt$Program" "knits" "[I", .fieldLink RX3 15 "Yarncourt$Program" "purls" "[I"] ++ wsX30)
def wsX3_workTo : List Cond := .code yX3_workTo cX3_workTo 7 (some .int) :: ([.fieldLink RX3 28 "Yarncourt$Program" "firstWidth" "I", .fieldLink RX3 24 "Yarncourt$Program" "lineCount" "I", .fieldLink RX3 21 "Yarncourt$Program" "times" "[I", .fieldLink RX3 18 "Yarncourt$Program" "shaping" "[I", .methodLink RX3 43 yX3_workAlong, .instanceMethod yX3_workAlong, .selects RX3 yX3_workAlong yX3_workAlong, .initialized RX3, .code yX3_workAlong cX3_workAlong 6 (some .int), .fieldLink RX3 9 "Yarncourt$Program" "knits" "[I", .fieldLink RX3 15 "Yarncourt$Program" "purls" "[I", .static yX5_widthAfter, .initialized RX5, .code yX5_widthAfter cX5_widthAfter 2 (some .int), .methodLink RX5 112 yX5_within, .static yX5_within, .code yX5_within cX5_within 3 (some .int), .methodLink RX5 245 Lib.Math.max.name, .static Lib.Math.max.name, .initialized "java/lang/Math", .code Lib.Math.max.name Lib.Math.max.code 2 (some .int), .methodLink RX5 250 Lib.Math.min.name, .static Lib.Math.min.name, .code Lib.Math.min.name Lib.Math.min.code 2 (some .int)] ++ wsX30)
def wsX4_init : List Cond := .code yX4_init cX4_init 4 none :: ([.methodLink RX4 1 objectInit, .instanceMethod objectInit, .code objectInit ⟨#[0xb1]⟩ 1 none, .fieldLink RX4 7 "Yarncourt$Project" "knitted" "I", .fieldLink RX4 13 "Yarncourt$Project" "person" "I", .fieldLink RX4 16 "Yarncourt$Project" "pattern" "LYarncourt$Pattern;", .fieldLink RX4 20 "Yarncourt$Project" "lot" "LYarncourt$Lot;"] ++ wsX40)
def wsX4_yarnOfNextRow : List Cond := .code yX4_yarnOfNextRow cX4_yarnOfNextRow 1 (some .int) :: ([.fieldLink RX4 20 "Yarncourt$Project" "lot" "LYarncourt$Lot;", .fieldLink RX4 49 "Yarncourt$Lot" "gauge" "I", .fieldLink RX4 16 "Yarncourt$Project" "pattern" "LYarncourt$Pattern;", .fieldLink RX4 37 "Yarncourt$Pattern" "chart" "LYarncourt$Chart;", .fieldLink RX4 7 "Yarncourt$Project" "knitted" "I", .methodLink RX4 52 yX0_yarnOf, .instanceMethod yX0_yarnOf, .selects RX0 yX0_yarnOf yX0_yarnOf, .initialized RX0, .code yX0_yarnOf cX0_yarnOf 2 (some .int), .fieldLink RX0 19 "Yarncourt$Chart" "yarnOfRow" "[I"] ++ wsX40 ++ wsX10 ++ wsX20 ++ wsX00)
def wsX4_canKnitRow : List Cond := .code yX4_canKnitRow cX4_canKnitRow 1 (some .boolean) :: ([.fieldLink RX4 7 "Yarncourt$Project" "knitted" "I", .fieldLink RX4 16 "Yarncourt$Project" "pattern" "LYarncourt$Pattern;", .fieldLink RX4 37 "Yarncourt$Pattern" "chart" "LYarncourt$Chart;", .fieldLink RX4 43 "Yarncourt$Chart" "rowCount" "I", .fieldLink RX4 20 "Yarncourt$Project" "lot" "LYarncourt$Lot;", .fieldLink RX4 48 "Yarncourt$Lot" "person" "I", .fieldLink RX4 13 "Yarncourt$Project" "person" "I", .fieldLink RX4 28 "Yarncourt$Lot" "yarn" "I", .methodLink RX4 33 yX4_yarnOfNextRow, .instanceMethod yX4_yarnOfNextRow, .selects RX4 yX4_yarnOfNextRow yX4_yarnOfNextRow, .initialized RX4, .code yX4_yarnOfNextRow cX4_yarnOfNextRow 1 (some .int), .fieldLink RX4 49 "Yarncourt$Lot" "gauge" "I", .methodLink RX4 52 yX0_yarnOf, .instanceMethod yX0_yarnOf, .selects RX0 yX0_yarnOf yX0_yarnOf, .initialized RX0, .code yX0_yarnOf cX0_yarnOf 2 (some .int), .fieldLink RX0 19 "Yarncourt$Chart" "yarnOfRow" "[I"] ++ wsX40 ++ wsX20 ++ wsX00 ++ wsX10)
def wsX4_knitUpTo : List Cond := .code yX4_knitUpTo cX4_knitUpTo 3 (some .int) :: ([.fieldLink RX4 20 "Yarncourt$Project" "lot" "LYarncourt$Lot;", .fieldLink RX4 28 "Yarncourt$Lot" "yarn" "I", .fieldLink RX4 7 "Yarncourt$Project" "knitted" "I", .methodLink RX4 24 yX4_canKnitRow, .instanceMethod yX4_canKnitRow, .selects RX4 yX4_canKnitRow yX4_canKnitRow, .initialized RX4, .code yX4_canKnitRow cX4_canKnitRow 1 (some .boolean), .fieldLink RX4 16 "Yarncourt$Project" "pattern" "LYarncourt$Pattern;", .fieldLink RX4 37 "Yarncourt$Pattern" "chart" "LYarncourt$Chart;", .fieldLink RX4 43 "Yarncourt$Chart" "rowCount" "I", .fieldLink RX4 48 "Yarncourt$Lot" "person" "I", .fieldLink RX4 13 "Yarncourt$Project" "person" "I", .methodLink RX4 33 yX4_yarnOfNextRow, .instanceMethod yX4_yarnOfNextRow, .selects RX4 yX4_yarnOfNextRow yX4_yarnOfNextRow, .code yX4_yarnOfNextRow cX4_yarnOfNextRow 1 (some .int), .fieldLink RX4 49 "Yarncourt$Lot" "gauge" "I", .methodLink RX4 52 yX0_yarnOf, .instanceMethod yX0_yarnOf, .selects RX0 yX0_yarnOf yX0_yarnOf, .initialized RX0, .code yX0_yarnOf cX0_yarnOf 2 (some .int), .fieldLink RX0 19 "Yarncourt$Chart" "yarnOfRow" "[I"] ++ wsX40 ++ wsX10 ++ wsX20 ++ wsX00)
def wsJxa1e45_init_da8c8 : List Cond := .code yJxa1e45_init_da8c8 cJxa1e45_init_da8c8 1 none :: ([.methodLink RJxa1e45 1 objectInit, .instanceMethod objectInit, .code objectInit ⟨#[0xb1]⟩ 1 none])
def wsJxc12de_init_da8c8 : List Cond := .code yJxc12de_init_da8c8 cJxc12de_init_da8c8 1 none :: ([.fieldLink RJxc12de 7 "java/util/AbstractList" "modCount" "I", .methodLink RJxc12de 1 yJxa1e45_init_da8c8, .instanceMethod yJxa1e45_init_da8c8, .initialized RJxa1e45, .code yJxa1e45_init_da8c8 cJxa1e45_init_da8c8 1 none, .methodLink RJxa1e45 1 objectInit, .instanceMethod objectInit, .code objectInit ⟨#[0xb1]⟩ 1 none] ++ wsJx4a65c0)
def wsJx4a65c_init_da8c8 : List Cond := .code yJx4a65c_init_da8c8 cJx4a65c_init_da8c8 1 none :: ([.fieldLink RJx4a65c 39 "java/util/ArrayList" "DEFAULTCAPACITY_EMPTY_ELEMENTDATA" "[Ljava/lang/Object;", .fieldLink RJx4a65c 9 "java/util/ArrayList" "elementData" "[Ljava/lang/Object;", .methodLink RJx4a65c 1 yJxc12de_init_da8c8, .instanceMethod yJxc12de_init_da8c8, .initialized RJxc12de, .code yJxc12de_init_da8c8 cJxc12de_init_da8c8 1 none, .fieldLink RJxc12de 7 "java/util/AbstractList" "modCount" "I", .methodLink RJxc12de 1 yJxa1e45_init_da8c8, .instanceMethod yJxa1e45_init_da8c8, .initialized RJxa1e45, .code yJxa1e45_init_da8c8 cJxa1e45_init_da8c8 1 none, .methodLink RJxa1e45 1 objectInit, .instanceMethod objectInit, .code objectInit ⟨#[0xb1]⟩ 1 none] ++ wsJx4a65c0)
def wsX5_init_r1 : List Cond := [Cond.methodLink RX5 1 objectInit, Cond.instanceMethod objectInit, Cond.code objectInit ⟨#[0xb1]⟩ 1 none, Cond.classLink RX5 7 RJx4a65c, Cond.instantiable RJx4a65c 3, Cond.initialized RJx4a65c, Cond.fieldLink RX5 10 "Yarncourt" "patterns" "Ljava/util/ArrayList;", Cond.fieldLink RX5 16 "Yarncourt" "inOrderOfPublishing" "Ljava/util/ArrayList;", Cond.fieldLink RX5 19 "Yarncourt" "lots" "Ljava/util/ArrayList;", Cond.fieldLink RX5 22 "Yarncourt" "projects" "Ljava/util/ArrayList;", Cond.arrayClass .int, Cond.fieldLink RX5 25 "Yarncourt" "purses" "[I", Cond.methodLink RX5 9 yJx4a65c_init_da8c8, Cond.instanceMethod yJx4a65c_init_da8c8, Cond.code yJx4a65c_init_da8c8 cJx4a65c_init_da8c8 1 none, Cond.fieldLink RJx4a65c 39 "java/util/ArrayList" "DEFAULTCAPACITY_EMPTY_ELEMENTDATA" "[Ljava/lang/Object;", Cond.fieldLink RJx4a65c 9 "java/util/ArrayList" "elementData" "[Ljava/lang/Object;", Cond.methodLink RJx4a65c 1 yJxc12de_init_da8c8, Cond.instanceMethod yJxc12de_init_da8c8, Cond.initialized RJxc12de, Cond.code yJxc12de_init_da8c8 cJxc12de_init_da8c8 1 none, Cond.fieldLink RJxc12de 7 "java/util/AbstractList" "modCount" "I", Cond.methodLink RJxc12de 1 yJxa1e45_init_da8c8, Cond.instanceMethod yJxa1e45_init_da8c8]
def wsX5_init_r2 : List Cond := [Cond.initialized RJxa1e45, Cond.code yJxa1e45_init_da8c8 cJxa1e45_init_da8c8 1 none, Cond.methodLink RJxa1e45 1 objectInit]
def wsX5_init : List Cond := .code yX5_init cX5_init 1 none :: ((wsX5_init_r1 ++ wsX5_init_r2) ++ wsJx4a65c0 ++ wsX50)
def wsX5_checkPerson : List Cond := .code yX5_checkPerson cX5_checkPerson 1 none :: ([.classLink RX5 219 "java/lang/IndexOutOfBoundsException", .initialized "java/lang/IndexOutOfBoundsException"] ++ (vx_atS RX5 223 "java/lang/IndexOutOfBoundsException" ["java/lang/RuntimeException", "java/lang/Exception"]).filter goodWord)
def wsX5_checkRange : List Cond := .code yX5_checkRange cX5_checkRange 3 none :: ([.classLink RX5 54 "java/lang/IllegalArgumentException", .initialized "java/lang/IllegalArgumentException"] ++ (vx_atS RX5 58 "java/lang/IllegalArgumentException" ["java/lang/RuntimeException", "java/lang/Exception"]).filter goodWord)
def wsJx4a65c_size_8abf5 : List Cond := .code yJx4a65c_size_8abf5 cJx4a65c_size_8abf5 1 (some .int) :: ([.fieldLink RJx4a65c 48 "java/util/ArrayList" "size" "I"] ++ wsJx4a65c0)
def wsX5_checkRoomForPattern : List Cond := .code yX5_checkRoomForPattern cX5_checkRoomForPattern 1 none :: ([.classLink RX5 69 "java/lang/IllegalStateException", .initialized "java/lang/IllegalStateException", .fieldLink RX5 10 "Yarncourt" "patterns" "Ljava/util/ArrayList;", .methodLink RX5 173 yJx4a65c_size_8abf5, .instanceMethod yJx4a65c_size_8abf5, .selects RJx4a65c yJx4a65c_size_8abf5 yJx4a65c_size_8abf5, .initialized RJx4a65c, .code yJx4a65c_size_8abf5 cJx4a65c_size_8abf5 1 (some .int), .fieldLink RJx4a65c 48 "java/util/ArrayList" "size" "I"] ++ wsX50 ++ wsJx4a65c0 ++ (vx_atS RX5 73 "java/lang/IllegalStateException" ["java/lang/RuntimeException", "java/lang/Exception"]).filter goodWord)
def wsJ8_hugeLength_7cf53 : List Cond := .code yJ8_hugeLength_7cf53 cJ8_hugeLength_7cf53 3 (some .int) :: ([.constant RJ8 200 (2147483639)])
def wsJ8_newLength_cabcc : List Cond := .code yJ8_newLength_cabcc cJ8_newLength_cabcc 4 (some .int) :: ([.methodLink RJ8 194 Lib.Math.max.name, .static Lib.Math.max.name, .initialized "java/lang/Math", .code Lib.Math.max.name Lib.Math.max.code 2 (some .int), .constant RJ8 200 (2147483639), .methodLink RJ8 201 yJ8_hugeLength_7cf53, .static yJ8_hugeLength_7cf53, .initialized RJ8, .code yJ8_hugeLength_7cf53 cJ8_hugeLength_7cf53 3 (some .int)])
def wsJ7_copyOf_6403c : List Cond := .code yJ7_copyOf_6403c cJ7_copyOf_6403c 4 (some (.array (.object "java/lang/Object"))) :: ([.classLink RJ7 110 "[Ljava/lang/Object;", .classLink RJ7 2 "java/lang/Object", .methodLink RJ7 304 Lib.Math.min.name, .static Lib.Math.min.name, .initialized "java/lang/Math", .code Lib.Math.min.name Lib.Math.min.code 2 (some .int), .methodLink RJ7 150 arraycopyName, .native arraycopyName, .static arraycopyName, .initialized "java/lang/System"])
def wsJ7_copyOf_1904c : List Cond := .code yJ7_copyOf_1904c cJ7_copyOf_1904c 2 (some (.array (.object "java/lang/Object"))) :: ([.methodLink RJ7 86 ⟨"java/lang/Object", "getClass", "()Ljava/lang/Class;"⟩, .selects "[Ljava/lang/Object;" ⟨"java/lang/Object", "getClass", "()Ljava/lang/Class;"⟩ ⟨"java/lang/Object", "getClass", "()Ljava/lang/Class;"⟩, .instanceMethod ⟨"java/lang/Object", "getClass", "()Ljava/lang/Class;"⟩, .native ⟨"java/lang/Object", "getClass", "()Ljava/lang/Class;"⟩, .methodLink RJ7 300 yJ7_copyOf_6403c, .static yJ7_copyOf_6403c, .initialized RJ7, .code yJ7_copyOf_6403c cJ7_copyOf_6403c 4 (some (.array (.object "java/lang/Object"))), .classLink RJ7 110 "[Ljava/lang/Object;", .classLink RJ7 2 "java/lang/Object", .methodLink RJ7 304 Lib.Math.min.name, .static Lib.Math.min.name, .initialized "java/lang/Math", .code Lib.Math.min.name Lib.Math.min.code 2 (some .int), .methodLink RJ7 150 arraycopyName, .native arraycopyName, .static arraycopyName, .initialized "java/lang/System"])
def wsJx4a65c_grow_92f84_r1 : List Cond := [Cond.fieldLink RJx4a65c 9 "java/util/ArrayList" "elementData" "[Ljava/lang/Object;", Cond.fieldLink RJx4a65c 39 "java/util/ArrayList" "DEFAULTCAPACITY_EMPTY_ELEMENTDATA" "[Ljava/lang/Object;", Cond.methodLink RJx4a65c 79 Lib.Math.max.name, Cond.static Lib.Math.max.name, Cond.initialized "java/lang/Math", Cond.code Lib.Math.max.name Lib.Math.max.code 2 (some .int), Cond.classLink RJx4a65c 7 "java/lang/Object", Cond.methodLink RJx4a65c 73 yJ8_newLength_cabcc, Cond.static yJ8_newLength_cabcc, Cond.initialized RJ8, Cond.code yJ8_newLength_cabcc cJ8_newLength_cabcc 4 (some .int), Cond.methodLink RJ8 194 Lib.Math.max.name, Cond.constant RJ8 200 (2147483639), Cond.methodLink RJ8 201 yJ8_hugeLength_7cf53, Cond.static yJ8_hugeLength_7cf53, Cond.code yJ8_hugeLength_7cf53 cJ8_hugeLength_7cf53 3 (some .int), Cond.methodLink RJx4a65c 66 yJ7_copyOf_1904c, Cond.static yJ7_copyOf_1904c, Cond.initialized RJ7, Cond.code yJ7_copyOf_1904c cJ7_copyOf_1904c 2 (some (.array (.object "java/lang/Object"))), Cond.methodLink RJ7 86 ⟨"java/lang/Object", "getClass", "()Ljava/lang/Class;"⟩, Cond.selects "[Ljava/lang/Object;" ⟨"java/lang/Object", "getClass", "()Ljava/lang/Class;"⟩ ⟨"java/lang/Object", "getClass", "()Ljava/lang/Class;"⟩, Cond.instanceMethod ⟨"java/lang/Object", "getClass", "()Ljava/lang/Class;"⟩, Cond.native ⟨"java/lang/Object", "getClass", "()Ljava/lang/Class;"⟩]
def wsJx4a65c_grow_92f84_r2 : List Cond := [Cond.methodLink RJ7 300 yJ7_copyOf_6403c, Cond.static yJ7_copyOf_6403c, Cond.code yJ7_copyOf_6403c cJ7_copyOf_6403c 4 (some (.array (.object "java/lang/Object"))), Cond.classLink RJ7 110 "[Ljava/lang/Object;", Cond.classLink RJ7 2 "java/lang/Object", Cond.methodLink RJ7 304 Lib.Math.min.name, Cond.static Lib.Math.min.name, Cond.code Lib.Math.min.name Lib.Math.min.code 2 (some .int), Cond.methodLink RJ7 150 arraycopyName, Cond.native arraycopyName, Cond.static arraycopyName, Cond.initialized "java/lang/System"]
def wsJx4a65c_grow_92f84 : List Cond := .code yJx4a65c_grow_92f84 cJx4a65c_grow_92f84 4 (some (.array (.object "java/lang/Object"))) :: ((wsJx4a65c_grow_92f84_r1 ++ wsJx4a65c_grow_92f84_r2) ++ wsJx4a65c0)
def wsJx4a65c_grow_d5877_r1 : List Cond := [Cond.fieldLink RJx4a65c 48 "java/util/ArrayList" "size" "I", Cond.methodLink RJx4a65c 69 yJx4a65c_grow_92f84, Cond.instanceMethod yJx4a65c_grow_92f84, Cond.selects RJx4a65c yJx4a65c_grow_92f84 yJx4a65c_grow_92f84, Cond.initialized RJx4a65c, Cond.code yJx4a65c_grow_92f84 cJx4a65c_grow_92f84 4 (some (.array (.object "java/lang/Object"))), Cond.fieldLink RJx4a65c 9 "java/util/ArrayList" "elementData" "[Ljava/lang/Object;", Cond.fieldLink RJx4a65c 39 "java/util/ArrayList" "DEFAULTCAPACITY_EMPTY_ELEMENTDATA" "[Ljava/lang/Object;", Cond.methodLink RJx4a65c 79 Lib.Math.max.name, Cond.static Lib.Math.max.name, Cond.initialized "java/lang/Math", Cond.code Lib.Math.max.name Lib.Math.max.code 2 (some .int), Cond.classLink RJx4a65c 7 "java/lang/Object", Cond.methodLink RJx4a65c 73 yJ8_newLength_cabcc, Cond.static yJ8_newLength_cabcc, Cond.initialized RJ8, Cond.code yJ8_newLength_cabcc cJ8_newLength_cabcc 4 (some .int), Cond.methodLink RJ8 194 Lib.Math.max.name, Cond.constant RJ8 200 (2147483639), Cond.methodLink RJ8 201 yJ8_hugeLength_7cf53, Cond.static yJ8_hugeLength_7cf53, Cond.code yJ8_hugeLength_7cf53 cJ8_hugeLength_7cf53 3 (some .int), Cond.methodLink RJx4a65c 66 yJ7_copyOf_1904c, Cond.static yJ7_copyOf_1904c]
def wsJx4a65c_grow_d5877_r2 : List Cond := [Cond.initialized RJ7, Cond.code yJ7_copyOf_1904c cJ7_copyOf_1904c 2 (some (.array (.object "java/lang/Object"))), Cond.methodLink RJ7 86 ⟨"java/lang/Object", "getClass", "()Ljava/lang/Class;"⟩, Cond.selects "[Ljava/lang/Object;" ⟨"java/lang/Object", "getClass", "()Ljava/lang/Class;"⟩ ⟨"java/lang/Object", "getClass", "()Ljava/lang/Class;"⟩, Cond.instanceMethod ⟨"java/lang/Object", "getClass", "()Ljava/lang/Class;"⟩, Cond.native ⟨"java/lang/Object", "getClass", "()Ljava/lang/Class;"⟩, Cond.methodLink RJ7 300 yJ7_copyOf_6403c, Cond.static yJ7_copyOf_6403c, Cond.code yJ7_copyOf_6403c cJ7_copyOf_6403c 4 (some (.array (.object "java/lang/Object"))), Cond.classLink RJ7 110 "[Ljava/lang/Object;", Cond.classLink RJ7 2 "java/lang/Object", Cond.methodLink RJ7 304 Lib.Math.min.name, Cond.static Lib.Math.min.name, Cond.code Lib.Math.min.name Lib.Math.min.code 2 (some .int), Cond.methodLink RJ7 150 arraycopyName, Cond.native arraycopyName, Cond.static arraycopyName, Cond.initialized "java/lang/System"]
def wsJx4a65c_grow_d5877 : List Cond := .code yJx4a65c_grow_d5877 cJx4a65c_grow_d5877 1 (some (.array (.object "java/lang/Object"))) :: ((wsJx4a65c_grow_d5877_r1 ++ wsJx4a65c_grow_d5877_r2) ++ wsJx4a65c0)
def wsJx4a65c_add_72be8_r1 : List Cond := [Cond.fieldLink RJx4a65c 48 "java/util/ArrayList" "size" "I", Cond.methodLink RJx4a65c 129 yJx4a65c_grow_d5877, Cond.instanceMethod yJx4a65c_grow_d5877, Cond.selects RJx4a65c yJx4a65c_grow_d5877 yJx4a65c_grow_d5877, Cond.initialized RJx4a65c, Cond.code yJx4a65c_grow_d5877 cJx4a65c_grow_d5877 1 (some (.array (.object "java/lang/Object"))), Cond.methodLink RJx4a65c 69 yJx4a65c_grow_92f84, Cond.instanceMethod yJx4a65c_grow_92f84, Cond.selects RJx4a65c yJx4a65c_grow_92f84 yJx4a65c_grow_92f84, Cond.code yJx4a65c_grow_92f84 cJx4a65c_grow_92f84 4 (some (.array (.object "java/lang/Object"))), Cond.fieldLink RJx4a65c 9 "java/util/ArrayList" "elementData" "[Ljava/lang/Object;", Cond.fieldLink RJx4a65c 39 "java/util/ArrayList" "DEFAULTCAPACITY_EMPTY_ELEMENTDATA" "[Ljava/lang/Object;", Cond.methodLink RJx4a65c 79 Lib.Math.max.name, Cond.static Lib.Math.max.name, Cond.initialized "java/lang/Math", Cond.code Lib.Math.max.name Lib.Math.max.code 2 (some .int), Cond.classLink RJx4a65c 7 "java/lang/Object", Cond.methodLink RJx4a65c 73 yJ8_newLength_cabcc, Cond.static yJ8_newLength_cabcc, Cond.initialized RJ8, Cond.code yJ8_newLength_cabcc cJ8_newLength_cabcc 4 (some .int), Cond.methodLink RJ8 194 Lib.Math.max.name, Cond.constant RJ8 200 (2147483639), Cond.methodLink RJ8 201 yJ8_hugeLength_7cf53]
def wsJx4a65c_add_72be8_r2 : List Cond := [Cond.static yJ8_hugeLength_7cf53, Cond.code yJ8_hugeLength_7cf53 cJ8_hugeLength_7cf53 3 (some .int), Cond.methodLink RJx4a65c 66 yJ7_copyOf_1904c, Cond.static yJ7_copyOf_1904c, Cond.initialized RJ7, Cond.code yJ7_copyOf_1904c cJ7_copyOf_1904c 2 (some (.array (.object "java/lang/Object"))), Cond.methodLink RJ7 86 ⟨"java/lang/Object", "getClass", "()Ljava/lang/Class;"⟩, Cond.selects "[Ljava/lang/Object;" ⟨"java/lang/Object", "getClass", "()Ljava/lang/Class;"⟩ ⟨"java/lang/Object", "getClass", "()Ljava/lang/Class;"⟩, Cond.instanceMethod ⟨"java/lang/Object", "getClass", "()Ljava/lang/Class;"⟩, Cond.native ⟨"java/lang/Object", "getClass", "()Ljava/lang/Class;"⟩, Cond.methodLink RJ7 300 yJ7_copyOf_6403c, Cond.static yJ7_copyOf_6403c, Cond.code yJ7_copyOf_6403c cJ7_copyOf_6403c 4 (some (.array (.object "java/lang/Object"))), Cond.classLink RJ7 110 "[Ljava/lang/Object;", Cond.classLink RJ7 2 "java/lang/Object", Cond.methodLink RJ7 304 Lib.Math.min.name, Cond.static Lib.Math.min.name, Cond.code Lib.Math.min.name Lib.Math.min.code 2 (some .int), Cond.methodLink RJ7 150 arraycopyName, Cond.native arraycopyName, Cond.static arraycopyName, Cond.initialized "java/lang/System"]
def wsJx4a65c_add_72be8 : List Cond := .code yJx4a65c_add_72be8 cJx4a65c_add_72be8 4 none :: ((wsJx4a65c_add_72be8_r1 ++ wsJx4a65c_add_72be8_r2) ++ wsJx4a65c0)
def wsJx4a65c_add_9ea2d_r1 : List Cond := [Cond.fieldLink RJx4a65c 63 "java/util/ArrayList" "modCount" "I", Cond.sameField "java/util/ArrayList" "java/util/AbstractList" "modCount" "I", Cond.fieldLink RJx4a65c 9 "java/util/ArrayList" "elementData" "[Ljava/lang/Object;", Cond.fieldLink RJx4a65c 48 "java/util/ArrayList" "size" "I", Cond.methodLink RJx4a65c 131 yJx4a65c_add_72be8, Cond.instanceMethod yJx4a65c_add_72be8, Cond.selects RJx4a65c yJx4a65c_add_72be8 yJx4a65c_add_72be8, Cond.initialized RJx4a65c, Cond.code yJx4a65c_add_72be8 cJx4a65c_add_72be8 4 none, Cond.methodLink RJx4a65c 129 yJx4a65c_grow_d5877, Cond.instanceMethod yJx4a65c_grow_d5877, Cond.selects RJx4a65c yJx4a65c_grow_d5877 yJx4a65c_grow_d5877, Cond.code yJx4a65c_grow_d5877 cJx4a65c_grow_d5877 1 (some (.array (.object "java/lang/Object"))), Cond.methodLink RJx4a65c 69 yJx4a65c_grow_92f84, Cond.instanceMethod yJx4a65c_grow_92f84, Cond.selects RJx4a65c yJx4a65c_grow_92f84 yJx4a65c_grow_92f84, Cond.code yJx4a65c_grow_92f84 cJx4a65c_grow_92f84 4 (some (.array (.object "java/lang/Object"))), Cond.fieldLink RJx4a65c 39 "java/util/ArrayList" "DEFAULTCAPACITY_EMPTY_ELEMENTDATA" "[Ljava/lang/Object;", Cond.methodLink RJx4a65c 79 Lib.Math.max.name, Cond.static Lib.Math.max.name, Cond.initialized "java/lang/Math", Cond.code Lib.Math.max.name Lib.Math.max.code 2 (some .int), Cond.classLink RJx4a65c 7 "java/lang/Object", Cond.methodLink RJx4a65c 73 yJ8_newLength_cabcc]
def wsJx4a65c_add_9ea2d_r2 : List Cond := [Cond.static yJ8_newLength_cabcc, Cond.initialized RJ8, Cond.code yJ8_newLength_cabcc cJ8_newLength_cabcc 4 (some .int), Cond.methodLink RJ8 194 Lib.Math.max.name, Cond.constant RJ8 200 (2147483639), Cond.methodLink RJ8 201 yJ8_hugeLength_7cf53, Cond.static yJ8_hugeLength_7cf53, Cond.code yJ8_hugeLength_7cf53 cJ8_hugeLength_7cf53 3 (some .int), Cond.methodLink RJx4a65c 66 yJ7_copyOf_1904c, Cond.static yJ7_copyOf_1904c, Cond.initialized RJ7, Cond.code yJ7_copyOf_1904c cJ7_copyOf_1904c 2 (some (.array (.object "java/lang/Object"))), Cond.methodLink RJ7 86 ⟨"java/lang/Object", "getClass", "()Ljava/lang/Class;"⟩, Cond.selects "[Ljava/lang/Object;" ⟨"java/lang/Object", "getClass", "()Ljava/lang/Class;"⟩ ⟨"java/lang/Object", "getClass", "()Ljava/lang/Class;"⟩, Cond.instanceMethod ⟨"java/lang/Object", "getClass", "()Ljava/lang/Class;"⟩, Cond.native ⟨"java/lang/Object", "getClass", "()Ljava/lang/Class;"⟩, Cond.methodLink RJ7 300 yJ7_copyOf_6403c, Cond.static yJ7_copyOf_6403c, Cond.code yJ7_copyOf_6403c cJ7_copyOf_6403c 4 (some (.array (.object "java/lang/Object"))), Cond.classLink RJ7 110 "[Ljava/lang/Object;", Cond.classLink RJ7 2 "java/lang/Object", Cond.methodLink RJ7 304 Lib.Math.min.name, Cond.static Lib.Math.min.name, Cond.code Lib.Math.min.name Lib.Math.min.code 2 (some .int)]
def wsJx4a65c_add_9ea2d_r3 : List Cond := [Cond.methodLink RJ7 150 arraycopyName, Cond.native arraycopyName, Cond.static arraycopyName, Cond.initialized "java/lang/System"]
def wsJx4a65c_add_9ea2d : List Cond := .code yJx4a65c_add_9ea2d cJx4a65c_add_9ea2d 2 (some .boolean) :: ((wsJx4a65c_add_9ea2d_r1 ++ (wsJx4a65c_add_9ea2d_r2 ++ wsJx4a65c_add_9ea2d_r3)) ++ wsJx4a65c0)
def wsX5_addPattern_r1 : List Cond := [Cond.classLink RX5 45 RX2, Cond.instantiable RX2 9, Cond.initialized RX2, Cond.fieldLink RX5 10 "Yarncourt" "patterns" "Ljava/util/ArrayList;", Cond.methodLink RX5 173 yJx4a65c_size_8abf5, Cond.instanceMethod yJx4a65c_size_8abf5, Cond.selects RJx4a65c yJx4a65c_size_8abf5 yJx4a65c_size_8abf5, Cond.initialized RJx4a65c, Cond.code yJx4a65c_size_8abf5 cJx4a65c_size_8abf5 1 (some .int), Cond.fieldLink RJx4a65c 48 "java/util/ArrayList" "size" "I", Cond.methodLink RX5 234 yX2_init, Cond.instanceMethod yX2_init, Cond.code yX2_init cX2_init 5 none, Cond.methodLink RX2 3 objectInit, Cond.instanceMethod objectInit, Cond.code objectInit ⟨#[0xb1]⟩ 1 none, Cond.arrayClass .boolean, Cond.fieldLink RX2 9 "Yarncourt$Pattern" "boughtBy" "[Z", Cond.fieldLink RX2 15 "Yarncourt$Pattern" "original" "LYarncourt$Pattern;", Cond.fieldLink RX2 19 "Yarncourt$Pattern" "takings" "I", Cond.fieldLink RX2 23 "Yarncourt$Pattern" "barred" "Z", Cond.fieldLink RX2 27 "Yarncourt$Pattern" "number" "I", Cond.fieldLink RX2 30 "Yarncourt$Pattern" "owner" "I", Cond.fieldLink RX2 33 "Yarncourt$Pattern" "price" "I"]
def wsX5_addPattern_r2 : List Cond := [Cond.classLink RX2 36 RX3, Cond.instantiable RX3 6, Cond.initialized RX3, Cond.fieldLink RX2 41 "Yarncourt$Pattern" "program" "LYarncourt$Program;", Cond.classLink RX2 45 RX0, Cond.instantiable RX0 4, Cond.initialized RX0, Cond.fieldLink RX2 48 "Yarncourt$Pattern" "chart" "LYarncourt$Chart;", Cond.methodLink RX2 38 yX3_init, Cond.instanceMethod yX3_init, Cond.code yX3_init cX3_init 2 none, Cond.methodLink RX3 3 objectInit, Cond.arrayClass .int, Cond.fieldLink RX3 9 "Yarncourt$Program" "knits" "[I", Cond.fieldLink RX3 15 "Yarncourt$Program" "purls" "[I", Cond.fieldLink RX3 18 "Yarncourt$Program" "shaping" "[I", Cond.fieldLink RX3 21 "Yarncourt$Program" "times" "[I", Cond.fieldLink RX3 24 "Yarncourt$Program" "lineCount" "I", Cond.fieldLink RX3 28 "Yarncourt$Program" "firstWidth" "I", Cond.methodLink RX2 47 yX0_init, Cond.instanceMethod yX0_init, Cond.code yX0_init cX0_init 2 none, Cond.methodLink RX0 3 objectInit, Cond.fieldLink RX0 9 "Yarncourt$Chart" "rowCount" "I"]
def wsX5_addPattern_r3 : List Cond := [Cond.fieldLink RX0 15 "Yarncourt$Chart" "stitches" "[I", Cond.fieldLink RX0 19 "Yarncourt$Chart" "yarnOfRow" "[I", Cond.fieldLink RX0 22 "Yarncourt$Chart" "nextWidth" "I", Cond.methodLink RX5 136 yJx4a65c_add_9ea2d, Cond.instanceMethod yJx4a65c_add_9ea2d, Cond.selects RJx4a65c yJx4a65c_add_9ea2d yJx4a65c_add_9ea2d, Cond.code yJx4a65c_add_9ea2d cJx4a65c_add_9ea2d 2 (some .boolean), Cond.fieldLink RJx4a65c 63 "java/util/ArrayList" "modCount" "I", Cond.sameField "java/util/ArrayList" "java/util/AbstractList" "modCount" "I", Cond.fieldLink RJx4a65c 9 "java/util/ArrayList" "elementData" "[Ljava/lang/Object;", Cond.methodLink RJx4a65c 131 yJx4a65c_add_72be8, Cond.instanceMethod yJx4a65c_add_72be8, Cond.selects RJx4a65c yJx4a65c_add_72be8 yJx4a65c_add_72be8, Cond.code yJx4a65c_add_72be8 cJx4a65c_add_72be8 4 none, Cond.methodLink RJx4a65c 129 yJx4a65c_grow_d5877, Cond.instanceMethod yJx4a65c_grow_d5877, Cond.selects RJx4a65c yJx4a65c_grow_d5877 yJx4a65c_grow_d5877, Cond.code yJx4a65c_grow_d5877 cJx4a65c_grow_d5877 1 (some (.array (.object "java/lang/Object"))), Cond.methodLink RJx4a65c 69 yJx4a65c_grow_92f84, Cond.instanceMethod yJx4a65c_grow_92f84, Cond.selects RJx4a65c yJx4a65c_grow_92f84 yJx4a65c_grow_92f84, Cond.code yJx4a65c_grow_92f84 cJx4a65c_grow_92f84 4 (some (.array (.object "java/lang/Object"))), Cond.fieldLink RJx4a65c 39 "java/util/ArrayList" "DEFAULTCAPACITY_EMPTY_ELEMENTDATA" "[Ljava/lang/Object;", Cond.methodLink RJx4a65c 79 Lib.Math.max.name]
def wsX5_addPattern_r4 : List Cond := [Cond.static Lib.Math.max.name, Cond.initialized "java/lang/Math", Cond.code Lib.Math.max.name Lib.Math.max.code 2 (some .int), Cond.classLink RJx4a65c 7 "java/lang/Object", Cond.methodLink RJx4a65c 73 yJ8_newLength_cabcc, Cond.static yJ8_newLength_cabcc, Cond.initialized RJ8, Cond.code yJ8_newLength_cabcc cJ8_newLength_cabcc 4 (some .int), Cond.methodLink RJ8 194 Lib.Math.max.name, Cond.constant RJ8 200 (2147483639), Cond.methodLink RJ8 201 yJ8_hugeLength_7cf53, Cond.static yJ8_hugeLength_7cf53, Cond.code yJ8_hugeLength_7cf53 cJ8_hugeLength_7cf53 3 (some .int), Cond.methodLink RJx4a65c 66 yJ7_copyOf_1904c, Cond.static yJ7_copyOf_1904c, Cond.initialized RJ7, Cond.code yJ7_copyOf_1904c cJ7_copyOf_1904c 2 (some (.array (.object "java/lang/Object"))), Cond.methodLink RJ7 86 ⟨"java/lang/Object", "getClass", "()Ljava/lang/Class;"⟩, Cond.selects "[Ljava/lang/Object;" ⟨"java/lang/Object", "getClass", "()Ljava/lang/Class;"⟩ ⟨"java/lang/Object", "getClass", "()Ljava/lang/Class;"⟩, Cond.instanceMethod ⟨"java/lang/Object", "getClass", "()Ljava/lang/Class;"⟩, Cond.native ⟨"java/lang/Object", "getClass", "()Ljava/lang/Class;"⟩, Cond.methodLink RJ7 300 yJ7_copyOf_6403c, Cond.static yJ7_copyOf_6403c, Cond.code yJ7_copyOf_6403c cJ7_copyOf_6403c 4 (some (.array (.object "java/lang/Object")))]
def wsX5_addPattern_r5 : List Cond := [Cond.classLink RJ7 110 "[Ljava/lang/Object;", Cond.classLink RJ7 2 "java/lang/Object", Cond.methodLink RJ7 304 Lib.Math.min.name, Cond.static Lib.Math.min.name, Cond.code Lib.Math.min.name Lib.Math.min.code 2 (some .int), Cond.methodLink RJ7 150 arraycopyName, Cond.native arraycopyName, Cond.static arraycopyName, Cond.initialized "java/lang/System"]
def wsX5_addPattern : List Cond := .code yX5_addPattern cX5_addPattern 5 (some (.object "Yarncourt$Pattern")) :: ((wsX5_addPattern_r1 ++ (wsX5_addPattern_r2 ++ (wsX5_addPattern_r3 ++ (wsX5_addPattern_r4 ++ wsX5_addPattern_r5)))) ++ wsX20 ++ wsX50 ++ wsJx4a65c0 ++ wsX30 ++ wsX00)
def wsX5_begin_r1 : List Cond := [Cond.fieldLink RX5 44 "Yarncourt$Pattern" "number" "I", Cond.methodLink RX5 29 yX5_checkPerson, Cond.static yX5_checkPerson, Cond.initialized RX5, Cond.code yX5_checkPerson cX5_checkPerson 1 none, Cond.classLink RX5 219 "java/lang/IndexOutOfBoundsException", Cond.initialized "java/lang/IndexOutOfBoundsException", Cond.methodLink RX5 33 yX5_checkRange, Cond.static yX5_checkRange, Cond.code yX5_checkRange cX5_checkRange 3 none, Cond.classLink RX5 54 "java/lang/IllegalArgumentException", Cond.initialized "java/lang/IllegalArgumentException", Cond.methodLink RX5 37 yX5_checkRoomForPattern, Cond.instanceMethod yX5_checkRoomForPattern, Cond.selects RX5 yX5_checkRoomForPattern yX5_checkRoomForPattern, Cond.code yX5_checkRoomForPattern cX5_checkRoomForPattern 1 none, Cond.classLink RX5 69 "java/lang/IllegalStateException", Cond.initialized "java/lang/IllegalStateException", Cond.fieldLink RX5 10 "Yarncourt" "patterns" "Ljava/util/ArrayList;", Cond.methodLink RX5 173 yJx4a65c_size_8abf5, Cond.instanceMethod yJx4a65c_size_8abf5, Cond.selects RJx4a65c yJx4a65c_size_8abf5 yJx4a65c_size_8abf5, Cond.initialized RJx4a65c, Cond.code yJx4a65c_size_8abf5 cJx4a65c_size_8abf5 1 (some .int)]
def wsX5_begin_r2 : List Cond := [Cond.fieldLink RJx4a65c 48 "java/util/ArrayList" "size" "I", Cond.methodLink RX5 40 yX5_addPattern, Cond.instanceMethod yX5_addPattern, Cond.selects RX5 yX5_addPattern yX5_addPattern, Cond.code yX5_addPattern cX5_addPattern 5 (some (.object "Yarncourt$Pattern")), Cond.classLink RX5 45 RX2, Cond.instantiable RX2 9, Cond.initialized RX2, Cond.methodLink RX5 234 yX2_init, Cond.instanceMethod yX2_init, Cond.code yX2_init cX2_init 5 none, Cond.methodLink RX2 3 objectInit, Cond.instanceMethod objectInit, Cond.code objectInit ⟨#[0xb1]⟩ 1 none, Cond.arrayClass .boolean, Cond.fieldLink RX2 9 "Yarncourt$Pattern" "boughtBy" "[Z", Cond.fieldLink RX2 15 "Yarncourt$Pattern" "original" "LYarncourt$Pattern;", Cond.fieldLink RX2 19 "Yarncourt$Pattern" "takings" "I", Cond.fieldLink RX2 23 "Yarncourt$Pattern" "barred" "Z", Cond.fieldLink RX2 27 "Yarncourt$Pattern" "number" "I", Cond.fieldLink RX2 30 "Yarncourt$Pattern" "owner" "I", Cond.fieldLink RX2 33 "Yarncourt$Pattern" "price" "I", Cond.classLink RX2 36 RX3, Cond.instantiable RX3 6]
def wsX5_begin_r3 : List Cond := [Cond.initialized RX3, Cond.fieldLink RX2 41 "Yarncourt$Pattern" "program" "LYarncourt$Program;", Cond.classLink RX2 45 RX0, Cond.instantiable RX0 4, Cond.initialized RX0, Cond.fieldLink RX2 48 "Yarncourt$Pattern" "chart" "LYarncourt$Chart;", Cond.methodLink RX2 38 yX3_init, Cond.instanceMethod yX3_init, Cond.code yX3_init cX3_init 2 none, Cond.methodLink RX3 3 objectInit, Cond.arrayClass .int, Cond.fieldLink RX3 9 "Yarncourt$Program" "knits" "[I", Cond.fieldLink RX3 15 "Yarncourt$Program" "purls" "[I", Cond.fieldLink RX3 18 "Yarncourt$Program" "shaping" "[I", Cond.fieldLink RX3 21 "Yarncourt$Program" "times" "[I", Cond.fieldLink RX3 24 "Yarncourt$Program" "lineCount" "I", Cond.fieldLink RX3 28 "Yarncourt$Program" "firstWidth" "I", Cond.methodLink RX2 47 yX0_init, Cond.instanceMethod yX0_init, Cond.code yX0_init cX0_init 2 none, Cond.methodLink RX0 3 objectInit, Cond.fieldLink RX0 9 "Yarncourt$Chart" "rowCount" "I", Cond.fieldLink RX0 15 "Yarncourt$Chart" "stitches" "[I", Cond.fieldLink RX0 19 "Yarncourt$Chart" "yarnOfRow" "[I"]
def wsX5_begin_r4 : List Cond := [Cond.fieldLink RX0 22 "Yarncourt$Chart" "nextWidth" "I", Cond.methodLink RX5 136 yJx4a65c_add_9ea2d, Cond.instanceMethod yJx4a65c_add_9ea2d, Cond.selects RJx4a65c yJx4a65c_add_9ea2d yJx4a65c_add_9ea2d, Cond.code yJx4a65c_add_9ea2d cJx4a65c_add_9ea2d 2 (some .boolean), Cond.fieldLink RJx4a65c 63 "java/util/ArrayList" "modCount" "I", Cond.sameField "java/util/ArrayList" "java/util/AbstractList" "modCount" "I", Cond.fieldLink RJx4a65c 9 "java/util/ArrayList" "elementData" "[Ljava/lang/Object;", Cond.methodLink RJx4a65c 131 yJx4a65c_add_72be8, Cond.instanceMethod yJx4a65c_add_72be8, Cond.selects RJx4a65c yJx4a65c_add_72be8 yJx4a65c_add_72be8, Cond.code yJx4a65c_add_72be8 cJx4a65c_add_72be8 4 none, Cond.methodLink RJx4a65c 129 yJx4a65c_grow_d5877, Cond.instanceMethod yJx4a65c_grow_d5877, Cond.selects RJx4a65c yJx4a65c_grow_d5877 yJx4a65c_grow_d5877, Cond.code yJx4a65c_grow_d5877 cJx4a65c_grow_d5877 1 (some (.array (.object "java/lang/Object"))), Cond.methodLink RJx4a65c 69 yJx4a65c_grow_92f84, Cond.instanceMethod yJx4a65c_grow_92f84, Cond.selects RJx4a65c yJx4a65c_grow_92f84 yJx4a65c_grow_92f84, Cond.code yJx4a65c_grow_92f84 cJx4a65c_grow_92f84 4 (some (.array (.object "java/lang/Object"))), Cond.fieldLink RJx4a65c 39 "java/util/ArrayList" "DEFAULTCAPACITY_EMPTY_ELEMENTDATA" "[Ljava/lang/Object;", Cond.methodLink RJx4a65c 79 Lib.Math.max.name, Cond.static Lib.Math.max.name, Cond.initialized "java/lang/Math"]
def wsX5_begin_r5 : List Cond := [Cond.code Lib.Math.max.name Lib.Math.max.code 2 (some .int), Cond.classLink RJx4a65c 7 "java/lang/Object", Cond.methodLink RJx4a65c 73 yJ8_newLength_cabcc, Cond.static yJ8_newLength_cabcc, Cond.initialized RJ8, Cond.code yJ8_newLength_cabcc cJ8_newLength_cabcc 4 (some .int), Cond.methodLink RJ8 194 Lib.Math.max.name, Cond.constant RJ8 200 (2147483639), Cond.methodLink RJ8 201 yJ8_hugeLength_7cf53, Cond.static yJ8_hugeLength_7cf53, Cond.code yJ8_hugeLength_7cf53 cJ8_hugeLength_7cf53 3 (some .int), Cond.methodLink RJx4a65c 66 yJ7_copyOf_1904c, Cond.static yJ7_copyOf_1904c, Cond.initialized RJ7, Cond.code yJ7_copyOf_1904c cJ7_copyOf_1904c 2 (some (.array (.object "java/lang/Object"))), Cond.methodLink RJ7 86 ⟨"java/lang/Object", "getClass", "()Ljava/lang/Class;"⟩, Cond.selects "[Ljava/lang/Object;" ⟨"java/lang/Object", "getClass", "()Ljava/lang/Class;"⟩ ⟨"java/lang/Object", "getClass", "()Ljava/lang/Class;"⟩, Cond.instanceMethod ⟨"java/lang/Object", "getClass", "()Ljava/lang/Class;"⟩, Cond.native ⟨"java/lang/Object", "getClass", "()Ljava/lang/Class;"⟩, Cond.methodLink RJ7 300 yJ7_copyOf_6403c, Cond.static yJ7_copyOf_6403c, Cond.code yJ7_copyOf_6403c cJ7_copyOf_6403c 4 (some (.array (.object "java/lang/Object"))), Cond.classLink RJ7 110 "[Ljava/lang/Object;", Cond.classLink RJ7 2 "java/lang/Object"]
def wsX5_begin_r6 : List Cond := [Cond.methodLink RJ7 304 Lib.Math.min.name, Cond.static Lib.Math.min.name, Cond.code Lib.Math.min.name Lib.Math.min.code 2 (some .int), Cond.methodLink RJ7 150 arraycopyName, Cond.native arraycopyName, Cond.static arraycopyName, Cond.initialized "java/lang/System"]
def wsX5_begin : List Cond := .code yX5_begin cX5_begin 4 (some .int) :: ((wsX5_begin_r1 ++ (wsX5_begin_r2 ++ (wsX5_begin_r3 ++ (wsX5_begin_r4 ++ (wsX5_begin_r5 ++ wsX5_begin_r6))))) ++ wsX20 ++ wsX50 ++ wsJx4a65c0 ++ wsX30 ++ wsX00 ++ (vx_atS RX5 223 "java/lang/IndexOutOfBoundsException" ["java/lang/RuntimeException", "java/lang/Exception"]).filter goodWord ++ (vx_atS RX5 58 "java/lang/IllegalArgumentException" ["java/lang/RuntimeException", "java/lang/Exception"]).filter goodWord ++ (vx_atS RX5 73 "java/lang/IllegalStateException" ["java/lang/RuntimeException", "java/lang/Exception"]).filter goodWord)
def wsJ3_checkIndex_8e157 : List Cond := .code yJ3_checkIndex_8e157 cJ3_checkIndex_8e157 3 (some .int) :: ([])
def wsJ15_checkIndex_7cf53 : List Cond := .code yJ15_checkIndex_7cf53 cJ15_checkIndex_7cf53 2 (some .int) :: ([.methodLink RJ15 105 yJ3_checkIndex_8e157, .static yJ3_checkIndex_8e157, .initialized RJ3, .code yJ3_checkIndex_8e157 cJ3_checkIndex_8e157 3 (some .int)])
def wsJx4a65c_elementData_915e3 : List Cond := .code yJx4a65c_elementData_915e3 cJx4a65c_elementData_915e3 2 (some (.object "java/lang/Object")) :: ([.fieldLink RJx4a65c 9 "java/util/ArrayList" "elementData" "[Ljava/lang/Object;"] ++ wsJx4a65c0)
def wsJx4a65c_get_915e3 : List Cond := .code yJx4a65c_get_915e3 cJx4a65c_get_915e3 2 (some (.object "java/lang/Object")) :: ([.fieldLink RJx4a65c 48 "java/util/ArrayList" "size" "I", .methodLink RJx4a65c 118 yJ15_checkIndex_7cf53, .static yJ15_checkIndex_7cf53, .initialized RJ15, .code yJ15_checkIndex_7cf53 cJ15_checkIndex_7cf53 2 (some .int), .methodLink RJ15 105 yJ3_checkIndex_8e157, .static yJ3_checkIndex_8e157, .initialized RJ3, .code yJ3_checkIndex_8e157 cJ3_checkIndex_8e157 3 (some .int), .methodLink RJx4a65c 123 yJx4a65c_elementData_915e3, .instanceMethod yJx4a65c_elementData_915e3, .selects RJx4a65c yJx4a65c_elementData_915e3 yJx4a65c_elementData_915e3, .initialized RJx4a65c, .code yJx4a65c_elementData_915e3 cJx4a65c_elementData_915e3 2 (some (.object "java/lang/Object")), .fieldLink RJx4a65c 9 "java/util/ArrayList" "elementData" "[Ljava/lang/Object;"] ++ wsJx4a65c0)
def wsX5_patternAt_r1 : List Cond := [Cond.classLink RX5 219 "java/lang/IndexOutOfBoundsException", Cond.initialized "java/lang/IndexOutOfBoundsException", Cond.fieldLink RX5 10 "Yarncourt" "patterns" "Ljava/util/ArrayList;", Cond.classLink RX5 45 "Yarncourt$Pattern", Cond.methodLink RX5 173 yJx4a65c_size_8abf5, Cond.instanceMethod yJx4a65c_size_8abf5, Cond.selects RJx4a65c yJx4a65c_size_8abf5 yJx4a65c_size_8abf5, Cond.initialized RJx4a65c, Cond.code yJx4a65c_size_8abf5 cJx4a65c_size_8abf5 1 (some .int), Cond.fieldLink RJx4a65c 48 "java/util/ArrayList" "size" "I", Cond.methodLink RX5 224 yJx4a65c_get_915e3, Cond.instanceMethod yJx4a65c_get_915e3, Cond.selects RJx4a65c yJx4a65c_get_915e3 yJx4a65c_get_915e3, Cond.code yJx4a65c_get_915e3 cJx4a65c_get_915e3 2 (some (.object "java/lang/Object")), Cond.methodLink RJx4a65c 118 yJ15_checkIndex_7cf53, Cond.static yJ15_checkIndex_7cf53, Cond.initialized RJ15, Cond.code yJ15_checkIndex_7cf53 cJ15_checkIndex_7cf53 2 (some .int), Cond.methodLink RJ15 105 yJ3_checkIndex_8e157, Cond.static yJ3_checkIndex_8e157, Cond.initialized RJ3, Cond.code yJ3_checkIndex_8e157 cJ3_checkIndex_8e157 3 (some .int), Cond.methodLink RJx4a65c 123 yJx4a65c_elementData_915e3, Cond.instanceMethod yJx4a65c_elementData_915e3]
def wsX5_patternAt_r2 : List Cond := [Cond.selects RJx4a65c yJx4a65c_elementData_915e3 yJx4a65c_elementData_915e3, Cond.code yJx4a65c_elementData_915e3 cJx4a65c_elementData_915e3 2 (some (.object "java/lang/Object")), Cond.fieldLink RJx4a65c 9 "java/util/ArrayList" "elementData" "[Ljava/lang/Object;"]
def wsX5_patternAt : List Cond := .code yX5_patternAt cX5_patternAt 2 (some (.object "Yarncourt$Pattern")) :: ((wsX5_patternAt_r1 ++ wsX5_patternAt_r2) ++ wsX50 ++ wsJx4a65c0 ++ (vx_atS RX5 223 "java/lang/IndexOutOfBoundsException" ["java/lang/RuntimeException", "java/lang/Exception"]).filter goodWord)
def wsX5_line_r1 : List Cond := [Cond.classLink RX5 54 "java/lang/IllegalArgumentException", Cond.initialized "java/lang/IllegalArgumentException", Cond.classLink RX5 69 "java/lang/IllegalStateException", Cond.initialized "java/lang/IllegalStateException", Cond.fieldLink RX5 78 "Yarncourt$Pattern" "chart" "LYarncourt$Chart;", Cond.fieldLink RX5 82 "Yarncourt$Chart" "rowCount" "I", Cond.methodLink RX5 50 yX5_patternAt, Cond.instanceMethod yX5_patternAt, Cond.selects RX5 yX5_patternAt yX5_patternAt, Cond.initialized RX5, Cond.code yX5_patternAt cX5_patternAt 2 (some (.object "Yarncourt$Pattern")), Cond.classLink RX5 219 "java/lang/IndexOutOfBoundsException", Cond.initialized "java/lang/IndexOutOfBoundsException", Cond.fieldLink RX5 10 "Yarncourt" "patterns" "Ljava/util/ArrayList;", Cond.classLink RX5 45 "Yarncourt$Pattern", Cond.methodLink RX5 173 yJx4a65c_size_8abf5, Cond.instanceMethod yJx4a65c_size_8abf5, Cond.selects RJx4a65c yJx4a65c_size_8abf5 yJx4a65c_size_8abf5, Cond.initialized RJx4a65c, Cond.code yJx4a65c_size_8abf5 cJx4a65c_size_8abf5 1 (some .int), Cond.fieldLink RJx4a65c 48 "java/util/ArrayList" "size" "I", Cond.methodLink RX5 224 yJx4a65c_get_915e3, Cond.instanceMethod yJx4a65c_get_915e3, Cond.selects RJx4a65c yJx4a65c_get_915e3 yJx4a65c_get_915e3]
def wsX5_line_r2 : List Cond := [Cond.code yJx4a65c_get_915e3 cJx4a65c_get_915e3 2 (some (.object "java/lang/Object")), Cond.methodLink RJx4a65c 118 yJ15_checkIndex_7cf53, Cond.static yJ15_checkIndex_7cf53, Cond.initialized RJ15, Cond.code yJ15_checkIndex_7cf53 cJ15_checkIndex_7cf53 2 (some .int), Cond.methodLink RJ15 105 yJ3_checkIndex_8e157, Cond.static yJ3_checkIndex_8e157, Cond.initialized RJ3, Cond.code yJ3_checkIndex_8e157 cJ3_checkIndex_8e157 3 (some .int), Cond.methodLink RJx4a65c 123 yJx4a65c_elementData_915e3, Cond.instanceMethod yJx4a65c_elementData_915e3, Cond.selects RJx4a65c yJx4a65c_elementData_915e3 yJx4a65c_elementData_915e3, Cond.code yJx4a65c_elementData_915e3 cJx4a65c_elementData_915e3 2 (some (.object "java/lang/Object")), Cond.fieldLink RJx4a65c 9 "java/util/ArrayList" "elementData" "[Ljava/lang/Object;", Cond.methodLink RX5 33 yX5_checkRange, Cond.static yX5_checkRange, Cond.code yX5_checkRange cX5_checkRange 3 none, Cond.methodLink RX5 61 yX2_isPublished, Cond.instanceMethod yX2_isPublished, Cond.selects RX2 yX2_isPublished yX2_isPublished, Cond.initialized RX2, Cond.code yX2_isPublished cX2_isPublished 1 (some .boolean), Cond.fieldLink RX2 15 "Yarncourt$Pattern" "original" "LYarncourt$Pattern;", Cond.methodLink RX5 65 yX2_takesLine]
def wsX5_line_r3 : List Cond := [Cond.instanceMethod yX2_takesLine, Cond.selects RX2 yX2_takesLine yX2_takesLine, Cond.code yX2_takesLine cX2_takesLine 2 (some .boolean), Cond.fieldLink RX2 41 "Yarncourt$Pattern" "program" "LYarncourt$Program;", Cond.fieldLink RX2 48 "Yarncourt$Pattern" "chart" "LYarncourt$Chart;", Cond.fieldLink RX2 55 "Yarncourt$Chart" "rowCount" "I", Cond.methodLink RX5 74 yX2_addLine, Cond.instanceMethod yX2_addLine, Cond.selects RX2 yX2_addLine yX2_addLine, Cond.code yX2_addLine cX2_addLine 5 none, Cond.methodLink RX2 58 yX3_append, Cond.instanceMethod yX3_append, Cond.selects RX3 yX3_append yX3_append, Cond.initialized RX3, Cond.code yX3_append cX3_append 5 none, Cond.fieldLink RX3 24 "Yarncourt$Program" "lineCount" "I", Cond.fieldLink RX3 9 "Yarncourt$Program" "knits" "[I", Cond.fieldLink RX3 15 "Yarncourt$Program" "purls" "[I", Cond.fieldLink RX3 18 "Yarncourt$Program" "shaping" "[I", Cond.fieldLink RX3 21 "Yarncourt$Program" "times" "[I", Cond.methodLink RX2 62 yX0_drawLine, Cond.instanceMethod yX0_drawLine, Cond.selects RX0 yX0_drawLine yX0_drawLine, Cond.initialized RX0]
def wsX5_line_r4 : List Cond := [Cond.code yX0_drawLine cX0_drawLine 6 none, Cond.fieldLink RX0 9 "Yarncourt$Chart" "rowCount" "I", Cond.fieldLink RX0 19 "Yarncourt$Chart" "yarnOfRow" "[I", Cond.fieldLink RX0 22 "Yarncourt$Chart" "nextWidth" "I", Cond.methodLink RX0 25 yX0_drawRow, Cond.instanceMethod yX0_drawRow, Cond.selects RX0 yX0_drawRow yX0_drawRow, Cond.code yX0_drawRow cX0_drawRow 8 (some .int), Cond.fieldLink RX0 15 "Yarncourt$Chart" "stitches" "[I", Cond.static yX5_widthAfter, Cond.code yX5_widthAfter cX5_widthAfter 2 (some .int), Cond.methodLink RX5 112 yX5_within, Cond.static yX5_within, Cond.code yX5_within cX5_within 3 (some .int), Cond.methodLink RX5 245 Lib.Math.max.name, Cond.static Lib.Math.max.name, Cond.initialized "java/lang/Math", Cond.code Lib.Math.max.name Lib.Math.max.code 2 (some .int), Cond.methodLink RX5 250 Lib.Math.min.name, Cond.static Lib.Math.min.name, Cond.code Lib.Math.min.name Lib.Math.min.code 2 (some .int)]
def wsX5_line : List Cond := .code yX5_line cX5_line 7 (some .int) :: ((wsX5_line_r1 ++ (wsX5_line_r2 ++ (wsX5_line_r3 ++ wsX5_line_r4))) ++ wsX20 ++ wsX00 ++ wsX50 ++ wsJx4a65c0 ++ wsX30 ++ (vx_atS RX5 58 "java/lang/IllegalArgumentException" ["java/lang/RuntimeException", "java/lang/Exception"]).filter goodWord ++ (vx_atS RX5 73 "java/lang/IllegalStateException" ["java/lang/RuntimeException", "java/lang/Exception"]).filter goodWord ++ (vx_atS RX5 223 "java/lang/IndexOutOfBoundsException" ["java/lang/RuntimeException", "java/lang/Exception"]).filter goodWord)
def wsX5_checkGauge : List Cond := .code yX5_checkGauge cX5_checkGauge 1 none :: ([.methodLink RX5 33 yX5_checkRange, .static yX5_checkRange, .initialized RX5, .code yX5_checkRange cX5_checkRange 3 none, .classLink RX5 54 "java/lang/IllegalArgumentException", .initialized "java/lang/IllegalArgumentException"] ++ (vx_atS RX5 58 "java/lang/IllegalArgumentException" ["java/lang/RuntimeException", "java/lang/Exception"]).filter goodWord)
def wsX5_anew_r1 : List Cond := [Cond.classLink RX5 69 "java/lang/IllegalStateException", Cond.initialized "java/lang/IllegalStateException", Cond.fieldLink RX5 93 "Yarncourt$Pattern" "program" "LYarncourt$Program;", Cond.fieldLink RX5 105 "Yarncourt$Program" "firstWidth" "I", Cond.fieldLink RX5 116 "Yarncourt$Pattern" "owner" "I", Cond.fieldLink RX5 119 "Yarncourt$Pattern" "price" "I", Cond.fieldLink RX5 44 "Yarncourt$Pattern" "number" "I", Cond.methodLink RX5 50 yX5_patternAt, Cond.instanceMethod yX5_patternAt, Cond.selects RX5 yX5_patternAt yX5_patternAt, Cond.initialized RX5, Cond.code yX5_patternAt cX5_patternAt 2 (some (.object "Yarncourt$Pattern")), Cond.classLink RX5 219 "java/lang/IndexOutOfBoundsException", Cond.initialized "java/lang/IndexOutOfBoundsException", Cond.fieldLink RX5 10 "Yarncourt" "patterns" "Ljava/util/ArrayList;", Cond.classLink RX5 45 "Yarncourt$Pattern", Cond.methodLink RX5 173 yJx4a65c_size_8abf5, Cond.instanceMethod yJx4a65c_size_8abf5, Cond.selects RJx4a65c yJx4a65c_size_8abf5 yJx4a65c_size_8abf5, Cond.initialized RJx4a65c, Cond.code yJx4a65c_size_8abf5 cJx4a65c_size_8abf5 1 (some .int), Cond.fieldLink RJx4a65c 48 "java/util/ArrayList" "size" "I", Cond.methodLink RX5 224 yJx4a65c_get_915e3, Cond.instanceMethod yJx4a65c_get_915e3]
def wsX5_anew_r2 : List Cond := [Cond.selects RJx4a65c yJx4a65c_get_915e3 yJx4a65c_get_915e3, Cond.code yJx4a65c_get_915e3 cJx4a65c_get_915e3 2 (some (.object "java/lang/Object")), Cond.methodLink RJx4a65c 118 yJ15_checkIndex_7cf53, Cond.static yJ15_checkIndex_7cf53, Cond.initialized RJ15, Cond.code yJ15_checkIndex_7cf53 cJ15_checkIndex_7cf53 2 (some .int), Cond.methodLink RJ15 105 yJ3_checkIndex_8e157, Cond.static yJ3_checkIndex_8e157, Cond.initialized RJ3, Cond.code yJ3_checkIndex_8e157 cJ3_checkIndex_8e157 3 (some .int), Cond.methodLink RJx4a65c 123 yJx4a65c_elementData_915e3, Cond.instanceMethod yJx4a65c_elementData_915e3, Cond.selects RJx4a65c yJx4a65c_elementData_915e3 yJx4a65c_elementData_915e3, Cond.code yJx4a65c_elementData_915e3 cJx4a65c_elementData_915e3 2 (some (.object "java/lang/Object")), Cond.fieldLink RJx4a65c 9 "java/util/ArrayList" "elementData" "[Ljava/lang/Object;", Cond.methodLink RX5 87 yX5_checkGauge, Cond.static yX5_checkGauge, Cond.code yX5_checkGauge cX5_checkGauge 1 none, Cond.methodLink RX5 33 yX5_checkRange, Cond.static yX5_checkRange, Cond.code yX5_checkRange cX5_checkRange 3 none, Cond.classLink RX5 54 "java/lang/IllegalArgumentException", Cond.initialized "java/lang/IllegalArgumentException", Cond.methodLink RX5 90 yX2_hasNoLines]
def wsX5_anew_r3 : List Cond := [Cond.instanceMethod yX2_hasNoLines, Cond.selects RX2 yX2_hasNoLines yX2_hasNoLines, Cond.initialized RX2, Cond.code yX2_hasNoLines cX2_hasNoLines 1 (some .boolean), Cond.fieldLink RX2 41 "Yarncourt$Pattern" "program" "LYarncourt$Program;", Cond.methodLink RX5 97 yX3_rowsFor, Cond.instanceMethod yX3_rowsFor, Cond.selects RX3 yX3_rowsFor yX3_rowsFor, Cond.initialized RX3, Cond.code yX3_rowsFor cX3_rowsFor 4 (some .int), Cond.fieldLink RX3 24 "Yarncourt$Program" "lineCount" "I", Cond.methodLink RX3 40 yX3_timesFor, Cond.instanceMethod yX3_timesFor, Cond.selects RX3 yX3_timesFor yX3_timesFor, Cond.code yX3_timesFor cX3_timesFor 3 (some .int), Cond.fieldLink RX3 21 "Yarncourt$Program" "times" "[I", Cond.methodLink RX3 35 Lib.Math.max.name, Cond.static Lib.Math.max.name, Cond.initialized "java/lang/Math", Cond.code Lib.Math.max.name Lib.Math.max.code 2 (some .int), Cond.static yX5_forGauge, Cond.code yX5_forGauge cX5_forGauge 2 (some .int), Cond.methodLink RX5 37 yX5_checkRoomForPattern, Cond.instanceMethod yX5_checkRoomForPattern]
def wsX5_anew_r4 : List Cond := [Cond.selects RX5 yX5_checkRoomForPattern yX5_checkRoomForPattern, Cond.code yX5_checkRoomForPattern cX5_checkRoomForPattern 1 none, Cond.methodLink RX5 108 yX5_forGauge, Cond.methodLink RX5 112 yX5_within, Cond.static yX5_within, Cond.code yX5_within cX5_within 3 (some .int), Cond.methodLink RX5 245 Lib.Math.max.name, Cond.methodLink RX5 250 Lib.Math.min.name, Cond.static Lib.Math.min.name, Cond.code Lib.Math.min.name Lib.Math.min.code 2 (some .int), Cond.methodLink RX5 40 yX5_addPattern, Cond.instanceMethod yX5_addPattern, Cond.selects RX5 yX5_addPattern yX5_addPattern, Cond.code yX5_addPattern cX5_addPattern 5 (some (.object "Yarncourt$Pattern")), Cond.classLink RX5 45 RX2, Cond.instantiable RX2 9, Cond.methodLink RX5 234 yX2_init, Cond.instanceMethod yX2_init, Cond.code yX2_init cX2_init 5 none, Cond.methodLink RX2 3 objectInit, Cond.instanceMethod objectInit, Cond.code objectInit ⟨#[0xb1]⟩ 1 none, Cond.arrayClass .boolean, Cond.fieldLink RX2 9 "Yarncourt$Pattern" "boughtBy" "[Z"]
def wsX5_anew_r5 : List Cond := [Cond.fieldLink RX2 15 "Yarncourt$Pattern" "original" "LYarncourt$Pattern;", Cond.fieldLink RX2 19 "Yarncourt$Pattern" "takings" "I", Cond.fieldLink RX2 23 "Yarncourt$Pattern" "barred" "Z", Cond.fieldLink RX2 27 "Yarncourt$Pattern" "number" "I", Cond.fieldLink RX2 30 "Yarncourt$Pattern" "owner" "I", Cond.fieldLink RX2 33 "Yarncourt$Pattern" "price" "I", Cond.classLink RX2 36 RX3, Cond.instantiable RX3 6, Cond.classLink RX2 45 RX0, Cond.instantiable RX0 4, Cond.initialized RX0, Cond.fieldLink RX2 48 "Yarncourt$Pattern" "chart" "LYarncourt$Chart;", Cond.methodLink RX2 38 yX3_init, Cond.instanceMethod yX3_init, Cond.code yX3_init cX3_init 2 none, Cond.methodLink RX3 3 objectInit, Cond.arrayClass .int, Cond.fieldLink RX3 9 "Yarncourt$Program" "knits" "[I", Cond.fieldLink RX3 15 "Yarncourt$Program" "purls" "[I", Cond.fieldLink RX3 18 "Yarncourt$Program" "shaping" "[I", Cond.fieldLink RX3 28 "Yarncourt$Program" "firstWidth" "I", Cond.methodLink RX2 47 yX0_init, Cond.instanceMethod yX0_init, Cond.code yX0_init cX0_init 2 none]
def wsX5_anew_r6 : List Cond := [Cond.methodLink RX0 3 objectInit, Cond.fieldLink RX0 9 "Yarncourt$Chart" "rowCount" "I", Cond.fieldLink RX0 15 "Yarncourt$Chart" "stitches" "[I", Cond.fieldLink RX0 19 "Yarncourt$Chart" "yarnOfRow" "[I", Cond.fieldLink RX0 22 "Yarncourt$Chart" "nextWidth" "I", Cond.methodLink RX5 136 yJx4a65c_add_9ea2d, Cond.instanceMethod yJx4a65c_add_9ea2d, Cond.selects RJx4a65c yJx4a65c_add_9ea2d yJx4a65c_add_9ea2d, Cond.code yJx4a65c_add_9ea2d cJx4a65c_add_9ea2d 2 (some .boolean), Cond.fieldLink RJx4a65c 63 "java/util/ArrayList" "modCount" "I", Cond.sameField "java/util/ArrayList" "java/util/AbstractList" "modCount" "I", Cond.methodLink RJx4a65c 131 yJx4a65c_add_72be8, Cond.instanceMethod yJx4a65c_add_72be8, Cond.selects RJx4a65c yJx4a65c_add_72be8 yJx4a65c_add_72be8, Cond.code yJx4a65c_add_72be8 cJx4a65c_add_72be8 4 none, Cond.methodLink RJx4a65c 129 yJx4a65c_grow_d5877, Cond.instanceMethod yJx4a65c_grow_d5877, Cond.selects RJx4a65c yJx4a65c_grow_d5877 yJx4a65c_grow_d5877, Cond.code yJx4a65c_grow_d5877 cJx4a65c_grow_d5877 1 (some (.array (.object "java/lang/Object"))), Cond.methodLink RJx4a65c 69 yJx4a65c_grow_92f84, Cond.instanceMethod yJx4a65c_grow_92f84, Cond.selects RJx4a65c yJx4a65c_grow_92f84 yJx4a65c_grow_92f84, Cond.code yJx4a65c_grow_92f84 cJx4a65c_grow_92f84 4 (some (.array (.object "java/lang/Object"))), Cond.fieldLink RJx4a65c 39 "java/util/ArrayList" "DEFAULTCAPACITY_EMPTY_ELEMENTDATA" "[Ljava/lang/Object;"]
def wsX5_anew_r7 : List Cond := [Cond.methodLink RJx4a65c 79 Lib.Math.max.name, Cond.classLink RJx4a65c 7 "java/lang/Object", Cond.methodLink RJx4a65c 73 yJ8_newLength_cabcc, Cond.static yJ8_newLength_cabcc, Cond.initialized RJ8, Cond.code yJ8_newLength_cabcc cJ8_newLength_cabcc 4 (some .int), Cond.methodLink RJ8 194 Lib.Math.max.name, Cond.constant RJ8 200 (2147483639), Cond.methodLink RJ8 201 yJ8_hugeLength_7cf53, Cond.static yJ8_hugeLength_7cf53, Cond.code yJ8_hugeLength_7cf53 cJ8_hugeLength_7cf53 3 (some .int), Cond.methodLink RJx4a65c 66 yJ7_copyOf_1904c, Cond.static yJ7_copyOf_1904c, Cond.initialized RJ7, Cond.code yJ7_copyOf_1904c cJ7_copyOf_1904c 2 (some (.array (.object "java/lang/Object"))), Cond.methodLink RJ7 86 ⟨"java/lang/Object", "getClass", "()Ljava/lang/Class;"⟩, Cond.selects "[Ljava/lang/Object;" ⟨"java/lang/Object", "getClass", "()Ljava/lang/Class;"⟩ ⟨"java/lang/Object", "getClass", "()Ljava/lang/Class;"⟩, Cond.instanceMethod ⟨"java/lang/Object", "getClass", "()Ljava/lang/Class;"⟩, Cond.native ⟨"java/lang/Object", "getClass", "()Ljava/lang/Class;"⟩, Cond.methodLink RJ7 300 yJ7_copyOf_6403c, Cond.static yJ7_copyOf_6403c, Cond.code yJ7_copyOf_6403c cJ7_copyOf_6403c 4 (some (.array (.object "java/lang/Object"))), Cond.classLink RJ7 110 "[Ljava/lang/Object;", Cond.classLink RJ7 2 "java/lang/Object"]
def wsX5_anew_r8 : List Cond := [Cond.methodLink RJ7 304 Lib.Math.min.name, Cond.methodLink RJ7 150 arraycopyName, Cond.native arraycopyName, Cond.static arraycopyName, Cond.initialized "java/lang/System", Cond.methodLink RX5 122 yX2_addLinesFor, Cond.instanceMethod yX2_addLinesFor, Cond.selects RX2 yX2_addLinesFor yX2_addLinesFor, Cond.code yX2_addLinesFor cX2_addLinesFor 4 none, Cond.methodLink RX2 75 yX3_timesFor, Cond.methodLink RX2 79 yX2_addLine, Cond.instanceMethod yX2_addLine, Cond.selects RX2 yX2_addLine yX2_addLine, Cond.code yX2_addLine cX2_addLine 5 none, Cond.methodLink RX2 58 yX3_append, Cond.instanceMethod yX3_append, Cond.selects RX3 yX3_append yX3_append, Cond.code yX3_append cX3_append 5 none, Cond.methodLink RX2 62 yX0_drawLine, Cond.instanceMethod yX0_drawLine, Cond.selects RX0 yX0_drawLine yX0_drawLine, Cond.code yX0_drawLine cX0_drawLine 6 none, Cond.methodLink RX0 25 yX0_drawRow, Cond.instanceMethod yX0_drawRow]
def wsX5_anew_r9 : List Cond := [Cond.selects RX0 yX0_drawRow yX0_drawRow, Cond.code yX0_drawRow cX0_drawRow 8 (some .int), Cond.static yX5_widthAfter, Cond.code yX5_widthAfter cX5_widthAfter 2 (some .int)]
def wsX5_anew : List Cond := .code yX5_anew cX5_anew 6 (some .int) :: ((wsX5_anew_r1 ++ (wsX5_anew_r2 ++ (wsX5_anew_r3 ++ (wsX5_anew_r4 ++ (wsX5_anew_r5 ++ (wsX5_anew_r6 ++ (wsX5_anew_r7 ++ (wsX5_anew_r8 ++ wsX5_anew_r9)))))))) ++ wsX20 ++ wsX30 ++ wsX50 ++ wsJx4a65c0 ++ wsX00 ++ (vx_atS RX5 73 "java/lang/IllegalStateException" ["java/lang/RuntimeException", "java/lang/Exception"]).filter goodWord ++ (vx_atS RX5 223 "java/lang/IndexOutOfBoundsException" ["java/lang/RuntimeException", "java/lang/Exception"]).filter goodWord ++ (vx_atS RX5 58 "java/lang/IllegalArgumentException" ["java/lang/RuntimeException", "java/lang/Exception"]).filter goodWord)
def wsX5_firstOfSameChart_r1 : List Cond := [Cond.fieldLink RX5 16 "Yarncourt" "inOrderOfPublishing" "Ljava/util/ArrayList;", Cond.classLink RX5 45 "Yarncourt$Pattern", Cond.fieldLink RX5 78 "Yarncourt$Pattern" "chart" "LYarncourt$Chart;", Cond.methodLink RX5 173 yJx4a65c_size_8abf5, Cond.instanceMethod yJx4a65c_size_8abf5, Cond.selects RJx4a65c yJx4a65c_size_8abf5 yJx4a65c_size_8abf5, Cond.initialized RJx4a65c, Cond.code yJx4a65c_size_8abf5 cJx4a65c_size_8abf5 1 (some .int), Cond.fieldLink RJx4a65c 48 "java/util/ArrayList" "size" "I", Cond.methodLink RX5 224 yJx4a65c_get_915e3, Cond.instanceMethod yJx4a65c_get_915e3, Cond.selects RJx4a65c yJx4a65c_get_915e3 yJx4a65c_get_915e3, Cond.code yJx4a65c_get_915e3 cJx4a65c_get_915e3 2 (some (.object "java/lang/Object")), Cond.methodLink RJx4a65c 118 yJ15_checkIndex_7cf53, Cond.static yJ15_checkIndex_7cf53, Cond.initialized RJ15, Cond.code yJ15_checkIndex_7cf53 cJ15_checkIndex_7cf53 2 (some .int), Cond.methodLink RJ15 105 yJ3_checkIndex_8e157, Cond.static yJ3_checkIndex_8e157, Cond.initialized RJ3, Cond.code yJ3_checkIndex_8e157 cJ3_checkIndex_8e157 3 (some .int), Cond.methodLink RJx4a65c 123 yJx4a65c_elementData_915e3, Cond.instanceMethod yJx4a65c_elementData_915e3, Cond.selects RJx4a65c yJx4a65c_elementData_915e3 yJx4a65c_elementData_915e3]
def wsX5_firstOfSameChart_r2 : List Cond := [Cond.code yJx4a65c_elementData_915e3 cJx4a65c_elementData_915e3 2 (some (.object "java/lang/Object")), Cond.fieldLink RJx4a65c 9 "java/util/ArrayList" "elementData" "[Ljava/lang/Object;", Cond.methodLink RX5 235 yX0_isSameAs, Cond.instanceMethod yX0_isSameAs, Cond.selects RX0 yX0_isSameAs yX0_isSameAs, Cond.initialized RX0, Cond.code yX0_isSameAs cX0_isSameAs 3 (some .boolean), Cond.fieldLink RX0 9 "Yarncourt$Chart" "rowCount" "I", Cond.fieldLink RX0 15 "Yarncourt$Chart" "stitches" "[I"]
def wsX5_firstOfSameChart : List Cond := .code yX5_firstOfSameChart cX5_firstOfSameChart 4 (some (.object "Yarncourt$Pattern")) :: ((wsX5_firstOfSameChart_r1 ++ wsX5_firstOfSameChart_r2) ++ wsX50 ++ wsX20 ++ wsJx4a65c0 ++ wsX00)
def wsX5_publish_r1 : List Cond := [Cond.classLink RX5 69 "java/lang/IllegalStateException", Cond.initialized "java/lang/IllegalStateException", Cond.fieldLink RX5 132 "Yarncourt$Pattern" "original" "LYarncourt$Pattern;", Cond.fieldLink RX5 16 "Yarncourt" "inOrderOfPublishing" "Ljava/util/ArrayList;", Cond.fieldLink RX5 44 "Yarncourt$Pattern" "number" "I", Cond.methodLink RX5 50 yX5_patternAt, Cond.instanceMethod yX5_patternAt, Cond.selects RX5 yX5_patternAt yX5_patternAt, Cond.initialized RX5, Cond.code yX5_patternAt cX5_patternAt 2 (some (.object "Yarncourt$Pattern")), Cond.classLink RX5 219 "java/lang/IndexOutOfBoundsException", Cond.initialized "java/lang/IndexOutOfBoundsException", Cond.fieldLink RX5 10 "Yarncourt" "patterns" "Ljava/util/ArrayList;", Cond.classLink RX5 45 "Yarncourt$Pattern", Cond.methodLink RX5 173 yJx4a65c_size_8abf5, Cond.instanceMethod yJx4a65c_size_8abf5, Cond.selects RJx4a65c yJx4a65c_size_8abf5 yJx4a65c_size_8abf5, Cond.initialized RJx4a65c, Cond.code yJx4a65c_size_8abf5 cJx4a65c_size_8abf5 1 (some .int), Cond.fieldLink RJx4a65c 48 "java/util/ArrayList" "size" "I", Cond.methodLink RX5 224 yJx4a65c_get_915e3, Cond.instanceMethod yJx4a65c_get_915e3, Cond.selects RJx4a65c yJx4a65c_get_915e3 yJx4a65c_get_915e3, Cond.code yJx4a65c_get_915e3 cJx4a65c_get_915e3 2 (some (.object "java/lang/Object"))]
def wsX5_publish_r2 : List Cond := [Cond.methodLink RJx4a65c 118 yJ15_checkIndex_7cf53, Cond.static yJ15_checkIndex_7cf53, Cond.initialized RJ15, Cond.code yJ15_checkIndex_7cf53 cJ15_checkIndex_7cf53 2 (some .int), Cond.methodLink RJ15 105 yJ3_checkIndex_8e157, Cond.static yJ3_checkIndex_8e157, Cond.initialized RJ3, Cond.code yJ3_checkIndex_8e157 cJ3_checkIndex_8e157 3 (some .int), Cond.methodLink RJx4a65c 123 yJx4a65c_elementData_915e3, Cond.instanceMethod yJx4a65c_elementData_915e3, Cond.selects RJx4a65c yJx4a65c_elementData_915e3 yJx4a65c_elementData_915e3, Cond.code yJx4a65c_elementData_915e3 cJx4a65c_elementData_915e3 2 (some (.object "java/lang/Object")), Cond.fieldLink RJx4a65c 9 "java/util/ArrayList" "elementData" "[Ljava/lang/Object;", Cond.methodLink RX5 61 yX2_isPublished, Cond.instanceMethod yX2_isPublished, Cond.selects RX2 yX2_isPublished yX2_isPublished, Cond.initialized RX2, Cond.code yX2_isPublished cX2_isPublished 1 (some .boolean), Cond.fieldLink RX2 15 "Yarncourt$Pattern" "original" "LYarncourt$Pattern;", Cond.methodLink RX5 90 yX2_hasNoLines, Cond.instanceMethod yX2_hasNoLines, Cond.selects RX2 yX2_hasNoLines yX2_hasNoLines, Cond.code yX2_hasNoLines cX2_hasNoLines 1 (some .boolean), Cond.fieldLink RX2 41 "Yarncourt$Pattern" "program" "LYarncourt$Program;"]
def wsX5_publish_r3 : List Cond := [Cond.methodLink RX5 128 yX5_firstOfSameChart, Cond.instanceMethod yX5_firstOfSameChart, Cond.selects RX5 yX5_firstOfSameChart yX5_firstOfSameChart, Cond.code yX5_firstOfSameChart cX5_firstOfSameChart 4 (some (.object "Yarncourt$Pattern")), Cond.fieldLink RX5 78 "Yarncourt$Pattern" "chart" "LYarncourt$Chart;", Cond.methodLink RX5 235 yX0_isSameAs, Cond.instanceMethod yX0_isSameAs, Cond.selects RX0 yX0_isSameAs yX0_isSameAs, Cond.initialized RX0, Cond.code yX0_isSameAs cX0_isSameAs 3 (some .boolean), Cond.fieldLink RX0 9 "Yarncourt$Chart" "rowCount" "I", Cond.fieldLink RX0 15 "Yarncourt$Chart" "stitches" "[I", Cond.methodLink RX5 136 yJx4a65c_add_9ea2d, Cond.instanceMethod yJx4a65c_add_9ea2d, Cond.selects RJx4a65c yJx4a65c_add_9ea2d yJx4a65c_add_9ea2d, Cond.code yJx4a65c_add_9ea2d cJx4a65c_add_9ea2d 2 (some .boolean), Cond.fieldLink RJx4a65c 63 "java/util/ArrayList" "modCount" "I", Cond.sameField "java/util/ArrayList" "java/util/AbstractList" "modCount" "I", Cond.methodLink RJx4a65c 131 yJx4a65c_add_72be8, Cond.instanceMethod yJx4a65c_add_72be8, Cond.selects RJx4a65c yJx4a65c_add_72be8 yJx4a65c_add_72be8, Cond.code yJx4a65c_add_72be8 cJx4a65c_add_72be8 4 none, Cond.methodLink RJx4a65c 129 yJx4a65c_grow_d5877, Cond.instanceMethod yJx4a65c_grow_d5877]
def wsX5_publish_r4 : List Cond := [Cond.selects RJx4a65c yJx4a65c_grow_d5877 yJx4a65c_grow_d5877, Cond.code yJx4a65c_grow_d5877 cJx4a65c_grow_d5877 1 (some (.array (.object "java/lang/Object"))), Cond.methodLink RJx4a65c 69 yJx4a65c_grow_92f84, Cond.instanceMethod yJx4a65c_grow_92f84, Cond.selects RJx4a65c yJx4a65c_grow_92f84 yJx4a65c_grow_92f84, Cond.code yJx4a65c_grow_92f84 cJx4a65c_grow_92f84 4 (some (.array (.object "java/lang/Object"))), Cond.fieldLink RJx4a65c 39 "java/util/ArrayList" "DEFAULTCAPACITY_EMPTY_ELEMENTDATA" "[Ljava/lang/Object;", Cond.methodLink RJx4a65c 79 Lib.Math.max.name, Cond.static Lib.Math.max.name, Cond.initialized "java/lang/Math", Cond.code Lib.Math.max.name Lib.Math.max.code 2 (some .int), Cond.classLink RJx4a65c 7 "java/lang/Object", Cond.methodLink RJx4a65c 73 yJ8_newLength_cabcc, Cond.static yJ8_newLength_cabcc, Cond.initialized RJ8, Cond.code yJ8_newLength_cabcc cJ8_newLength_cabcc 4 (some .int), Cond.methodLink RJ8 194 Lib.Math.max.name, Cond.constant RJ8 200 (2147483639), Cond.methodLink RJ8 201 yJ8_hugeLength_7cf53, Cond.static yJ8_hugeLength_7cf53, Cond.code yJ8_hugeLength_7cf53 cJ8_hugeLength_7cf53 3 (some .int), Cond.methodLink RJx4a65c 66 yJ7_copyOf_1904c, Cond.static yJ7_copyOf_1904c, Cond.initialized RJ7]
def wsX5_publish_r5 : List Cond := [Cond.code yJ7_copyOf_1904c cJ7_copyOf_1904c 2 (some (.array (.object "java/lang/Object"))), Cond.methodLink RJ7 86 ⟨"java/lang/Object", "getClass", "()Ljava/lang/Class;"⟩, Cond.selects "[Ljava/lang/Object;" ⟨"java/lang/Object", "getClass", "()Ljava/lang/Class;"⟩ ⟨"java/lang/Object", "getClass", "()Ljava/lang/Class;"⟩, Cond.instanceMethod ⟨"java/lang/Object", "getClass", "()Ljava/lang/Class;"⟩, Cond.native ⟨"java/lang/Object", "getClass", "()Ljava/lang/Class;"⟩, Cond.methodLink RJ7 300 yJ7_copyOf_6403c, Cond.static yJ7_copyOf_6403c, Cond.code yJ7_copyOf_6403c cJ7_copyOf_6403c 4 (some (.array (.object "java/lang/Object"))), Cond.classLink RJ7 110 "[Ljava/lang/Object;", Cond.classLink RJ7 2 "java/lang/Object", Cond.methodLink RJ7 304 Lib.Math.min.name, Cond.static Lib.Math.min.name, Cond.code Lib.Math.min.name Lib.Math.min.code 2 (some .int), Cond.methodLink RJ7 150 arraycopyName, Cond.native arraycopyName, Cond.static arraycopyName, Cond.initialized "java/lang/System"]
def wsX5_publish : List Cond := .code yX5_publish cX5_publish 4 (some .int) :: ((wsX5_publish_r1 ++ (wsX5_publish_r2 ++ (wsX5_publish_r3 ++ (wsX5_publish_r4 ++ wsX5_publish_r5)))) ++ wsX20 ++ wsX50 ++ wsJx4a65c0 ++ wsX30 ++ wsX00 ++ (vx_atS RX5 73 "java/lang/IllegalStateException" ["java/lang/RuntimeException", "java/lang/Exception"]).filter goodWord ++ (vx_atS RX5 223 "java/lang/IndexOutOfBoundsException" ["java/lang/RuntimeException", "java/lang/Exception"]).filter goodWord)
def wsX5_original_r1 : List Cond := [Cond.fieldLink RX5 132 "Yarncourt$Pattern" "original" "LYarncourt$Pattern;", Cond.fieldLink RX5 44 "Yarncourt$Pattern" "number" "I", Cond.methodLink RX5 50 yX5_patternAt, Cond.instanceMethod yX5_patternAt, Cond.selects RX5 yX5_patternAt yX5_patternAt, Cond.initialized RX5, Cond.code yX5_patternAt cX5_patternAt 2 (some (.object "Yarncourt$Pattern")), Cond.classLink RX5 219 "java/lang/IndexOutOfBoundsException", Cond.initialized "java/lang/IndexOutOfBoundsException", Cond.fieldLink RX5 10 "Yarncourt" "patterns" "Ljava/util/ArrayList;", Cond.classLink RX5 45 "Yarncourt$Pattern", Cond.methodLink RX5 173 yJx4a65c_size_8abf5, Cond.instanceMethod yJx4a65c_size_8abf5, Cond.selects RJx4a65c yJx4a65c_size_8abf5 yJx4a65c_size_8abf5, Cond.initialized RJx4a65c, Cond.code yJx4a65c_size_8abf5 cJx4a65c_size_8abf5 1 (some .int), Cond.fieldLink RJx4a65c 48 "java/util/ArrayList" "size" "I", Cond.methodLink RX5 224 yJx4a65c_get_915e3, Cond.instanceMethod yJx4a65c_get_915e3, Cond.selects RJx4a65c yJx4a65c_get_915e3 yJx4a65c_get_915e3, Cond.code yJx4a65c_get_915e3 cJx4a65c_get_915e3 2 (some (.object "java/lang/Object")), Cond.methodLink RJx4a65c 118 yJ15_checkIndex_7cf53, Cond.static yJ15_checkIndex_7cf53, Cond.initialized RJ15]
def wsX5_original_r2 : List Cond := [Cond.code yJ15_checkIndex_7cf53 cJ15_checkIndex_7cf53 2 (some .int), Cond.methodLink RJ15 105 yJ3_checkIndex_8e157, Cond.static yJ3_checkIndex_8e157, Cond.initialized RJ3, Cond.code yJ3_checkIndex_8e157 cJ3_checkIndex_8e157 3 (some .int), Cond.methodLink RJx4a65c 123 yJx4a65c_elementData_915e3, Cond.instanceMethod yJx4a65c_elementData_915e3, Cond.selects RJx4a65c yJx4a65c_elementData_915e3 yJx4a65c_elementData_915e3, Cond.code yJx4a65c_elementData_915e3 cJx4a65c_elementData_915e3 2 (some (.object "java/lang/Object")), Cond.fieldLink RJx4a65c 9 "java/util/ArrayList" "elementData" "[Ljava/lang/Object;"]
def wsX5_original : List Cond := .code yX5_original cX5_original 3 (some .int) :: ((wsX5_original_r1 ++ wsX5_original_r2) ++ wsX20 ++ wsX50 ++ wsJx4a65c0 ++ (vx_atS RX5 223 "java/lang/IndexOutOfBoundsException" ["java/lang/RuntimeException", "java/lang/Exception"]).filter goodWord)
def wsX5_rows_r1 : List Cond := [Cond.fieldLink RX5 78 "Yarncourt$Pattern" "chart" "LYarncourt$Chart;", Cond.fieldLink RX5 82 "Yarncourt$Chart" "rowCount" "I", Cond.methodLink RX5 50 yX5_patternAt, Cond.instanceMethod yX5_patternAt, Cond.selects RX5 yX5_patternAt yX5_patternAt, Cond.initialized RX5, Cond.code yX5_patternAt cX5_patternAt 2 (some (.object "Yarncourt$Pattern")), Cond.classLink RX5 219 "java/lang/IndexOutOfBoundsException", Cond.initialized "java/lang/IndexOutOfBoundsException", Cond.fieldLink RX5 10 "Yarncourt" "patterns" "Ljava/util/ArrayList;", Cond.classLink RX5 45 "Yarncourt$Pattern", Cond.methodLink RX5 173 yJx4a65c_size_8abf5, Cond.instanceMethod yJx4a65c_size_8abf5, Cond.selects RJx4a65c yJx4a65c_size_8abf5 yJx4a65c_size_8abf5, Cond.initialized RJx4a65c, Cond.code yJx4a65c_size_8abf5 cJx4a65c_size_8abf5 1 (some .int), Cond.fieldLink RJx4a65c 48 "java/util/ArrayList" "size" "I", Cond.methodLink RX5 224 yJx4a65c_get_915e3, Cond.instanceMethod yJx4a65c_get_915e3, Cond.selects RJx4a65c yJx4a65c_get_915e3 yJx4a65c_get_915e3, Cond.code yJx4a65c_get_915e3 cJx4a65c_get_915e3 2 (some (.object "java/lang/Object")), Cond.methodLink RJx4a65c 118 yJ15_checkIndex_7cf53, Cond.static yJ15_checkIndex_7cf53, Cond.initialized RJ15]
def wsX5_rows_r2 : List Cond := [Cond.code yJ15_checkIndex_7cf53 cJ15_checkIndex_7cf53 2 (some .int), Cond.methodLink RJ15 105 yJ3_checkIndex_8e157, Cond.static yJ3_checkIndex_8e157, Cond.initialized RJ3, Cond.code yJ3_checkIndex_8e157 cJ3_checkIndex_8e157 3 (some .int), Cond.methodLink RJx4a65c 123 yJx4a65c_elementData_915e3, Cond.instanceMethod yJx4a65c_elementData_915e3, Cond.selects RJx4a65c yJx4a65c_elementData_915e3 yJx4a65c_elementData_915e3, Cond.code yJx4a65c_elementData_915e3 cJx4a65c_elementData_915e3 2 (some (.object "java/lang/Object")), Cond.fieldLink RJx4a65c 9 "java/util/ArrayList" "elementData" "[Ljava/lang/Object;"]
def wsX5_rows : List Cond := .code yX5_rows cX5_rows 2 (some .int) :: ((wsX5_rows_r1 ++ wsX5_rows_r2) ++ wsX20 ++ wsX00 ++ wsX50 ++ wsJx4a65c0 ++ (vx_atS RX5 223 "java/lang/IndexOutOfBoundsException" ["java/lang/RuntimeException", "java/lang/Exception"]).filter goodWord)
def wsX5_checkPlace : List Cond := .code yX5_checkPlace cX5_checkPlace 3 none :: ([.classLink RX5 219 "java/lang/IndexOutOfBoundsException", .initialized "java/lang/IndexOutOfBoundsException", .fieldLink RX5 78 "Yarncourt$Pattern" "chart" "LYarncourt$Chart;", .fieldLink RX5 82 "Yarncourt$Chart" "rowCount" "I"] ++ wsX20 ++ wsX00 ++ (vx_atS RX5 223 "java/lang/IndexOutOfBoundsException" ["java/lang/RuntimeException", "java/lang/Exception"]).filter goodWord)
def wsX5_stitch_r1 : List Cond := [Cond.fieldLink RX5 78 "Yarncourt$Pattern" "chart" "LYarncourt$Chart;", Cond.methodLink RX5 50 yX5_patternAt, Cond.instanceMethod yX5_patternAt, Cond.selects RX5 yX5_patternAt yX5_patternAt, Cond.initialized RX5, Cond.code yX5_patternAt cX5_patternAt 2 (some (.object "Yarncourt$Pattern")), Cond.classLink RX5 219 "java/lang/IndexOutOfBoundsException", Cond.initialized "java/lang/IndexOutOfBoundsException", Cond.fieldLink RX5 10 "Yarncourt" "patterns" "Ljava/util/ArrayList;", Cond.classLink RX5 45 "Yarncourt$Pattern", Cond.methodLink RX5 173 yJx4a65c_size_8abf5, Cond.instanceMethod yJx4a65c_size_8abf5, Cond.selects RJx4a65c yJx4a65c_size_8abf5 yJx4a65c_size_8abf5, Cond.initialized RJx4a65c, Cond.code yJx4a65c_size_8abf5 cJx4a65c_size_8abf5 1 (some .int), Cond.fieldLink RJx4a65c 48 "java/util/ArrayList" "size" "I", Cond.methodLink RX5 224 yJx4a65c_get_915e3, Cond.instanceMethod yJx4a65c_get_915e3, Cond.selects RJx4a65c yJx4a65c_get_915e3 yJx4a65c_get_915e3, Cond.code yJx4a65c_get_915e3 cJx4a65c_get_915e3 2 (some (.object "java/lang/Object")), Cond.methodLink RJx4a65c 118 yJ15_checkIndex_7cf53, Cond.static yJ15_checkIndex_7cf53, Cond.initialized RJ15, Cond.code yJ15_checkIndex_7cf53 cJ15_checkIndex_7cf53 2 (some .int)]
def wsX5_stitch_r2 : List Cond := [Cond.methodLink RJ15 105 yJ3_checkIndex_8e157, Cond.static yJ3_checkIndex_8e157, Cond.initialized RJ3, Cond.code yJ3_checkIndex_8e157 cJ3_checkIndex_8e157 3 (some .int), Cond.methodLink RJx4a65c 123 yJx4a65c_elementData_915e3, Cond.instanceMethod yJx4a65c_elementData_915e3, Cond.selects RJx4a65c yJx4a65c_elementData_915e3 yJx4a65c_elementData_915e3, Cond.code yJx4a65c_elementData_915e3 cJx4a65c_elementData_915e3 2 (some (.object "java/lang/Object")), Cond.fieldLink RJx4a65c 9 "java/util/ArrayList" "elementData" "[Ljava/lang/Object;", Cond.methodLink RX5 140 yX5_checkPlace, Cond.static yX5_checkPlace, Cond.code yX5_checkPlace cX5_checkPlace 3 none, Cond.fieldLink RX5 82 "Yarncourt$Chart" "rowCount" "I", Cond.methodLink RX5 144 yX0_stitchAt, Cond.instanceMethod yX0_stitchAt, Cond.selects RX0 yX0_stitchAt yX0_stitchAt, Cond.initialized RX0, Cond.code yX0_stitchAt cX0_stitchAt 3 (some .int), Cond.fieldLink RX0 15 "Yarncourt$Chart" "stitches" "[I"]
def wsX5_stitch : List Cond := .code yX5_stitch cX5_stitch 5 (some .int) :: ((wsX5_stitch_r1 ++ wsX5_stitch_r2) ++ wsX20 ++ wsX50 ++ wsJx4a65c0 ++ wsX00 ++ (vx_atS RX5 223 "java/lang/IndexOutOfBoundsException" ["java/lang/RuntimeException", "java/lang/Exception"]).filter goodWord)
def wsX5_stitchByWork_r1 : List Cond := [Cond.fieldLink RX5 93 "Yarncourt$Pattern" "program" "LYarncourt$Program;", Cond.methodLink RX5 50 yX5_patternAt, Cond.instanceMethod yX5_patternAt, Cond.selects RX5 yX5_patternAt yX5_patternAt, Cond.initialized RX5, Cond.code yX5_patternAt cX5_patternAt 2 (some (.object "Yarncourt$Pattern")), Cond.classLink RX5 219 "java/lang/IndexOutOfBoundsException", Cond.initialized "java/lang/IndexOutOfBoundsException", Cond.fieldLink RX5 10 "Yarncourt" "patterns" "Ljava/util/ArrayList;", Cond.classLink RX5 45 "Yarncourt$Pattern", Cond.methodLink RX5 173 yJx4a65c_size_8abf5, Cond.instanceMethod yJx4a65c_size_8abf5, Cond.selects RJx4a65c yJx4a65c_size_8abf5 yJx4a65c_size_8abf5, Cond.initialized RJx4a65c, Cond.code yJx4a65c_size_8abf5 cJx4a65c_size_8abf5 1 (some .int), Cond.fieldLink RJx4a65c 48 "java/util/ArrayList" "size" "I", Cond.methodLink RX5 224 yJx4a65c_get_915e3, Cond.instanceMethod yJx4a65c_get_915e3, Cond.selects RJx4a65c yJx4a65c_get_915e3 yJx4a65c_get_915e3, Cond.code yJx4a65c_get_915e3 cJx4a65c_get_915e3 2 (some (.object "java/lang/Object")), Cond.methodLink RJx4a65c 118 yJ15_checkIndex_7cf53, Cond.static yJ15_checkIndex_7cf53, Cond.initialized RJ15, Cond.code yJ15_checkIndex_7cf53 cJ15_checkIndex_7cf53 2 (some .int)]
def wsX5_stitchByWork_r2 : List Cond := [Cond.methodLink RJ15 105 yJ3_checkIndex_8e157, Cond.static yJ3_checkIndex_8e157, Cond.initialized RJ3, Cond.code yJ3_checkIndex_8e157 cJ3_checkIndex_8e157 3 (some .int), Cond.methodLink RJx4a65c 123 yJx4a65c_elementData_915e3, Cond.instanceMethod yJx4a65c_elementData_915e3, Cond.selects RJx4a65c yJx4a65c_elementData_915e3 yJx4a65c_elementData_915e3, Cond.code yJx4a65c_elementData_915e3 cJx4a65c_elementData_915e3 2 (some (.object "java/lang/Object")), Cond.fieldLink RJx4a65c 9 "java/util/ArrayList" "elementData" "[Ljava/lang/Object;", Cond.methodLink RX5 140 yX5_checkPlace, Cond.static yX5_checkPlace, Cond.code yX5_checkPlace cX5_checkPlace 3 none, Cond.fieldLink RX5 78 "Yarncourt$Pattern" "chart" "LYarncourt$Chart;", Cond.fieldLink RX5 82 "Yarncourt$Chart" "rowCount" "I", Cond.methodLink RX5 147 yX3_workTo, Cond.instanceMethod yX3_workTo, Cond.selects RX3 yX3_workTo yX3_workTo, Cond.initialized RX3, Cond.code yX3_workTo cX3_workTo 7 (some .int), Cond.fieldLink RX3 28 "Yarncourt$Program" "firstWidth" "I", Cond.fieldLink RX3 24 "Yarncourt$Program" "lineCount" "I", Cond.fieldLink RX3 21 "Yarncourt$Program" "times" "[I", Cond.fieldLink RX3 18 "Yarncourt$Program" "shaping" "[I", Cond.methodLink RX3 43 yX3_workAlong]
def wsX5_stitchByWork_r3 : List Cond := [Cond.instanceMethod yX3_workAlong, Cond.selects RX3 yX3_workAlong yX3_workAlong, Cond.code yX3_workAlong cX3_workAlong 6 (some .int), Cond.fieldLink RX3 9 "Yarncourt$Program" "knits" "[I", Cond.fieldLink RX3 15 "Yarncourt$Program" "purls" "[I", Cond.static yX5_widthAfter, Cond.code yX5_widthAfter cX5_widthAfter 2 (some .int), Cond.methodLink RX5 112 yX5_within, Cond.static yX5_within, Cond.code yX5_within cX5_within 3 (some .int), Cond.methodLink RX5 245 Lib.Math.max.name, Cond.static Lib.Math.max.name, Cond.initialized "java/lang/Math", Cond.code Lib.Math.max.name Lib.Math.max.code 2 (some .int), Cond.methodLink RX5 250 Lib.Math.min.name, Cond.static Lib.Math.min.name, Cond.code Lib.Math.min.name Lib.Math.min.code 2 (some .int)]
def wsX5_stitchByWork : List Cond := .code yX5_stitchByWork cX5_stitchByWork 5 (some .int) :: ((wsX5_stitchByWork_r1 ++ (wsX5_stitchByWork_r2 ++ wsX5_stitchByWork_r3)) ++ wsX20 ++ wsX50 ++ wsJx4a65c0 ++ wsX00 ++ wsX30 ++ (vx_atS RX5 223 "java/lang/IndexOutOfBoundsException" ["java/lang/RuntimeException", "java/lang/Exception"]).filter goodWord)
def wsX5_need_r1 : List Cond := [Cond.fieldLink RX5 78 "Yarncourt$Pattern" "chart" "LYarncourt$Chart;", Cond.methodLink RX5 50 yX5_patternAt, Cond.instanceMethod yX5_patternAt, Cond.selects RX5 yX5_patternAt yX5_patternAt, Cond.initialized RX5, Cond.code yX5_patternAt cX5_patternAt 2 (some (.object "Yarncourt$Pattern")), Cond.classLink RX5 219 "java/lang/IndexOutOfBoundsException", Cond.initialized "java/lang/IndexOutOfBoundsException", Cond.fieldLink RX5 10 "Yarncourt" "patterns" "Ljava/util/ArrayList;", Cond.classLink RX5 45 "Yarncourt$Pattern", Cond.methodLink RX5 173 yJx4a65c_size_8abf5, Cond.instanceMethod yJx4a65c_size_8abf5, Cond.selects RJx4a65c yJx4a65c_size_8abf5 yJx4a65c_size_8abf5, Cond.initialized RJx4a65c, Cond.code yJx4a65c_size_8abf5 cJx4a65c_size_8abf5 1 (some .int), Cond.fieldLink RJx4a65c 48 "java/util/ArrayList" "size" "I", Cond.methodLink RX5 224 yJx4a65c_get_915e3, Cond.instanceMethod yJx4a65c_get_915e3, Cond.selects RJx4a65c yJx4a65c_get_915e3 yJx4a65c_get_915e3, Cond.code yJx4a65c_get_915e3 cJx4a65c_get_915e3 2 (some (.object "java/lang/Object")), Cond.methodLink RJx4a65c 118 yJ15_checkIndex_7cf53, Cond.static yJ15_checkIndex_7cf53, Cond.initialized RJ15, Cond.code yJ15_checkIndex_7cf53 cJ15_checkIndex_7cf53 2 (some .int)]
def wsX5_need_r2 : List Cond := [Cond.methodLink RJ15 105 yJ3_checkIndex_8e157, Cond.static yJ3_checkIndex_8e157, Cond.initialized RJ3, Cond.code yJ3_checkIndex_8e157 cJ3_checkIndex_8e157 3 (some .int), Cond.methodLink RJx4a65c 123 yJx4a65c_elementData_915e3, Cond.instanceMethod yJx4a65c_elementData_915e3, Cond.selects RJx4a65c yJx4a65c_elementData_915e3 yJx4a65c_elementData_915e3, Cond.code yJx4a65c_elementData_915e3 cJx4a65c_elementData_915e3 2 (some (.object "java/lang/Object")), Cond.fieldLink RJx4a65c 9 "java/util/ArrayList" "elementData" "[Ljava/lang/Object;", Cond.methodLink RX5 87 yX5_checkGauge, Cond.static yX5_checkGauge, Cond.code yX5_checkGauge cX5_checkGauge 1 none, Cond.methodLink RX5 33 yX5_checkRange, Cond.static yX5_checkRange, Cond.code yX5_checkRange cX5_checkRange 3 none, Cond.classLink RX5 54 "java/lang/IllegalArgumentException", Cond.initialized "java/lang/IllegalArgumentException", Cond.methodLink RX5 150 yX0_yarnOfAllRows, Cond.instanceMethod yX0_yarnOfAllRows, Cond.selects RX0 yX0_yarnOfAllRows yX0_yarnOfAllRows, Cond.initialized RX0, Cond.code yX0_yarnOfAllRows cX0_yarnOfAllRows 3 (some .int), Cond.fieldLink RX0 9 "Yarncourt$Chart" "rowCount" "I", Cond.fieldLink RX0 19 "Yarncourt$Chart" "yarnOfRow" "[I"]
def wsX5_need : List Cond := .code yX5_need cX5_need 4 (some .int) :: ((wsX5_need_r1 ++ wsX5_need_r2) ++ wsX20 ++ wsX50 ++ wsJx4a65c0 ++ wsX00 ++ (vx_atS RX5 223 "java/lang/IndexOutOfBoundsException" ["java/lang/RuntimeException", "java/lang/Exception"]).filter goodWord ++ (vx_atS RX5 58 "java/lang/IllegalArgumentException" ["java/lang/RuntimeException", "java/lang/Exception"]).filter goodWord)
def wsX5_buy_r1 : List Cond := [Cond.classLink RX5 69 "java/lang/IllegalStateException", Cond.initialized "java/lang/IllegalStateException", Cond.fieldLink RX5 154 "Yarncourt$Pattern" "barred" "Z", Cond.fieldLink RX5 163 "Yarncourt$Pattern" "boughtBy" "[Z", Cond.fieldLink RX5 167 "Yarncourt$Pattern" "takings" "I", Cond.fieldLink RX5 119 "Yarncourt$Pattern" "price" "I", Cond.fieldLink RX5 25 "Yarncourt" "purses" "[I", Cond.fieldLink RX5 116 "Yarncourt$Pattern" "owner" "I", Cond.methodLink RX5 50 yX5_patternAt, Cond.instanceMethod yX5_patternAt, Cond.selects RX5 yX5_patternAt yX5_patternAt, Cond.initialized RX5, Cond.code yX5_patternAt cX5_patternAt 2 (some (.object "Yarncourt$Pattern")), Cond.classLink RX5 219 "java/lang/IndexOutOfBoundsException", Cond.initialized "java/lang/IndexOutOfBoundsException", Cond.fieldLink RX5 10 "Yarncourt" "patterns" "Ljava/util/ArrayList;", Cond.classLink RX5 45 "Yarncourt$Pattern", Cond.methodLink RX5 173 yJx4a65c_size_8abf5, Cond.instanceMethod yJx4a65c_size_8abf5, Cond.selects RJx4a65c yJx4a65c_size_8abf5 yJx4a65c_size_8abf5, Cond.initialized RJx4a65c, Cond.code yJx4a65c_size_8abf5 cJx4a65c_size_8abf5 1 (some .int), Cond.fieldLink RJx4a65c 48 "java/util/ArrayList" "size" "I", Cond.methodLink RX5 224 yJx4a65c_get_915e3]
def wsX5_buy_r2 : List Cond := [Cond.instanceMethod yJx4a65c_get_915e3, Cond.selects RJx4a65c yJx4a65c_get_915e3 yJx4a65c_get_915e3, Cond.code yJx4a65c_get_915e3 cJx4a65c_get_915e3 2 (some (.object "java/lang/Object")), Cond.methodLink RJx4a65c 118 yJ15_checkIndex_7cf53, Cond.static yJ15_checkIndex_7cf53, Cond.initialized RJ15, Cond.code yJ15_checkIndex_7cf53 cJ15_checkIndex_7cf53 2 (some .int), Cond.methodLink RJ15 105 yJ3_checkIndex_8e157, Cond.static yJ3_checkIndex_8e157, Cond.initialized RJ3, Cond.code yJ3_checkIndex_8e157 cJ3_checkIndex_8e157 3 (some .int), Cond.methodLink RJx4a65c 123 yJx4a65c_elementData_915e3, Cond.instanceMethod yJx4a65c_elementData_915e3, Cond.selects RJx4a65c yJx4a65c_elementData_915e3 yJx4a65c_elementData_915e3, Cond.code yJx4a65c_elementData_915e3 cJx4a65c_elementData_915e3 2 (some (.object "java/lang/Object")), Cond.fieldLink RJx4a65c 9 "java/util/ArrayList" "elementData" "[Ljava/lang/Object;", Cond.methodLink RX5 29 yX5_checkPerson, Cond.static yX5_checkPerson, Cond.code yX5_checkPerson cX5_checkPerson 1 none, Cond.methodLink RX5 61 yX2_isPublished, Cond.instanceMethod yX2_isPublished, Cond.selects RX2 yX2_isPublished yX2_isPublished, Cond.initialized RX2, Cond.code yX2_isPublished cX2_isPublished 1 (some .boolean)]
def wsX5_buy_r3 : List Cond := [Cond.fieldLink RX2 15 "Yarncourt$Pattern" "original" "LYarncourt$Pattern;", Cond.methodLink RX5 158 yX2_mayBeKnittedBy, Cond.instanceMethod yX2_mayBeKnittedBy, Cond.selects RX2 yX2_mayBeKnittedBy yX2_mayBeKnittedBy, Cond.code yX2_mayBeKnittedBy cX2_mayBeKnittedBy 2 (some .boolean), Cond.fieldLink RX2 30 "Yarncourt$Pattern" "owner" "I", Cond.fieldLink RX2 9 "Yarncourt$Pattern" "boughtBy" "[Z"]
def wsX5_buy : List Cond := .code yX5_buy cX5_buy 4 (some .int) :: ((wsX5_buy_r1 ++ (wsX5_buy_r2 ++ wsX5_buy_r3)) ++ wsX20 ++ wsX50 ++ wsJx4a65c0 ++ (vx_atS RX5 73 "java/lang/IllegalStateException" ["java/lang/RuntimeException", "java/lang/Exception"]).filter goodWord ++ (vx_atS RX5 223 "java/lang/IndexOutOfBoundsException" ["java/lang/RuntimeException", "java/lang/Exception"]).filter goodWord)
def wsX5_rule_r1 : List Cond := [Cond.classLink RX5 69 "java/lang/IllegalStateException", Cond.initialized "java/lang/IllegalStateException", Cond.fieldLink RX5 132 "Yarncourt$Pattern" "original" "LYarncourt$Pattern;", Cond.fieldLink RX5 116 "Yarncourt$Pattern" "owner" "I", Cond.fieldLink RX5 154 "Yarncourt$Pattern" "barred" "Z", Cond.fieldLink RX5 25 "Yarncourt" "purses" "[I", Cond.fieldLink RX5 167 "Yarncourt$Pattern" "takings" "I", Cond.methodLink RX5 50 yX5_patternAt, Cond.instanceMethod yX5_patternAt, Cond.selects RX5 yX5_patternAt yX5_patternAt, Cond.initialized RX5, Cond.code yX5_patternAt cX5_patternAt 2 (some (.object "Yarncourt$Pattern")), Cond.classLink RX5 219 "java/lang/IndexOutOfBoundsException", Cond.initialized "java/lang/IndexOutOfBoundsException", Cond.fieldLink RX5 10 "Yarncourt" "patterns" "Ljava/util/ArrayList;", Cond.classLink RX5 45 "Yarncourt$Pattern", Cond.methodLink RX5 173 yJx4a65c_size_8abf5, Cond.instanceMethod yJx4a65c_size_8abf5, Cond.selects RJx4a65c yJx4a65c_size_8abf5 yJx4a65c_size_8abf5, Cond.initialized RJx4a65c, Cond.code yJx4a65c_size_8abf5 cJx4a65c_size_8abf5 1 (some .int), Cond.fieldLink RJx4a65c 48 "java/util/ArrayList" "size" "I", Cond.methodLink RX5 224 yJx4a65c_get_915e3, Cond.instanceMethod yJx4a65c_get_915e3]
def wsX5_rule_r2 : List Cond := [Cond.selects RJx4a65c yJx4a65c_get_915e3 yJx4a65c_get_915e3, Cond.code yJx4a65c_get_915e3 cJx4a65c_get_915e3 2 (some (.object "java/lang/Object")), Cond.methodLink RJx4a65c 118 yJ15_checkIndex_7cf53, Cond.static yJ15_checkIndex_7cf53, Cond.initialized RJ15, Cond.code yJ15_checkIndex_7cf53 cJ15_checkIndex_7cf53 2 (some .int), Cond.methodLink RJ15 105 yJ3_checkIndex_8e157, Cond.static yJ3_checkIndex_8e157, Cond.initialized RJ3, Cond.code yJ3_checkIndex_8e157 cJ3_checkIndex_8e157 3 (some .int), Cond.methodLink RJx4a65c 123 yJx4a65c_elementData_915e3, Cond.instanceMethod yJx4a65c_elementData_915e3, Cond.selects RJx4a65c yJx4a65c_elementData_915e3 yJx4a65c_elementData_915e3, Cond.code yJx4a65c_elementData_915e3 cJx4a65c_elementData_915e3 2 (some (.object "java/lang/Object")), Cond.fieldLink RJx4a65c 9 "java/util/ArrayList" "elementData" "[Ljava/lang/Object;"]
def wsX5_rule : List Cond := .code yX5_rule cX5_rule 4 (some .int) :: ((wsX5_rule_r1 ++ wsX5_rule_r2) ++ wsX20 ++ wsX50 ++ wsJx4a65c0 ++ (vx_atS RX5 73 "java/lang/IllegalStateException" ["java/lang/RuntimeException", "java/lang/Exception"]).filter goodWord ++ (vx_atS RX5 223 "java/lang/IndexOutOfBoundsException" ["java/lang/RuntimeException", "java/lang/Exception"]).filter goodWord)
def wsX5_money : List Cond := .code yX5_money cX5_money 2 (some .int) :: ([.fieldLink RX5 25 "Yarncourt" "purses" "[I", .methodLink RX5 29 yX5_checkPerson, .static yX5_checkPerson, .initialized RX5, .code yX5_checkPerson cX5_checkPerson 1 none, .classLink RX5 219 "java/lang/IndexOutOfBoundsException", .initialized "java/lang/IndexOutOfBoundsException"] ++ wsX50 ++ (vx_atS RX5 223 "java/lang/IndexOutOfBoundsException" ["java/lang/RuntimeException", "java/lang/Exception"]).filter goodWord)
def wsX5_lot_r1 : List Cond := [Cond.classLink RX5 69 "java/lang/IllegalStateException", Cond.initialized "java/lang/IllegalStateException", Cond.constant RX5 172 (100000), Cond.fieldLink RX5 19 "Yarncourt" "lots" "Ljava/util/ArrayList;", Cond.classLink RX5 178 RX1, Cond.instantiable RX1 4, Cond.initialized RX1, Cond.methodLink RX5 29 yX5_checkPerson, Cond.static yX5_checkPerson, Cond.initialized RX5, Cond.code yX5_checkPerson cX5_checkPerson 1 none, Cond.classLink RX5 219 "java/lang/IndexOutOfBoundsException", Cond.initialized "java/lang/IndexOutOfBoundsException", Cond.methodLink RX5 87 yX5_checkGauge, Cond.static yX5_checkGauge, Cond.code yX5_checkGauge cX5_checkGauge 1 none, Cond.methodLink RX5 33 yX5_checkRange, Cond.static yX5_checkRange, Cond.code yX5_checkRange cX5_checkRange 3 none, Cond.classLink RX5 54 "java/lang/IllegalArgumentException", Cond.initialized "java/lang/IllegalArgumentException", Cond.methodLink RX5 173 yJx4a65c_size_8abf5, Cond.instanceMethod yJx4a65c_size_8abf5, Cond.selects RJx4a65c yJx4a65c_size_8abf5 yJx4a65c_size_8abf5]
def wsX5_lot_r2 : List Cond := [Cond.initialized RJx4a65c, Cond.code yJx4a65c_size_8abf5 cJx4a65c_size_8abf5 1 (some .int), Cond.fieldLink RJx4a65c 48 "java/util/ArrayList" "size" "I", Cond.methodLink RX5 180 yX1_init, Cond.instanceMethod yX1_init, Cond.code yX1_init cX1_init 5 none, Cond.methodLink RX1 1 objectInit, Cond.instanceMethod objectInit, Cond.code objectInit ⟨#[0xb1]⟩ 1 none, Cond.fieldLink RX1 7 "Yarncourt$Lot" "number" "I", Cond.fieldLink RX1 13 "Yarncourt$Lot" "gauge" "I", Cond.fieldLink RX1 16 "Yarncourt$Lot" "person" "I", Cond.fieldLink RX1 19 "Yarncourt$Lot" "yarn" "I", Cond.methodLink RX5 136 yJx4a65c_add_9ea2d, Cond.instanceMethod yJx4a65c_add_9ea2d, Cond.selects RJx4a65c yJx4a65c_add_9ea2d yJx4a65c_add_9ea2d, Cond.code yJx4a65c_add_9ea2d cJx4a65c_add_9ea2d 2 (some .boolean), Cond.fieldLink RJx4a65c 63 "java/util/ArrayList" "modCount" "I", Cond.sameField "java/util/ArrayList" "java/util/AbstractList" "modCount" "I", Cond.fieldLink RJx4a65c 9 "java/util/ArrayList" "elementData" "[Ljava/lang/Object;", Cond.methodLink RJx4a65c 131 yJx4a65c_add_72be8, Cond.instanceMethod yJx4a65c_add_72be8, Cond.selects RJx4a65c yJx4a65c_add_72be8 yJx4a65c_add_72be8, Cond.code yJx4a65c_add_72be8 cJx4a65c_add_72be8 4 none]
def wsX5_lot_r3 : List Cond := [Cond.methodLink RJx4a65c 129 yJx4a65c_grow_d5877, Cond.instanceMethod yJx4a65c_grow_d5877, Cond.selects RJx4a65c yJx4a65c_grow_d5877 yJx4a65c_grow_d5877, Cond.code yJx4a65c_grow_d5877 cJx4a65c_grow_d5877 1 (some (.array (.object "java/lang/Object"))), Cond.methodLink RJx4a65c 69 yJx4a65c_grow_92f84, Cond.instanceMethod yJx4a65c_grow_92f84, Cond.selects RJx4a65c yJx4a65c_grow_92f84 yJx4a65c_grow_92f84, Cond.code yJx4a65c_grow_92f84 cJx4a65c_grow_92f84 4 (some (.array (.object "java/lang/Object"))), Cond.fieldLink RJx4a65c 39 "java/util/ArrayList" "DEFAULTCAPACITY_EMPTY_ELEMENTDATA" "[Ljava/lang/Object;", Cond.methodLink RJx4a65c 79 Lib.Math.max.name, Cond.static Lib.Math.max.name, Cond.initialized "java/lang/Math", Cond.code Lib.Math.max.name Lib.Math.max.code 2 (some .int), Cond.classLink RJx4a65c 7 "java/lang/Object", Cond.methodLink RJx4a65c 73 yJ8_newLength_cabcc, Cond.static yJ8_newLength_cabcc, Cond.initialized RJ8, Cond.code yJ8_newLength_cabcc cJ8_newLength_cabcc 4 (some .int), Cond.methodLink RJ8 194 Lib.Math.max.name, Cond.constant RJ8 200 (2147483639), Cond.methodLink RJ8 201 yJ8_hugeLength_7cf53, Cond.static yJ8_hugeLength_7cf53, Cond.code yJ8_hugeLength_7cf53 cJ8_hugeLength_7cf53 3 (some .int), Cond.methodLink RJx4a65c 66 yJ7_copyOf_1904c]
def wsX5_lot_r4 : List Cond := [Cond.static yJ7_copyOf_1904c, Cond.initialized RJ7, Cond.code yJ7_copyOf_1904c cJ7_copyOf_1904c 2 (some (.array (.object "java/lang/Object"))), Cond.methodLink RJ7 86 ⟨"java/lang/Object", "getClass", "()Ljava/lang/Class;"⟩, Cond.selects "[Ljava/lang/Object;" ⟨"java/lang/Object", "getClass", "()Ljava/lang/Class;"⟩ ⟨"java/lang/Object", "getClass", "()Ljava/lang/Class;"⟩, Cond.instanceMethod ⟨"java/lang/Object", "getClass", "()Ljava/lang/Class;"⟩, Cond.native ⟨"java/lang/Object", "getClass", "()Ljava/lang/Class;"⟩, Cond.methodLink RJ7 300 yJ7_copyOf_6403c, Cond.static yJ7_copyOf_6403c, Cond.code yJ7_copyOf_6403c cJ7_copyOf_6403c 4 (some (.array (.object "java/lang/Object"))), Cond.classLink RJ7 110 "[Ljava/lang/Object;", Cond.classLink RJ7 2 "java/lang/Object", Cond.methodLink RJ7 304 Lib.Math.min.name, Cond.static Lib.Math.min.name, Cond.code Lib.Math.min.name Lib.Math.min.code 2 (some .int), Cond.methodLink RJ7 150 arraycopyName, Cond.native arraycopyName, Cond.static arraycopyName, Cond.initialized "java/lang/System"]
def wsX5_lot : List Cond := .code yX5_lot cX5_lot 5 (some .int) :: ((wsX5_lot_r1 ++ (wsX5_lot_r2 ++ (wsX5_lot_r3 ++ wsX5_lot_r4))) ++ wsX50 ++ wsX10 ++ wsJx4a65c0 ++ (vx_atS RX5 73 "java/lang/IllegalStateException" ["java/lang/RuntimeException", "java/lang/Exception"]).filter goodWord ++ (vx_atS RX5 223 "java/lang/IndexOutOfBoundsException" ["java/lang/RuntimeException", "java/lang/Exception"]).filter goodWord ++ (vx_atS RX5 58 "java/lang/IllegalArgumentException" ["java/lang/RuntimeException", "java/lang/Exception"]).filter goodWord)
def wsX5_lotAt_r1 : List Cond := [Cond.classLink RX5 219 "java/lang/IndexOutOfBoundsException", Cond.initialized "java/lang/IndexOutOfBoundsException", Cond.fieldLink RX5 19 "Yarncourt" "lots" "Ljava/util/ArrayList;", Cond.classLink RX5 178 "Yarncourt$Lot", Cond.methodLink RX5 173 yJx4a65c_size_8abf5, Cond.instanceMethod yJx4a65c_size_8abf5, Cond.selects RJx4a65c yJx4a65c_size_8abf5 yJx4a65c_size_8abf5, Cond.initialized RJx4a65c, Cond.code yJx4a65c_size_8abf5 cJx4a65c_size_8abf5 1 (some .int), Cond.fieldLink RJx4a65c 48 "java/util/ArrayList" "size" "I", Cond.methodLink RX5 224 yJx4a65c_get_915e3, Cond.instanceMethod yJx4a65c_get_915e3, Cond.selects RJx4a65c yJx4a65c_get_915e3 yJx4a65c_get_915e3, Cond.code yJx4a65c_get_915e3 cJx4a65c_get_915e3 2 (some (.object "java/lang/Object")), Cond.methodLink RJx4a65c 118 yJ15_checkIndex_7cf53, Cond.static yJ15_checkIndex_7cf53, Cond.initialized RJ15, Cond.code yJ15_checkIndex_7cf53 cJ15_checkIndex_7cf53 2 (some .int), Cond.methodLink RJ15 105 yJ3_checkIndex_8e157, Cond.static yJ3_checkIndex_8e157, Cond.initialized RJ3, Cond.code yJ3_checkIndex_8e157 cJ3_checkIndex_8e157 3 (some .int), Cond.methodLink RJx4a65c 123 yJx4a65c_elementData_915e3, Cond.instanceMethod yJx4a65c_elementData_915e3]
def wsX5_lotAt_r2 : List Cond := [Cond.selects RJx4a65c yJx4a65c_elementData_915e3 yJx4a65c_elementData_915e3, Cond.code yJx4a65c_elementData_915e3 cJx4a65c_elementData_915e3 2 (some (.object "java/lang/Object")), Cond.fieldLink RJx4a65c 9 "java/util/ArrayList" "elementData" "[Ljava/lang/Object;"]
def wsX5_lotAt : List Cond := .code yX5_lotAt cX5_lotAt 2 (some (.object "Yarncourt$Lot")) :: ((wsX5_lotAt_r1 ++ wsX5_lotAt_r2) ++ wsX50 ++ wsJx4a65c0 ++ (vx_atS RX5 223 "java/lang/IndexOutOfBoundsException" ["java/lang/RuntimeException", "java/lang/Exception"]).filter goodWord)
def wsX5_swap_r1 : List Cond := [Cond.classLink RX5 69 "java/lang/IllegalStateException", Cond.initialized "java/lang/IllegalStateException", Cond.fieldLink RX5 186 "Yarncourt$Lot" "person" "I", Cond.methodLink RX5 182 yX5_lotAt, Cond.instanceMethod yX5_lotAt, Cond.selects RX5 yX5_lotAt yX5_lotAt, Cond.initialized RX5, Cond.code yX5_lotAt cX5_lotAt 2 (some (.object "Yarncourt$Lot")), Cond.classLink RX5 219 "java/lang/IndexOutOfBoundsException", Cond.initialized "java/lang/IndexOutOfBoundsException", Cond.fieldLink RX5 19 "Yarncourt" "lots" "Ljava/util/ArrayList;", Cond.classLink RX5 178 "Yarncourt$Lot", Cond.methodLink RX5 173 yJx4a65c_size_8abf5, Cond.instanceMethod yJx4a65c_size_8abf5, Cond.selects RJx4a65c yJx4a65c_size_8abf5 yJx4a65c_size_8abf5, Cond.initialized RJx4a65c, Cond.code yJx4a65c_size_8abf5 cJx4a65c_size_8abf5 1 (some .int), Cond.fieldLink RJx4a65c 48 "java/util/ArrayList" "size" "I", Cond.methodLink RX5 224 yJx4a65c_get_915e3, Cond.instanceMethod yJx4a65c_get_915e3, Cond.selects RJx4a65c yJx4a65c_get_915e3 yJx4a65c_get_915e3, Cond.code yJx4a65c_get_915e3 cJx4a65c_get_915e3 2 (some (.object "java/lang/Object")), Cond.methodLink RJx4a65c 118 yJ15_checkIndex_7cf53, Cond.static yJ15_checkIndex_7cf53]
def wsX5_swap_r2 : List Cond := [Cond.initialized RJ15, Cond.code yJ15_checkIndex_7cf53 cJ15_checkIndex_7cf53 2 (some .int), Cond.methodLink RJ15 105 yJ3_checkIndex_8e157, Cond.static yJ3_checkIndex_8e157, Cond.initialized RJ3, Cond.code yJ3_checkIndex_8e157 cJ3_checkIndex_8e157 3 (some .int), Cond.methodLink RJx4a65c 123 yJx4a65c_elementData_915e3, Cond.instanceMethod yJx4a65c_elementData_915e3, Cond.selects RJx4a65c yJx4a65c_elementData_915e3 yJx4a65c_elementData_915e3, Cond.code yJx4a65c_elementData_915e3 cJx4a65c_elementData_915e3 2 (some (.object "java/lang/Object")), Cond.fieldLink RJx4a65c 9 "java/util/ArrayList" "elementData" "[Ljava/lang/Object;"]
def wsX5_swap : List Cond := .code yX5_swap cX5_swap 6 (some .int) :: ((wsX5_swap_r1 ++ wsX5_swap_r2) ++ wsX10 ++ wsX50 ++ wsJx4a65c0 ++ (vx_atS RX5 73 "java/lang/IllegalStateException" ["java/lang/RuntimeException", "java/lang/Exception"]).filter goodWord ++ (vx_atS RX5 223 "java/lang/IndexOutOfBoundsException" ["java/lang/RuntimeException", "java/lang/Exception"]).filter goodWord)
def wsX5_left_r1 : List Cond := [Cond.fieldLink RX5 191 "Yarncourt$Lot" "yarn" "I", Cond.methodLink RX5 182 yX5_lotAt, Cond.instanceMethod yX5_lotAt, Cond.selects RX5 yX5_lotAt yX5_lotAt, Cond.initialized RX5, Cond.code yX5_lotAt cX5_lotAt 2 (some (.object "Yarncourt$Lot")), Cond.classLink RX5 219 "java/lang/IndexOutOfBoundsException", Cond.initialized "java/lang/IndexOutOfBoundsException", Cond.fieldLink RX5 19 "Yarncourt" "lots" "Ljava/util/ArrayList;", Cond.classLink RX5 178 "Yarncourt$Lot", Cond.methodLink RX5 173 yJx4a65c_size_8abf5, Cond.instanceMethod yJx4a65c_size_8abf5, Cond.selects RJx4a65c yJx4a65c_size_8abf5 yJx4a65c_size_8abf5, Cond.initialized RJx4a65c, Cond.code yJx4a65c_size_8abf5 cJx4a65c_size_8abf5 1 (some .int), Cond.fieldLink RJx4a65c 48 "java/util/ArrayList" "size" "I", Cond.methodLink RX5 224 yJx4a65c_get_915e3, Cond.instanceMethod yJx4a65c_get_915e3, Cond.selects RJx4a65c yJx4a65c_get_915e3 yJx4a65c_get_915e3, Cond.code yJx4a65c_get_915e3 cJx4a65c_get_915e3 2 (some (.object "java/lang/Object")), Cond.methodLink RJx4a65c 118 yJ15_checkIndex_7cf53, Cond.static yJ15_checkIndex_7cf53, Cond.initialized RJ15, Cond.code yJ15_checkIndex_7cf53 cJ15_checkIndex_7cf53 2 (some .int)]
def wsX5_left_r2 : List Cond := [Cond.methodLink RJ15 105 yJ3_checkIndex_8e157, Cond.static yJ3_checkIndex_8e157, Cond.initialized RJ3, Cond.code yJ3_checkIndex_8e157 cJ3_checkIndex_8e157 3 (some .int), Cond.methodLink RJx4a65c 123 yJx4a65c_elementData_915e3, Cond.instanceMethod yJx4a65c_elementData_915e3, Cond.selects RJx4a65c yJx4a65c_elementData_915e3 yJx4a65c_elementData_915e3, Cond.code yJx4a65c_elementData_915e3 cJx4a65c_elementData_915e3 2 (some (.object "java/lang/Object")), Cond.fieldLink RJx4a65c 9 "java/util/ArrayList" "elementData" "[Ljava/lang/Object;"]
def wsX5_left : List Cond := .code yX5_left cX5_left 2 (some .int) :: ((wsX5_left_r1 ++ wsX5_left_r2) ++ wsX10 ++ wsX50 ++ wsJx4a65c0 ++ (vx_atS RX5 223 "java/lang/IndexOutOfBoundsException" ["java/lang/RuntimeException", "java/lang/Exception"]).filter goodWord)
def wsX5_project_r1 : List Cond := [Cond.classLink RX5 69 "java/lang/IllegalStateException", Cond.initialized "java/lang/IllegalStateException", Cond.fieldLink RX5 22 "Yarncourt" "projects" "Ljava/util/ArrayList;", Cond.fieldLink RX5 186 "Yarncourt$Lot" "person" "I", Cond.classLink RX5 196 RX4, Cond.instantiable RX4 4, Cond.initialized RX4, Cond.methodLink RX5 29 yX5_checkPerson, Cond.static yX5_checkPerson, Cond.initialized RX5, Cond.code yX5_checkPerson cX5_checkPerson 1 none, Cond.classLink RX5 219 "java/lang/IndexOutOfBoundsException", Cond.initialized "java/lang/IndexOutOfBoundsException", Cond.methodLink RX5 50 yX5_patternAt, Cond.instanceMethod yX5_patternAt, Cond.selects RX5 yX5_patternAt yX5_patternAt, Cond.code yX5_patternAt cX5_patternAt 2 (some (.object "Yarncourt$Pattern")), Cond.fieldLink RX5 10 "Yarncourt" "patterns" "Ljava/util/ArrayList;", Cond.classLink RX5 45 "Yarncourt$Pattern", Cond.methodLink RX5 173 yJx4a65c_size_8abf5, Cond.instanceMethod yJx4a65c_size_8abf5, Cond.selects RJx4a65c yJx4a65c_size_8abf5 yJx4a65c_size_8abf5, Cond.initialized RJx4a65c, Cond.code yJx4a65c_size_8abf5 cJx4a65c_size_8abf5 1 (some .int)]
def wsX5_project_r2 : List Cond := [Cond.fieldLink RJx4a65c 48 "java/util/ArrayList" "size" "I", Cond.methodLink RX5 224 yJx4a65c_get_915e3, Cond.instanceMethod yJx4a65c_get_915e3, Cond.selects RJx4a65c yJx4a65c_get_915e3 yJx4a65c_get_915e3, Cond.code yJx4a65c_get_915e3 cJx4a65c_get_915e3 2 (some (.object "java/lang/Object")), Cond.methodLink RJx4a65c 118 yJ15_checkIndex_7cf53, Cond.static yJ15_checkIndex_7cf53, Cond.initialized RJ15, Cond.code yJ15_checkIndex_7cf53 cJ15_checkIndex_7cf53 2 (some .int), Cond.methodLink RJ15 105 yJ3_checkIndex_8e157, Cond.static yJ3_checkIndex_8e157, Cond.initialized RJ3, Cond.code yJ3_checkIndex_8e157 cJ3_checkIndex_8e157 3 (some .int), Cond.methodLink RJx4a65c 123 yJx4a65c_elementData_915e3, Cond.instanceMethod yJx4a65c_elementData_915e3, Cond.selects RJx4a65c yJx4a65c_elementData_915e3 yJx4a65c_elementData_915e3, Cond.code yJx4a65c_elementData_915e3 cJx4a65c_elementData_915e3 2 (some (.object "java/lang/Object")), Cond.fieldLink RJx4a65c 9 "java/util/ArrayList" "elementData" "[Ljava/lang/Object;", Cond.methodLink RX5 182 yX5_lotAt, Cond.instanceMethod yX5_lotAt, Cond.selects RX5 yX5_lotAt yX5_lotAt, Cond.code yX5_lotAt cX5_lotAt 2 (some (.object "Yarncourt$Lot")), Cond.fieldLink RX5 19 "Yarncourt" "lots" "Ljava/util/ArrayList;", Cond.classLink RX5 178 "Yarncourt$Lot"]
def wsX5_project_r3 : List Cond := [Cond.methodLink RX5 61 yX2_isPublished, Cond.instanceMethod yX2_isPublished, Cond.selects RX2 yX2_isPublished yX2_isPublished, Cond.initialized RX2, Cond.code yX2_isPublished cX2_isPublished 1 (some .boolean), Cond.fieldLink RX2 15 "Yarncourt$Pattern" "original" "LYarncourt$Pattern;", Cond.methodLink RX5 158 yX2_mayBeKnittedBy, Cond.instanceMethod yX2_mayBeKnittedBy, Cond.selects RX2 yX2_mayBeKnittedBy yX2_mayBeKnittedBy, Cond.code yX2_mayBeKnittedBy cX2_mayBeKnittedBy 2 (some .boolean), Cond.fieldLink RX2 30 "Yarncourt$Pattern" "owner" "I", Cond.fieldLink RX2 9 "Yarncourt$Pattern" "boughtBy" "[Z", Cond.methodLink RX5 198 yX4_init, Cond.instanceMethod yX4_init, Cond.code yX4_init cX4_init 4 none, Cond.methodLink RX4 1 objectInit, Cond.instanceMethod objectInit, Cond.code objectInit ⟨#[0xb1]⟩ 1 none, Cond.fieldLink RX4 7 "Yarncourt$Project" "knitted" "I", Cond.fieldLink RX4 13 "Yarncourt$Project" "person" "I", Cond.fieldLink RX4 16 "Yarncourt$Project" "pattern" "LYarncourt$Pattern;", Cond.fieldLink RX4 20 "Yarncourt$Project" "lot" "LYarncourt$Lot;", Cond.methodLink RX5 136 yJx4a65c_add_9ea2d, Cond.instanceMethod yJx4a65c_add_9ea2d]
def wsX5_project_r4 : List Cond := [Cond.selects RJx4a65c yJx4a65c_add_9ea2d yJx4a65c_add_9ea2d, Cond.code yJx4a65c_add_9ea2d cJx4a65c_add_9ea2d 2 (some .boolean), Cond.fieldLink RJx4a65c 63 "java/util/ArrayList" "modCount" "I", Cond.sameField "java/util/ArrayList" "java/util/AbstractList" "modCount" "I", Cond.methodLink RJx4a65c 131 yJx4a65c_add_72be8, Cond.instanceMethod yJx4a65c_add_72be8, Cond.selects RJx4a65c yJx4a65c_add_72be8 yJx4a65c_add_72be8, Cond.code yJx4a65c_add_72be8 cJx4a65c_add_72be8 4 none, Cond.methodLink RJx4a65c 129 yJx4a65c_grow_d5877, Cond.instanceMethod yJx4a65c_grow_d5877, Cond.selects RJx4a65c yJx4a65c_grow_d5877 yJx4a65c_grow_d5877, Cond.code yJx4a65c_grow_d5877 cJx4a65c_grow_d5877 1 (some (.array (.object "java/lang/Object"))), Cond.methodLink RJx4a65c 69 yJx4a65c_grow_92f84, Cond.instanceMethod yJx4a65c_grow_92f84, Cond.selects RJx4a65c yJx4a65c_grow_92f84 yJx4a65c_grow_92f84, Cond.code yJx4a65c_grow_92f84 cJx4a65c_grow_92f84 4 (some (.array (.object "java/lang/Object"))), Cond.fieldLink RJx4a65c 39 "java/util/ArrayList" "DEFAULTCAPACITY_EMPTY_ELEMENTDATA" "[Ljava/lang/Object;", Cond.methodLink RJx4a65c 79 Lib.Math.max.name, Cond.static Lib.Math.max.name, Cond.initialized "java/lang/Math", Cond.code Lib.Math.max.name Lib.Math.max.code 2 (some .int), Cond.classLink RJx4a65c 7 "java/lang/Object", Cond.methodLink RJx4a65c 73 yJ8_newLength_cabcc, Cond.static yJ8_newLength_cabcc]
def wsX5_project_r5 : List Cond := [Cond.initialized RJ8, Cond.code yJ8_newLength_cabcc cJ8_newLength_cabcc 4 (some .int), Cond.methodLink RJ8 194 Lib.Math.max.name, Cond.constant RJ8 200 (2147483639), Cond.methodLink RJ8 201 yJ8_hugeLength_7cf53, Cond.static yJ8_hugeLength_7cf53, Cond.code yJ8_hugeLength_7cf53 cJ8_hugeLength_7cf53 3 (some .int), Cond.methodLink RJx4a65c 66 yJ7_copyOf_1904c, Cond.static yJ7_copyOf_1904c, Cond.initialized RJ7, Cond.code yJ7_copyOf_1904c cJ7_copyOf_1904c 2 (some (.array (.object "java/lang/Object"))), Cond.methodLink RJ7 86 ⟨"java/lang/Object", "getClass", "()Ljava/lang/Class;"⟩, Cond.selects "[Ljava/lang/Object;" ⟨"java/lang/Object", "getClass", "()Ljava/lang/Class;"⟩ ⟨"java/lang/Object", "getClass", "()Ljava/lang/Class;"⟩, Cond.instanceMethod ⟨"java/lang/Object", "getClass", "()Ljava/lang/Class;"⟩, Cond.native ⟨"java/lang/Object", "getClass", "()Ljava/lang/Class;"⟩, Cond.methodLink RJ7 300 yJ7_copyOf_6403c, Cond.static yJ7_copyOf_6403c, Cond.code yJ7_copyOf_6403c cJ7_copyOf_6403c 4 (some (.array (.object "java/lang/Object"))), Cond.classLink RJ7 110 "[Ljava/lang/Object;", Cond.classLink RJ7 2 "java/lang/Object", Cond.methodLink RJ7 304 Lib.Math.min.name, Cond.static Lib.Math.min.name, Cond.code Lib.Math.min.name Lib.Math.min.code 2 (some .int), Cond.methodLink RJ7 150 arraycopyName]
def wsX5_project_r6 : List Cond := [Cond.native arraycopyName, Cond.static arraycopyName, Cond.initialized "java/lang/System"]
def wsX5_project : List Cond := .code yX5_project cX5_project 7 (some .int) :: ((wsX5_project_r1 ++ (wsX5_project_r2 ++ (wsX5_project_r3 ++ (wsX5_project_r4 ++ (wsX5_project_r5 ++ wsX5_project_r6))))) ++ wsX50 ++ wsX10 ++ wsX40 ++ wsJx4a65c0 ++ wsX20 ++ (vx_atS RX5 73 "java/lang/IllegalStateException" ["java/lang/RuntimeException", "java/lang/Exception"]).filter goodWord ++ (vx_atS RX5 223 "java/lang/IndexOutOfBoundsException" ["java/lang/RuntimeException", "java/lang/Exception"]).filter goodWord)
def wsX5_projectAt_r1 : List Cond := [Cond.classLink RX5 219 "java/lang/IndexOutOfBoundsException", Cond.initialized "java/lang/IndexOutOfBoundsException", Cond.fieldLink RX5 22 "Yarncourt" "projects" "Ljava/util/ArrayList;", Cond.classLink RX5 196 "Yarncourt$Project", Cond.methodLink RX5 173 yJx4a65c_size_8abf5, Cond.instanceMethod yJx4a65c_size_8abf5, Cond.selects RJx4a65c yJx4a65c_size_8abf5 yJx4a65c_size_8abf5, Cond.initialized RJx4a65c, Cond.code yJx4a65c_size_8abf5 cJx4a65c_size_8abf5 1 (some .int), Cond.fieldLink RJx4a65c 48 "java/util/ArrayList" "size" "I", Cond.methodLink RX5 224 yJx4a65c_get_915e3, Cond.instanceMethod yJx4a65c_get_915e3, Cond.selects RJx4a65c yJx4a65c_get_915e3 yJx4a65c_get_915e3, Cond.code yJx4a65c_get_915e3 cJx4a65c_get_915e3 2 (some (.object "java/lang/Object")), Cond.methodLink RJx4a65c 118 yJ15_checkIndex_7cf53, Cond.static yJ15_checkIndex_7cf53, Cond.initialized RJ15, Cond.code yJ15_checkIndex_7cf53 cJ15_checkIndex_7cf53 2 (some .int), Cond.methodLink RJ15 105 yJ3_checkIndex_8e157, Cond.static yJ3_checkIndex_8e157, Cond.initialized RJ3, Cond.code yJ3_checkIndex_8e157 cJ3_checkIndex_8e157 3 (some .int), Cond.methodLink RJx4a65c 123 yJx4a65c_elementData_915e3, Cond.instanceMethod yJx4a65c_elementData_915e3]
def wsX5_projectAt_r2 : List Cond := [Cond.selects RJx4a65c yJx4a65c_elementData_915e3 yJx4a65c_elementData_915e3, Cond.code yJx4a65c_elementData_915e3 cJx4a65c_elementData_915e3 2 (some (.object "java/lang/Object")), Cond.fieldLink RJx4a65c 9 "java/util/ArrayList" "elementData" "[Ljava/lang/Object;"]
def wsX5_projectAt : List Cond := .code yX5_projectAt cX5_projectAt 2 (some (.object "Yarncourt$Project")) :: ((wsX5_projectAt_r1 ++ wsX5_projectAt_r2) ++ wsX50 ++ wsJx4a65c0 ++ (vx_atS RX5 223 "java/lang/IndexOutOfBoundsException" ["java/lang/RuntimeException", "java/lang/Exception"]).filter goodWord)
def wsX5_take_r1 : List Cond := [Cond.classLink RX5 69 "java/lang/IllegalStateException", Cond.initialized "java/lang/IllegalStateException", Cond.fieldLink RX5 186 "Yarncourt$Lot" "person" "I", Cond.fieldLink RX5 205 "Yarncourt$Project" "person" "I", Cond.fieldLink RX5 208 "Yarncourt$Project" "lot" "LYarncourt$Lot;", Cond.fieldLink RX5 212 "Yarncourt$Lot" "number" "I", Cond.methodLink RX5 201 yX5_projectAt, Cond.instanceMethod yX5_projectAt, Cond.selects RX5 yX5_projectAt yX5_projectAt, Cond.initialized RX5, Cond.code yX5_projectAt cX5_projectAt 2 (some (.object "Yarncourt$Project")), Cond.classLink RX5 219 "java/lang/IndexOutOfBoundsException", Cond.initialized "java/lang/IndexOutOfBoundsException", Cond.fieldLink RX5 22 "Yarncourt" "projects" "Ljava/util/ArrayList;", Cond.classLink RX5 196 "Yarncourt$Project", Cond.methodLink RX5 173 yJx4a65c_size_8abf5, Cond.instanceMethod yJx4a65c_size_8abf5, Cond.selects RJx4a65c yJx4a65c_size_8abf5 yJx4a65c_size_8abf5, Cond.initialized RJx4a65c, Cond.code yJx4a65c_size_8abf5 cJx4a65c_size_8abf5 1 (some .int), Cond.fieldLink RJx4a65c 48 "java/util/ArrayList" "size" "I", Cond.methodLink RX5 224 yJx4a65c_get_915e3, Cond.instanceMethod yJx4a65c_get_915e3, Cond.selects RJx4a65c yJx4a65c_get_915e3 yJx4a65c_get_915e3]
def wsX5_take_r2 : List Cond := [Cond.code yJx4a65c_get_915e3 cJx4a65c_get_915e3 2 (some (.object "java/lang/Object")), Cond.methodLink RJx4a65c 118 yJ15_checkIndex_7cf53, Cond.static yJ15_checkIndex_7cf53, Cond.initialized RJ15, Cond.code yJ15_checkIndex_7cf53 cJ15_checkIndex_7cf53 2 (some .int), Cond.methodLink RJ15 105 yJ3_checkIndex_8e157, Cond.static yJ3_checkIndex_8e157, Cond.initialized RJ3, Cond.code yJ3_checkIndex_8e157 cJ3_checkIndex_8e157 3 (some .int), Cond.methodLink RJx4a65c 123 yJx4a65c_elementData_915e3, Cond.instanceMethod yJx4a65c_elementData_915e3, Cond.selects RJx4a65c yJx4a65c_elementData_915e3 yJx4a65c_elementData_915e3, Cond.code yJx4a65c_elementData_915e3 cJx4a65c_elementData_915e3 2 (some (.object "java/lang/Object")), Cond.fieldLink RJx4a65c 9 "java/util/ArrayList" "elementData" "[Ljava/lang/Object;", Cond.methodLink RX5 182 yX5_lotAt, Cond.instanceMethod yX5_lotAt, Cond.selects RX5 yX5_lotAt yX5_lotAt, Cond.code yX5_lotAt cX5_lotAt 2 (some (.object "Yarncourt$Lot")), Cond.fieldLink RX5 19 "Yarncourt" "lots" "Ljava/util/ArrayList;", Cond.classLink RX5 178 "Yarncourt$Lot"]
def wsX5_take : List Cond := .code yX5_take cX5_take 6 (some .int) :: ((wsX5_take_r1 ++ wsX5_take_r2) ++ wsX10 ++ wsX40 ++ wsX50 ++ wsJx4a65c0 ++ (vx_atS RX5 73 "java/lang/IllegalStateException" ["java/lang/RuntimeException", "java/lang/Exception"]).filter goodWord ++ (vx_atS RX5 223 "java/lang/IndexOutOfBoundsException" ["java/lang/RuntimeException", "java/lang/Exception"]).filter goodWord)
def wsX5_knit_r1 : List Cond := [Cond.methodLink RX5 201 yX5_projectAt, Cond.instanceMethod yX5_projectAt, Cond.selects RX5 yX5_projectAt yX5_projectAt, Cond.initialized RX5, Cond.code yX5_projectAt cX5_projectAt 2 (some (.object "Yarncourt$Project")), Cond.classLink RX5 219 "java/lang/IndexOutOfBoundsException", Cond.initialized "java/lang/IndexOutOfBoundsException", Cond.fieldLink RX5 22 "Yarncourt" "projects" "Ljava/util/ArrayList;", Cond.classLink RX5 196 "Yarncourt$Project", Cond.methodLink RX5 173 yJx4a65c_size_8abf5, Cond.instanceMethod yJx4a65c_size_8abf5, Cond.selects RJx4a65c yJx4a65c_size_8abf5 yJx4a65c_size_8abf5, Cond.initialized RJx4a65c, Cond.code yJx4a65c_size_8abf5 cJx4a65c_size_8abf5 1 (some .int), Cond.fieldLink RJx4a65c 48 "java/util/ArrayList" "size" "I", Cond.methodLink RX5 224 yJx4a65c_get_915e3, Cond.instanceMethod yJx4a65c_get_915e3, Cond.selects RJx4a65c yJx4a65c_get_915e3 yJx4a65c_get_915e3, Cond.code yJx4a65c_get_915e3 cJx4a65c_get_915e3 2 (some (.object "java/lang/Object")), Cond.methodLink RJx4a65c 118 yJ15_checkIndex_7cf53, Cond.static yJ15_checkIndex_7cf53, Cond.initialized RJ15, Cond.code yJ15_checkIndex_7cf53 cJ15_checkIndex_7cf53 2 (some .int), Cond.methodLink RJ15 105 yJ3_checkIndex_8e157]
def wsX5_knit_r2 : List Cond := [Cond.static yJ3_checkIndex_8e157, Cond.initialized RJ3, Cond.code yJ3_checkIndex_8e157 cJ3_checkIndex_8e157 3 (some .int), Cond.methodLink RJx4a65c 123 yJx4a65c_elementData_915e3, Cond.instanceMethod yJx4a65c_elementData_915e3, Cond.selects RJx4a65c yJx4a65c_elementData_915e3 yJx4a65c_elementData_915e3, Cond.code yJx4a65c_elementData_915e3 cJx4a65c_elementData_915e3 2 (some (.object "java/lang/Object")), Cond.fieldLink RJx4a65c 9 "java/util/ArrayList" "elementData" "[Ljava/lang/Object;", Cond.methodLink RX5 33 yX5_checkRange, Cond.static yX5_checkRange, Cond.code yX5_checkRange cX5_checkRange 3 none, Cond.classLink RX5 54 "java/lang/IllegalArgumentException", Cond.initialized "java/lang/IllegalArgumentException", Cond.methodLink RX5 213 yX4_knitUpTo, Cond.instanceMethod yX4_knitUpTo, Cond.selects RX4 yX4_knitUpTo yX4_knitUpTo, Cond.initialized RX4, Cond.code yX4_knitUpTo cX4_knitUpTo 3 (some .int), Cond.fieldLink RX4 20 "Yarncourt$Project" "lot" "LYarncourt$Lot;", Cond.fieldLink RX4 28 "Yarncourt$Lot" "yarn" "I", Cond.fieldLink RX4 7 "Yarncourt$Project" "knitted" "I", Cond.methodLink RX4 24 yX4_canKnitRow, Cond.instanceMethod yX4_canKnitRow, Cond.selects RX4 yX4_canKnitRow yX4_canKnitRow]
def wsX5_knit_r3 : List Cond := [Cond.code yX4_canKnitRow cX4_canKnitRow 1 (some .boolean), Cond.fieldLink RX4 16 "Yarncourt$Project" "pattern" "LYarncourt$Pattern;", Cond.fieldLink RX4 37 "Yarncourt$Pattern" "chart" "LYarncourt$Chart;", Cond.fieldLink RX4 43 "Yarncourt$Chart" "rowCount" "I", Cond.fieldLink RX4 48 "Yarncourt$Lot" "person" "I", Cond.fieldLink RX4 13 "Yarncourt$Project" "person" "I", Cond.methodLink RX4 33 yX4_yarnOfNextRow, Cond.instanceMethod yX4_yarnOfNextRow, Cond.selects RX4 yX4_yarnOfNextRow yX4_yarnOfNextRow, Cond.code yX4_yarnOfNextRow cX4_yarnOfNextRow 1 (some .int), Cond.fieldLink RX4 49 "Yarncourt$Lot" "gauge" "I", Cond.methodLink RX4 52 yX0_yarnOf, Cond.instanceMethod yX0_yarnOf, Cond.selects RX0 yX0_yarnOf yX0_yarnOf, Cond.initialized RX0, Cond.code yX0_yarnOf cX0_yarnOf 2 (some .int), Cond.fieldLink RX0 19 "Yarncourt$Chart" "yarnOfRow" "[I"]
def wsX5_knit : List Cond := .code yX5_knit cX5_knit 4 (some .int) :: ((wsX5_knit_r1 ++ (wsX5_knit_r2 ++ wsX5_knit_r3)) ++ wsX50 ++ wsJx4a65c0 ++ wsX40 ++ wsX10 ++ wsX20 ++ wsX00 ++ (vx_atS RX5 223 "java/lang/IndexOutOfBoundsException" ["java/lang/RuntimeException", "java/lang/Exception"]).filter goodWord ++ (vx_atS RX5 58 "java/lang/IllegalArgumentException" ["java/lang/RuntimeException", "java/lang/Exception"]).filter goodWord)
def wsX5_progress_r1 : List Cond := [Cond.fieldLink RX5 216 "Yarncourt$Project" "knitted" "I", Cond.methodLink RX5 201 yX5_projectAt, Cond.instanceMethod yX5_projectAt, Cond.selects RX5 yX5_projectAt yX5_projectAt, Cond.initialized RX5, Cond.code yX5_projectAt cX5_projectAt 2 (some (.object "Yarncourt$Project")), Cond.classLink RX5 219 "java/lang/IndexOutOfBoundsException", Cond.initialized "java/lang/IndexOutOfBoundsException", Cond.fieldLink RX5 22 "Yarncourt" "projects" "Ljava/util/ArrayList;", Cond.classLink RX5 196 "Yarncourt$Project", Cond.methodLink RX5 173 yJx4a65c_size_8abf5, Cond.instanceMethod yJx4a65c_size_8abf5, Cond.selects RJx4a65c yJx4a65c_size_8abf5 yJx4a65c_size_8abf5, Cond.initialized RJx4a65c, Cond.code yJx4a65c_size_8abf5 cJx4a65c_size_8abf5 1 (some .int), Cond.fieldLink RJx4a65c 48 "java/util/ArrayList" "size" "I", Cond.methodLink RX5 224 yJx4a65c_get_915e3, Cond.instanceMethod yJx4a65c_get_915e3, Cond.selects RJx4a65c yJx4a65c_get_915e3 yJx4a65c_get_915e3, Cond.code yJx4a65c_get_915e3 cJx4a65c_get_915e3 2 (some (.object "java/lang/Object")), Cond.methodLink RJx4a65c 118 yJ15_checkIndex_7cf53, Cond.static yJ15_checkIndex_7cf53, Cond.initialized RJ15, Cond.code yJ15_checkIndex_7cf53 cJ15_checkIndex_7cf53 2 (some .int)]
def wsX5_progress_r2 : List Cond := [Cond.methodLink RJ15 105 yJ3_checkIndex_8e157, Cond.static yJ3_checkIndex_8e157, Cond.initialized RJ3, Cond.code yJ3_checkIndex_8e157 cJ3_checkIndex_8e157 3 (some .int), Cond.methodLink RJx4a65c 123 yJx4a65c_elementData_915e3, Cond.instanceMethod yJx4a65c_elementData_915e3, Cond.selects RJx4a65c yJx4a65c_elementData_915e3 yJx4a65c_elementData_915e3, Cond.code yJx4a65c_elementData_915e3 cJx4a65c_elementData_915e3 2 (some (.object "java/lang/Object")), Cond.fieldLink RJx4a65c 9 "java/util/ArrayList" "elementData" "[Ljava/lang/Object;"]
def wsX5_progress : List Cond := .code yX5_progress cX5_progress 2 (some .int) :: ((wsX5_progress_r1 ++ wsX5_progress_r2) ++ wsX40 ++ wsX50 ++ wsJx4a65c0 ++ (vx_atS RX5 223 "java/lang/IndexOutOfBoundsException" ["java/lang/RuntimeException", "java/lang/Exception"]).filter goodWord)
def wsX6_init : List Cond := .code yX6_init cX6_init 1 none :: ([.methodLink RX6 1 objectInit, .instanceMethod objectInit, .code objectInit ⟨#[0xb1]⟩ 1 none, .arrayClass .int, .fieldLink RX6 7 "YarncourtModel" "owners" "[I", .fieldLink RX6 13 "YarncourtModel" "widths" "[I", .fieldLink RX6 16 "YarncourtModel" "prices" "[I", .fieldLink RX6 19 "YarncourtModel" "lines" "[I", .fieldLink RX6 22 "YarncourtModel" "knits" "[I", .fieldLink RX6 25 "YarncourtModel" "purls" "[I", .fieldLink RX6 28 "YarncourtModel" "shapings" "[I", .fieldLink RX6 31 "YarncourtModel" "times" "[I", .fieldLink RX6 34 "YarncourtModel" "orders" "[I", .arrayClass .boolean, .fieldLink RX6 37 "YarncourtModel" "isBarred" "[Z", .fieldLink RX6 41 "YarncourtModel" "buyers" "[I", .fieldLink RX6 44 "YarncourtModel" "moneys" "[I", .fieldLink RX6 47 "YarncourtModel" "holders" "[I", .fieldLink RX6 50 "YarncourtModel" "gauges" "[I", .fieldLink RX6 53 "YarncourtModel" "yarns" "[I", .fieldLink RX6 56 "YarncourtModel" "knitters" "[I", .fieldLink RX6 59 "YarncourtModel" "projectPatterns" "[I", .fieldLink RX6 62 "YarncourtModel" "projectLots" "[I", .fieldLink RX6 65 "YarncourtModel" "done" "[I"] ++ wsX60)
def wsX6_thrown : List Cond := .code yX6_thrown cX6_thrown 1 (some .int) :: ([.fieldLink RX6 68 "YarncourtModel" "refusal" "I"] ++ wsX60)
def wsX6_refused : List Cond := .code yX6_refused cX6_refused 2 (some .boolean) :: ([.fieldLink RX6 68 "YarncourtModel" "refusal" "I"] ++ wsX60)
def wsX6_in : List Cond := .code yX6_in cX6_in 3 (some .boolean) :: ([])
def wsX6_isPerson : List Cond := .code yX6_isPerson cX6_isPerson 1 (some .boolean) :: ([.methodLink RX6 72 yX6_in, .static yX6_in, .initialized RX6, .code yX6_in cX6_in 3 (some .boolean)])
def wsX6_isPattern : List Cond := .code yX6_isPattern cX6_isPattern 2 (some .boolean) :: ([.fieldLink RX6 76 "YarncourtModel" "patterns" "I", .methodLink RX6 72 yX6_in, .static yX6_in, .initialized RX6, .code yX6_in cX6_in 3 (some .boolean)] ++ wsX60)
def wsX6_isLot : List Cond := .code yX6_isLot cX6_isLot 2 (some .boolean) :: ([.fieldLink RX6 79 "YarncourtModel" "lots" "I", .methodLink RX6 72 yX6_in, .static yX6_in, .initialized RX6, .code yX6_in cX6_in 3 (some .boolean)] ++ wsX60)
def wsX6_isProject : List Cond := .code yX6_isProject cX6_isProject 2 (some .boolean) :: ([.fieldLink RX6 82 "YarncourtModel" "projects" "I", .methodLink RX6 72 yX6_in, .static yX6_in, .initialized RX6, .code yX6_in cX6_in 3 (some .boolean)] ++ wsX60)
def wsX6_added : List Cond := .code yX6_added cX6_added 4 (some .int) :: ([.fieldLink RX6 7 "YarncourtModel" "owners" "[I", .fieldLink RX6 76 "YarncourtModel" "patterns" "I", .fieldLink RX6 13 "YarncourtModel" "widths" "[I", .fieldLink RX6 16 "YarncourtModel" "prices" "[I", .fieldLink RX6 34 "YarncourtModel" "orders" "[I"] ++ wsX60)
def wsX6_begin : List Cond := .code yX6_begin cX6_begin 5 (some .int) :: ([.fieldLink RX6 76 "YarncourtModel" "patterns" "I", .methodLink RX6 72 yX6_in, .static yX6_in, .initialized RX6, .code yX6_in cX6_in 3 (some .boolean), .methodLink RX6 85 yX6_isPerson, .static yX6_isPerson, .code yX6_isPerson cX6_isPerson 1 (some .boolean), .methodLink RX6 89 yX6_refused, .instanceMethod yX6_refused, .selects RX6 yX6_refused yX6_refused, .code yX6_refused cX6_refused 2 (some .boolean), .fieldLink RX6 68 "YarncourtModel" "refusal" "I", .methodLink RX6 92 yX6_added, .instanceMethod yX6_added, .selects RX6 yX6_added yX6_added, .code yX6_added cX6_added 4 (some .int), .fieldLink RX6 7 "YarncourtModel" "owners" "[I", .fieldLink RX6 13 "YarncourtModel" "widths" "[I", .fieldLink RX6 16 "YarncourtModel" "prices" "[I", .fieldLink RX6 34 "YarncourtModel" "orders" "[I"] ++ wsX60)
def wsX6_rowsOf : List Cond := .code yX6_rowsOf cX6_rowsOf 4 (some .int) :: ([.fieldLink RX6 19 "YarncourtModel" "lines" "[I", .fieldLink RX6 31 "YarncourtModel" "times" "[I"] ++ wsX60)
def wsX6_put : List Cond := .code yX6_put cX6_put 7 none :: ([.fieldLink RX6 19 "YarncourtModel" "lines" "[I", .fieldLink RX6 22 "YarncourtModel" "knits" "[I", .fieldLink RX6 25 "YarncourtModel" "purls" "[I", .fieldLink RX6 28 "YarncourtModel" "shapings" "[I", .fieldLink RX6 31 "YarncourtModel" "times" "[I"] ++ wsX60)
def wsX6_isPublished : List Cond := .code yX6_isPublished cX6_isPublished 2 (some .boolean) :: ([.fieldLink RX6 34 "YarncourtModel" "orders" "[I"] ++ wsX60)
def wsX6_line_r1 : List Cond := [Cond.fieldLink RX6 19 "YarncourtModel" "lines" "[I", Cond.methodLink RX6 72 yX6_in, Cond.static yX6_in, Cond.initialized RX6, Cond.code yX6_in cX6_in 3 (some .boolean), Cond.methodLink RX6 96 yX6_isPattern, Cond.instanceMethod yX6_isPattern, Cond.selects RX6 yX6_isPattern yX6_isPattern, Cond.code yX6_isPattern cX6_isPattern 2 (some .boolean), Cond.fieldLink RX6 76 "YarncourtModel" "patterns" "I", Cond.methodLink RX6 99 yX6_isPublished, Cond.instanceMethod yX6_isPublished, Cond.selects RX6 yX6_isPublished yX6_isPublished, Cond.code yX6_isPublished cX6_isPublished 2 (some .boolean), Cond.fieldLink RX6 34 "YarncourtModel" "orders" "[I", Cond.methodLink RX6 102 yX6_rowsOf, Cond.instanceMethod yX6_rowsOf, Cond.selects RX6 yX6_rowsOf yX6_rowsOf, Cond.code yX6_rowsOf cX6_rowsOf 4 (some .int), Cond.fieldLink RX6 31 "YarncourtModel" "times" "[I", Cond.methodLink RX6 89 yX6_refused, Cond.instanceMethod yX6_refused, Cond.selects RX6 yX6_refused yX6_refused, Cond.code yX6_refused cX6_refused 2 (some .boolean)]
def wsX6_line_r2 : List Cond := [Cond.fieldLink RX6 68 "YarncourtModel" "refusal" "I", Cond.methodLink RX6 106 yX6_put, Cond.instanceMethod yX6_put, Cond.selects RX6 yX6_put yX6_put, Cond.code yX6_put cX6_put 7 none, Cond.fieldLink RX6 22 "YarncourtModel" "knits" "[I", Cond.fieldLink RX6 25 "YarncourtModel" "purls" "[I", Cond.fieldLink RX6 28 "YarncourtModel" "shapings" "[I"]
def wsX6_line : List Cond := .code yX6_line cX6_line 8 (some .int) :: ((wsX6_line_r1 ++ wsX6_line_r2) ++ wsX60)
def wsX6_oftenAnew : List Cond := .code yX6_oftenAnew cX6_oftenAnew 4 (some .int) :: ([.fieldLink RX6 31 "YarncourtModel" "times" "[I"] ++ wsX60)
def wsX6_anew_r1 : List Cond := [Cond.fieldLink RX6 19 "YarncourtModel" "lines" "[I", Cond.fieldLink RX6 76 "YarncourtModel" "patterns" "I", Cond.fieldLink RX6 13 "YarncourtModel" "widths" "[I", Cond.fieldLink RX6 7 "YarncourtModel" "owners" "[I", Cond.fieldLink RX6 16 "YarncourtModel" "prices" "[I", Cond.fieldLink RX6 22 "YarncourtModel" "knits" "[I", Cond.fieldLink RX6 25 "YarncourtModel" "purls" "[I", Cond.fieldLink RX6 28 "YarncourtModel" "shapings" "[I", Cond.methodLink RX6 72 yX6_in, Cond.static yX6_in, Cond.initialized RX6, Cond.code yX6_in cX6_in 3 (some .boolean), Cond.methodLink RX6 96 yX6_isPattern, Cond.instanceMethod yX6_isPattern, Cond.selects RX6 yX6_isPattern yX6_isPattern, Cond.code yX6_isPattern cX6_isPattern 2 (some .boolean), Cond.methodLink RX6 110 yX6_oftenAnew, Cond.instanceMethod yX6_oftenAnew, Cond.selects RX6 yX6_oftenAnew yX6_oftenAnew, Cond.code yX6_oftenAnew cX6_oftenAnew 4 (some .int), Cond.fieldLink RX6 31 "YarncourtModel" "times" "[I", Cond.methodLink RX6 89 yX6_refused, Cond.instanceMethod yX6_refused, Cond.selects RX6 yX6_refused yX6_refused]
def wsX6_anew_r2 : List Cond := [Cond.code yX6_refused cX6_refused 2 (some .boolean), Cond.fieldLink RX6 68 "YarncourtModel" "refusal" "I", Cond.methodLink RX6 92 yX6_added, Cond.instanceMethod yX6_added, Cond.selects RX6 yX6_added yX6_added, Cond.code yX6_added cX6_added 4 (some .int), Cond.fieldLink RX6 34 "YarncourtModel" "orders" "[I", Cond.methodLink RX6 106 yX6_put, Cond.instanceMethod yX6_put, Cond.selects RX6 yX6_put yX6_put, Cond.code yX6_put cX6_put 7 none]
def wsX6_anew : List Cond := .code yX6_anew cX6_anew 9 (some .int) :: ((wsX6_anew_r1 ++ wsX6_anew_r2) ++ wsX60)
def wsX6_goTo : List Cond := .code yX6_goTo cX6_goTo 6 none :: ([.fieldLink RX6 114 "YarncourtModel" "rowLine" "I", .fieldLink RX6 13 "YarncourtModel" "widths" "[I", .fieldLink RX6 117 "YarncourtModel" "rowWidth" "I", .fieldLink RX6 31 "YarncourtModel" "times" "[I", .fieldLink RX6 28 "YarncourtModel" "shapings" "[I"] ++ wsX60)
def wsX6_stitchAt : List Cond := .code yX6_stitchAt cX6_stitchAt 2 (some .int) :: ([.fieldLink RX6 117 "YarncourtModel" "rowWidth" "I", .fieldLink RX6 22 "YarncourtModel" "knits" "[I", .fieldLink RX6 114 "YarncourtModel" "rowLine" "I", .fieldLink RX6 25 "YarncourtModel" "purls" "[I"] ++ wsX60)
def wsX6_stitchOf : List Cond := .code yX6_stitchOf cX6_stitchOf 4 (some .int) :: ([.methodLink RX6 120 yX6_goTo, .instanceMethod yX6_goTo, .selects RX6 yX6_goTo yX6_goTo, .initialized RX6, .code yX6_goTo cX6_goTo 6 none, .fieldLink RX6 114 "YarncourtModel" "rowLine" "I", .fieldLink RX6 13 "YarncourtModel" "widths" "[I", .fieldLink RX6 117 "YarncourtModel" "rowWidth" "I", .fieldLink RX6 31 "YarncourtModel" "times" "[I", .fieldLink RX6 28 "YarncourtModel" "shapings" "[I", .methodLink RX6 124 yX6_stitchAt, .instanceMethod yX6_stitchAt, .selects RX6 yX6_stitchAt yX6_stitchAt, .code yX6_stitchAt cX6_stitchAt 2 (some .int), .fieldLink RX6 22 "YarncourtModel" "knits" "[I", .fieldLink RX6 25 "YarncourtModel" "purls" "[I"] ++ wsX60)
def wsX6_areAlike_r1 : List Cond := [Cond.methodLink RX6 102 yX6_rowsOf, Cond.instanceMethod yX6_rowsOf, Cond.selects RX6 yX6_rowsOf yX6_rowsOf, Cond.initialized RX6, Cond.code yX6_rowsOf cX6_rowsOf 4 (some .int), Cond.fieldLink RX6 19 "YarncourtModel" "lines" "[I", Cond.fieldLink RX6 31 "YarncourtModel" "times" "[I", Cond.methodLink RX6 127 yX6_stitchOf, Cond.instanceMethod yX6_stitchOf, Cond.selects RX6 yX6_stitchOf yX6_stitchOf, Cond.code yX6_stitchOf cX6_stitchOf 4 (some .int), Cond.methodLink RX6 120 yX6_goTo, Cond.instanceMethod yX6_goTo, Cond.selects RX6 yX6_goTo yX6_goTo, Cond.code yX6_goTo cX6_goTo 6 none, Cond.fieldLink RX6 114 "YarncourtModel" "rowLine" "I", Cond.fieldLink RX6 13 "YarncourtModel" "widths" "[I", Cond.fieldLink RX6 117 "YarncourtModel" "rowWidth" "I", Cond.fieldLink RX6 28 "YarncourtModel" "shapings" "[I", Cond.methodLink RX6 124 yX6_stitchAt, Cond.instanceMethod yX6_stitchAt, Cond.selects RX6 yX6_stitchAt yX6_stitchAt, Cond.code yX6_stitchAt cX6_stitchAt 2 (some .int), Cond.fieldLink RX6 22 "YarncourtModel" "knits" "[I"]
def wsX6_areAlike_r2 : List Cond := [Cond.fieldLink RX6 25 "YarncourtModel" "purls" "[I"]
def wsX6_areAlike : List Cond := .code yX6_areAlike cX6_areAlike 6 (some .boolean) :: ((wsX6_areAlike_r1 ++ wsX6_areAlike_r2) ++ wsX60)
def wsX6_originalOf_r1 : List Cond := [Cond.fieldLink RX6 76 "YarncourtModel" "patterns" "I", Cond.fieldLink RX6 34 "YarncourtModel" "orders" "[I", Cond.methodLink RX6 130 yX6_areAlike, Cond.instanceMethod yX6_areAlike, Cond.selects RX6 yX6_areAlike yX6_areAlike, Cond.initialized RX6, Cond.code yX6_areAlike cX6_areAlike 6 (some .boolean), Cond.methodLink RX6 102 yX6_rowsOf, Cond.instanceMethod yX6_rowsOf, Cond.selects RX6 yX6_rowsOf yX6_rowsOf, Cond.code yX6_rowsOf cX6_rowsOf 4 (some .int), Cond.fieldLink RX6 19 "YarncourtModel" "lines" "[I", Cond.fieldLink RX6 31 "YarncourtModel" "times" "[I", Cond.methodLink RX6 127 yX6_stitchOf, Cond.instanceMethod yX6_stitchOf, Cond.selects RX6 yX6_stitchOf yX6_stitchOf, Cond.code yX6_stitchOf cX6_stitchOf 4 (some .int), Cond.methodLink RX6 120 yX6_goTo, Cond.instanceMethod yX6_goTo, Cond.selects RX6 yX6_goTo yX6_goTo, Cond.code yX6_goTo cX6_goTo 6 none, Cond.fieldLink RX6 114 "YarncourtModel" "rowLine" "I", Cond.fieldLink RX6 13 "YarncourtModel" "widths" "[I", Cond.fieldLink RX6 117 "YarncourtModel" "rowWidth" "I"]
def wsX6_originalOf_r2 : List Cond := [Cond.fieldLink RX6 28 "YarncourtModel" "shapings" "[I", Cond.methodLink RX6 124 yX6_stitchAt, Cond.instanceMethod yX6_stitchAt, Cond.selects RX6 yX6_stitchAt yX6_stitchAt, Cond.code yX6_stitchAt cX6_stitchAt 2 (some .int), Cond.fieldLink RX6 22 "YarncourtModel" "knits" "[I", Cond.fieldLink RX6 25 "YarncourtModel" "purls" "[I"]
def wsX6_originalOf : List Cond := .code yX6_originalOf cX6_originalOf 4 (some .int) :: ((wsX6_originalOf_r1 ++ wsX6_originalOf_r2) ++ wsX60)
def wsX6_publish_r1 : List Cond := [Cond.fieldLink RX6 19 "YarncourtModel" "lines" "[I", Cond.fieldLink RX6 34 "YarncourtModel" "orders" "[I", Cond.fieldLink RX6 134 "YarncourtModel" "published" "I", Cond.methodLink RX6 96 yX6_isPattern, Cond.instanceMethod yX6_isPattern, Cond.selects RX6 yX6_isPattern yX6_isPattern, Cond.initialized RX6, Cond.code yX6_isPattern cX6_isPattern 2 (some .boolean), Cond.fieldLink RX6 76 "YarncourtModel" "patterns" "I", Cond.methodLink RX6 72 yX6_in, Cond.static yX6_in, Cond.code yX6_in cX6_in 3 (some .boolean), Cond.methodLink RX6 99 yX6_isPublished, Cond.instanceMethod yX6_isPublished, Cond.selects RX6 yX6_isPublished yX6_isPublished, Cond.code yX6_isPublished cX6_isPublished 2 (some .boolean), Cond.methodLink RX6 89 yX6_refused, Cond.instanceMethod yX6_refused, Cond.selects RX6 yX6_refused yX6_refused, Cond.code yX6_refused cX6_refused 2 (some .boolean), Cond.fieldLink RX6 68 "YarncourtModel" "refusal" "I", Cond.methodLink RX6 137 yX6_originalOf, Cond.instanceMethod yX6_originalOf, Cond.selects RX6 yX6_originalOf yX6_originalOf]
def wsX6_publish_r2 : List Cond := [Cond.code yX6_originalOf cX6_originalOf 4 (some .int), Cond.methodLink RX6 130 yX6_areAlike, Cond.instanceMethod yX6_areAlike, Cond.selects RX6 yX6_areAlike yX6_areAlike, Cond.code yX6_areAlike cX6_areAlike 6 (some .boolean), Cond.methodLink RX6 102 yX6_rowsOf, Cond.instanceMethod yX6_rowsOf, Cond.selects RX6 yX6_rowsOf yX6_rowsOf, Cond.code yX6_rowsOf cX6_rowsOf 4 (some .int), Cond.fieldLink RX6 31 "YarncourtModel" "times" "[I", Cond.methodLink RX6 127 yX6_stitchOf, Cond.instanceMethod yX6_stitchOf, Cond.selects RX6 yX6_stitchOf yX6_stitchOf, Cond.code yX6_stitchOf cX6_stitchOf 4 (some .int), Cond.methodLink RX6 120 yX6_goTo, Cond.instanceMethod yX6_goTo, Cond.selects RX6 yX6_goTo yX6_goTo, Cond.code yX6_goTo cX6_goTo 6 none, Cond.fieldLink RX6 114 "YarncourtModel" "rowLine" "I", Cond.fieldLink RX6 13 "YarncourtModel" "widths" "[I", Cond.fieldLink RX6 117 "YarncourtModel" "rowWidth" "I", Cond.fieldLink RX6 28 "YarncourtModel" "shapings" "[I", Cond.methodLink RX6 124 yX6_stitchAt, Cond.instanceMethod yX6_stitchAt]
def wsX6_publish_r3 : List Cond := [Cond.selects RX6 yX6_stitchAt yX6_stitchAt, Cond.code yX6_stitchAt cX6_stitchAt 2 (some .int), Cond.fieldLink RX6 22 "YarncourtModel" "knits" "[I", Cond.fieldLink RX6 25 "YarncourtModel" "purls" "[I"]
def wsX6_publish : List Cond := .code yX6_publish cX6_publish 3 (some .int) :: ((wsX6_publish_r1 ++ (wsX6_publish_r2 ++ wsX6_publish_r3)) ++ wsX60)
def wsX6_noPattern : List Cond := .code yX6_noPattern cX6_noPattern 2 (some .boolean) :: ([.methodLink RX6 96 yX6_isPattern, .instanceMethod yX6_isPattern, .selects RX6 yX6_isPattern yX6_isPattern, .initialized RX6, .code yX6_isPattern cX6_isPattern 2 (some .boolean), .fieldLink RX6 76 "YarncourtModel" "patterns" "I", .methodLink RX6 72 yX6_in, .static yX6_in, .code yX6_in cX6_in 3 (some .boolean), .methodLink RX6 89 yX6_refused, .instanceMethod yX6_refused, .selects RX6 yX6_refused yX6_refused, .code yX6_refused cX6_refused 2 (some .boolean), .fieldLink RX6 68 "YarncourtModel" "refusal" "I"] ++ wsX60)
def wsX6_original_r1 : List Cond := [Cond.methodLink RX6 140 yX6_noPattern, Cond.instanceMethod yX6_noPattern, Cond.selects RX6 yX6_noPattern yX6_noPattern, Cond.initialized RX6, Cond.code yX6_noPattern cX6_noPattern 2 (some .boolean), Cond.methodLink RX6 96 yX6_isPattern, Cond.instanceMethod yX6_isPattern, Cond.selects RX6 yX6_isPattern yX6_isPattern, Cond.code yX6_isPattern cX6_isPattern 2 (some .boolean), Cond.fieldLink RX6 76 "YarncourtModel" "patterns" "I", Cond.methodLink RX6 72 yX6_in, Cond.static yX6_in, Cond.code yX6_in cX6_in 3 (some .boolean), Cond.methodLink RX6 89 yX6_refused, Cond.instanceMethod yX6_refused, Cond.selects RX6 yX6_refused yX6_refused, Cond.code yX6_refused cX6_refused 2 (some .boolean), Cond.fieldLink RX6 68 "YarncourtModel" "refusal" "I", Cond.methodLink RX6 99 yX6_isPublished, Cond.instanceMethod yX6_isPublished, Cond.selects RX6 yX6_isPublished yX6_isPublished, Cond.code yX6_isPublished cX6_isPublished 2 (some .boolean), Cond.fieldLink RX6 34 "YarncourtModel" "orders" "[I", Cond.methodLink RX6 137 yX6_originalOf]
def wsX6_original_r2 : List Cond := [Cond.instanceMethod yX6_originalOf, Cond.selects RX6 yX6_originalOf yX6_originalOf, Cond.code yX6_originalOf cX6_originalOf 4 (some .int), Cond.methodLink RX6 130 yX6_areAlike, Cond.instanceMethod yX6_areAlike, Cond.selects RX6 yX6_areAlike yX6_areAlike, Cond.code yX6_areAlike cX6_areAlike 6 (some .boolean), Cond.methodLink RX6 102 yX6_rowsOf, Cond.instanceMethod yX6_rowsOf, Cond.selects RX6 yX6_rowsOf yX6_rowsOf, Cond.code yX6_rowsOf cX6_rowsOf 4 (some .int), Cond.fieldLink RX6 19 "YarncourtModel" "lines" "[I", Cond.fieldLink RX6 31 "YarncourtModel" "times" "[I", Cond.methodLink RX6 127 yX6_stitchOf, Cond.instanceMethod yX6_stitchOf, Cond.selects RX6 yX6_stitchOf yX6_stitchOf, Cond.code yX6_stitchOf cX6_stitchOf 4 (some .int), Cond.methodLink RX6 120 yX6_goTo, Cond.instanceMethod yX6_goTo, Cond.selects RX6 yX6_goTo yX6_goTo, Cond.code yX6_goTo cX6_goTo 6 none, Cond.fieldLink RX6 114 "YarncourtModel" "rowLine" "I", Cond.fieldLink RX6 13 "YarncourtModel" "widths" "[I", Cond.fieldLink RX6 117 "YarncourtModel" "rowWidth" "I"]
def wsX6_original_r3 : List Cond := [Cond.fieldLink RX6 28 "YarncourtModel" "shapings" "[I", Cond.methodLink RX6 124 yX6_stitchAt, Cond.instanceMethod yX6_stitchAt, Cond.selects RX6 yX6_stitchAt yX6_stitchAt, Cond.code yX6_stitchAt cX6_stitchAt 2 (some .int), Cond.fieldLink RX6 22 "YarncourtModel" "knits" "[I", Cond.fieldLink RX6 25 "YarncourtModel" "purls" "[I"]
def wsX6_original : List Cond := .code yX6_original cX6_original 2 (some .int) :: ((wsX6_original_r1 ++ (wsX6_original_r2 ++ wsX6_original_r3)) ++ wsX60)
def wsX6_rows : List Cond := .code yX6_rows cX6_rows 2 (some .int) :: ([.methodLink RX6 140 yX6_noPattern, .instanceMethod yX6_noPattern, .selects RX6 yX6_noPattern yX6_noPattern, .initialized RX6, .code yX6_noPattern cX6_noPattern 2 (some .boolean), .methodLink RX6 96 yX6_isPattern, .instanceMethod yX6_isPattern, .selects RX6 yX6_isPattern yX6_isPattern, .code yX6_isPattern cX6_isPattern 2 (some .boolean), .fieldLink RX6 76 "YarncourtModel" "patterns" "I", .methodLink RX6 72 yX6_in, .static yX6_in, .code yX6_in cX6_in 3 (some .boolean), .methodLink RX6 89 yX6_refused, .instanceMethod yX6_refused, .selects RX6 yX6_refused yX6_refused, .code yX6_refused cX6_refused 2 (some .boolean), .fieldLink RX6 68 "YarncourtModel" "refusal" "I", .methodLink RX6 102 yX6_rowsOf, .instanceMethod yX6_rowsOf, .selects RX6 yX6_rowsOf yX6_rowsOf, .code yX6_rowsOf cX6_rowsOf 4 (some .int), .fieldLink RX6 19 "YarncourtModel" "lines" "[I", .fieldLink RX6 31 "YarncourtModel" "times" "[I"] ++ wsX60)
def wsX6_stitch_r1 : List Cond := [Cond.methodLink RX6 96 yX6_isPattern, Cond.instanceMethod yX6_isPattern, Cond.selects RX6 yX6_isPattern yX6_isPattern, Cond.initialized RX6, Cond.code yX6_isPattern cX6_isPattern 2 (some .boolean), Cond.fieldLink RX6 76 "YarncourtModel" "patterns" "I", Cond.methodLink RX6 72 yX6_in, Cond.static yX6_in, Cond.code yX6_in cX6_in 3 (some .boolean), Cond.methodLink RX6 102 yX6_rowsOf, Cond.instanceMethod yX6_rowsOf, Cond.selects RX6 yX6_rowsOf yX6_rowsOf, Cond.code yX6_rowsOf cX6_rowsOf 4 (some .int), Cond.fieldLink RX6 19 "YarncourtModel" "lines" "[I", Cond.fieldLink RX6 31 "YarncourtModel" "times" "[I", Cond.methodLink RX6 89 yX6_refused, Cond.instanceMethod yX6_refused, Cond.selects RX6 yX6_refused yX6_refused, Cond.code yX6_refused cX6_refused 2 (some .boolean), Cond.fieldLink RX6 68 "YarncourtModel" "refusal" "I", Cond.methodLink RX6 127 yX6_stitchOf, Cond.instanceMethod yX6_stitchOf, Cond.selects RX6 yX6_stitchOf yX6_stitchOf, Cond.code yX6_stitchOf cX6_stitchOf 4 (some .int)]
def wsX6_stitch_r2 : List Cond := [Cond.methodLink RX6 120 yX6_goTo, Cond.instanceMethod yX6_goTo, Cond.selects RX6 yX6_goTo yX6_goTo, Cond.code yX6_goTo cX6_goTo 6 none, Cond.fieldLink RX6 114 "YarncourtModel" "rowLine" "I", Cond.fieldLink RX6 13 "YarncourtModel" "widths" "[I", Cond.fieldLink RX6 117 "YarncourtModel" "rowWidth" "I", Cond.fieldLink RX6 28 "YarncourtModel" "shapings" "[I", Cond.methodLink RX6 124 yX6_stitchAt, Cond.instanceMethod yX6_stitchAt, Cond.selects RX6 yX6_stitchAt yX6_stitchAt, Cond.code yX6_stitchAt cX6_stitchAt 2 (some .int), Cond.fieldLink RX6 22 "YarncourtModel" "knits" "[I", Cond.fieldLink RX6 25 "YarncourtModel" "purls" "[I"]
def wsX6_stitch : List Cond := .code yX6_stitch cX6_stitch 5 (some .int) :: ((wsX6_stitch_r1 ++ wsX6_stitch_r2) ++ wsX60)
def wsX6_stitchByWork_r1 : List Cond := [Cond.methodLink RX6 143 yX6_stitch, Cond.instanceMethod yX6_stitch, Cond.selects RX6 yX6_stitch yX6_stitch, Cond.initialized RX6, Cond.code yX6_stitch cX6_stitch 5 (some .int), Cond.methodLink RX6 96 yX6_isPattern, Cond.instanceMethod yX6_isPattern, Cond.selects RX6 yX6_isPattern yX6_isPattern, Cond.code yX6_isPattern cX6_isPattern 2 (some .boolean), Cond.fieldLink RX6 76 "YarncourtModel" "patterns" "I", Cond.methodLink RX6 72 yX6_in, Cond.static yX6_in, Cond.code yX6_in cX6_in 3 (some .boolean), Cond.methodLink RX6 102 yX6_rowsOf, Cond.instanceMethod yX6_rowsOf, Cond.selects RX6 yX6_rowsOf yX6_rowsOf, Cond.code yX6_rowsOf cX6_rowsOf 4 (some .int), Cond.fieldLink RX6 19 "YarncourtModel" "lines" "[I", Cond.fieldLink RX6 31 "YarncourtModel" "times" "[I", Cond.methodLink RX6 89 yX6_refused, Cond.instanceMethod yX6_refused, Cond.selects RX6 yX6_refused yX6_refused, Cond.code yX6_refused cX6_refused 2 (some .boolean), Cond.fieldLink RX6 68 "YarncourtModel" "refusal" "I"]
def wsX6_stitchByWork_r2 : List Cond := [Cond.methodLink RX6 127 yX6_stitchOf, Cond.instanceMethod yX6_stitchOf, Cond.selects RX6 yX6_stitchOf yX6_stitchOf, Cond.code yX6_stitchOf cX6_stitchOf 4 (some .int), Cond.methodLink RX6 120 yX6_goTo, Cond.instanceMethod yX6_goTo, Cond.selects RX6 yX6_goTo yX6_goTo, Cond.code yX6_goTo cX6_goTo 6 none, Cond.fieldLink RX6 114 "YarncourtModel" "rowLine" "I", Cond.fieldLink RX6 13 "YarncourtModel" "widths" "[I", Cond.fieldLink RX6 117 "YarncourtModel" "rowWidth" "I", Cond.fieldLink RX6 28 "YarncourtModel" "shapings" "[I", Cond.methodLink RX6 124 yX6_stitchAt, Cond.instanceMethod yX6_stitchAt, Cond.selects RX6 yX6_stitchAt yX6_stitchAt, Cond.code yX6_stitchAt cX6_stitchAt 2 (some .int), Cond.fieldLink RX6 22 "YarncourtModel" "knits" "[I", Cond.fieldLink RX6 25 "YarncourtModel" "purls" "[I"]
def wsX6_stitchByWork : List Cond := .code yX6_stitchByWork cX6_stitchByWork 4 (some .int) :: ((wsX6_stitchByWork_r1 ++ wsX6_stitchByWork_r2) ++ wsX60)
def wsX6_rowNeed : List Cond := .code yX6_rowNeed cX6_rowNeed 6 (some .int) :: ([.fieldLink RX6 117 "YarncourtModel" "rowWidth" "I", .methodLink RX6 120 yX6_goTo, .instanceMethod yX6_goTo, .selects RX6 yX6_goTo yX6_goTo, .initialized RX6, .code yX6_goTo cX6_goTo 6 none, .fieldLink RX6 114 "YarncourtModel" "rowLine" "I", .fieldLink RX6 13 "YarncourtModel" "widths" "[I", .fieldLink RX6 31 "YarncourtModel" "times" "[I", .fieldLink RX6 28 "YarncourtModel" "shapings" "[I", .methodLink RX6 124 yX6_stitchAt, .instanceMethod yX6_stitchAt, .selects RX6 yX6_stitchAt yX6_stitchAt, .code yX6_stitchAt cX6_stitchAt 2 (some .int), .fieldLink RX6 22 "YarncourtModel" "knits" "[I", .fieldLink RX6 25 "YarncourtModel" "purls" "[I"] ++ wsX60)
def wsX6_need_r1 : List Cond := [Cond.methodLink RX6 96 yX6_isPattern, Cond.instanceMethod yX6_isPattern, Cond.selects RX6 yX6_isPattern yX6_isPattern, Cond.initialized RX6, Cond.code yX6_isPattern cX6_isPattern 2 (some .boolean), Cond.fieldLink RX6 76 "YarncourtModel" "patterns" "I", Cond.methodLink RX6 72 yX6_in, Cond.static yX6_in, Cond.code yX6_in cX6_in 3 (some .boolean), Cond.methodLink RX6 89 yX6_refused, Cond.instanceMethod yX6_refused, Cond.selects RX6 yX6_refused yX6_refused, Cond.code yX6_refused cX6_refused 2 (some .boolean), Cond.fieldLink RX6 68 "YarncourtModel" "refusal" "I", Cond.methodLink RX6 102 yX6_rowsOf, Cond.instanceMethod yX6_rowsOf, Cond.selects RX6 yX6_rowsOf yX6_rowsOf, Cond.code yX6_rowsOf cX6_rowsOf 4 (some .int), Cond.fieldLink RX6 19 "YarncourtModel" "lines" "[I", Cond.fieldLink RX6 31 "YarncourtModel" "times" "[I", Cond.methodLink RX6 146 yX6_rowNeed, Cond.instanceMethod yX6_rowNeed, Cond.selects RX6 yX6_rowNeed yX6_rowNeed, Cond.code yX6_rowNeed cX6_rowNeed 6 (some .int)]
def wsX6_need_r2 : List Cond := [Cond.fieldLink RX6 117 "YarncourtModel" "rowWidth" "I", Cond.methodLink RX6 120 yX6_goTo, Cond.instanceMethod yX6_goTo, Cond.selects RX6 yX6_goTo yX6_goTo, Cond.code yX6_goTo cX6_goTo 6 none, Cond.fieldLink RX6 114 "YarncourtModel" "rowLine" "I", Cond.fieldLink RX6 13 "YarncourtModel" "widths" "[I", Cond.fieldLink RX6 28 "YarncourtModel" "shapings" "[I", Cond.methodLink RX6 124 yX6_stitchAt, Cond.instanceMethod yX6_stitchAt, Cond.selects RX6 yX6_stitchAt yX6_stitchAt, Cond.code yX6_stitchAt cX6_stitchAt 2 (some .int), Cond.fieldLink RX6 22 "YarncourtModel" "knits" "[I", Cond.fieldLink RX6 25 "YarncourtModel" "purls" "[I"]
def wsX6_need : List Cond := .code yX6_need cX6_need 5 (some .int) :: ((wsX6_need_r1 ++ wsX6_need_r2) ++ wsX60)
def wsX6_hasBought : List Cond := .code yX6_hasBought cX6_hasBought 3 (some .boolean) :: ([.fieldLink RX6 41 "YarncourtModel" "buyers" "[I"] ++ wsX60)
def wsX6_buy_r1 : List Cond := [Cond.fieldLink RX6 37 "YarncourtModel" "isBarred" "[Z", Cond.fieldLink RX6 7 "YarncourtModel" "owners" "[I", Cond.fieldLink RX6 41 "YarncourtModel" "buyers" "[I", Cond.fieldLink RX6 44 "YarncourtModel" "moneys" "[I", Cond.fieldLink RX6 16 "YarncourtModel" "prices" "[I", Cond.methodLink RX6 96 yX6_isPattern, Cond.instanceMethod yX6_isPattern, Cond.selects RX6 yX6_isPattern yX6_isPattern, Cond.initialized RX6, Cond.code yX6_isPattern cX6_isPattern 2 (some .boolean), Cond.fieldLink RX6 76 "YarncourtModel" "patterns" "I", Cond.methodLink RX6 72 yX6_in, Cond.static yX6_in, Cond.code yX6_in cX6_in 3 (some .boolean), Cond.methodLink RX6 85 yX6_isPerson, Cond.static yX6_isPerson, Cond.code yX6_isPerson cX6_isPerson 1 (some .boolean), Cond.methodLink RX6 99 yX6_isPublished, Cond.instanceMethod yX6_isPublished, Cond.selects RX6 yX6_isPublished yX6_isPublished, Cond.code yX6_isPublished cX6_isPublished 2 (some .boolean), Cond.fieldLink RX6 34 "YarncourtModel" "orders" "[I", Cond.methodLink RX6 149 yX6_hasBought, Cond.instanceMethod yX6_hasBought]
def wsX6_buy_r2 : List Cond := [Cond.selects RX6 yX6_hasBought yX6_hasBought, Cond.code yX6_hasBought cX6_hasBought 3 (some .boolean), Cond.methodLink RX6 89 yX6_refused, Cond.instanceMethod yX6_refused, Cond.selects RX6 yX6_refused yX6_refused, Cond.code yX6_refused cX6_refused 2 (some .boolean), Cond.fieldLink RX6 68 "YarncourtModel" "refusal" "I"]
def wsX6_buy : List Cond := .code yX6_buy cX6_buy 5 (some .int) :: ((wsX6_buy_r1 ++ wsX6_buy_r2) ++ wsX60)
def wsX6_rule_r1 : List Cond := [Cond.fieldLink RX6 37 "YarncourtModel" "isBarred" "[Z", Cond.fieldLink RX6 7 "YarncourtModel" "owners" "[I", Cond.fieldLink RX6 16 "YarncourtModel" "prices" "[I", Cond.fieldLink RX6 44 "YarncourtModel" "moneys" "[I", Cond.methodLink RX6 96 yX6_isPattern, Cond.instanceMethod yX6_isPattern, Cond.selects RX6 yX6_isPattern yX6_isPattern, Cond.initialized RX6, Cond.code yX6_isPattern cX6_isPattern 2 (some .boolean), Cond.fieldLink RX6 76 "YarncourtModel" "patterns" "I", Cond.methodLink RX6 72 yX6_in, Cond.static yX6_in, Cond.code yX6_in cX6_in 3 (some .boolean), Cond.methodLink RX6 99 yX6_isPublished, Cond.instanceMethod yX6_isPublished, Cond.selects RX6 yX6_isPublished yX6_isPublished, Cond.code yX6_isPublished cX6_isPublished 2 (some .boolean), Cond.fieldLink RX6 34 "YarncourtModel" "orders" "[I", Cond.methodLink RX6 137 yX6_originalOf, Cond.instanceMethod yX6_originalOf, Cond.selects RX6 yX6_originalOf yX6_originalOf, Cond.code yX6_originalOf cX6_originalOf 4 (some .int), Cond.methodLink RX6 130 yX6_areAlike, Cond.instanceMethod yX6_areAlike]
def wsX6_rule_r2 : List Cond := [Cond.selects RX6 yX6_areAlike yX6_areAlike, Cond.code yX6_areAlike cX6_areAlike 6 (some .boolean), Cond.methodLink RX6 102 yX6_rowsOf, Cond.instanceMethod yX6_rowsOf, Cond.selects RX6 yX6_rowsOf yX6_rowsOf, Cond.code yX6_rowsOf cX6_rowsOf 4 (some .int), Cond.fieldLink RX6 19 "YarncourtModel" "lines" "[I", Cond.fieldLink RX6 31 "YarncourtModel" "times" "[I", Cond.methodLink RX6 127 yX6_stitchOf, Cond.instanceMethod yX6_stitchOf, Cond.selects RX6 yX6_stitchOf yX6_stitchOf, Cond.code yX6_stitchOf cX6_stitchOf 4 (some .int), Cond.methodLink RX6 120 yX6_goTo, Cond.instanceMethod yX6_goTo, Cond.selects RX6 yX6_goTo yX6_goTo, Cond.code yX6_goTo cX6_goTo 6 none, Cond.fieldLink RX6 114 "YarncourtModel" "rowLine" "I", Cond.fieldLink RX6 13 "YarncourtModel" "widths" "[I", Cond.fieldLink RX6 117 "YarncourtModel" "rowWidth" "I", Cond.fieldLink RX6 28 "YarncourtModel" "shapings" "[I", Cond.methodLink RX6 124 yX6_stitchAt, Cond.instanceMethod yX6_stitchAt, Cond.selects RX6 yX6_stitchAt yX6_stitchAt, Cond.code yX6_stitchAt cX6_stitchAt 2 (some .int)]
def wsX6_rule_r3 : List Cond := [Cond.fieldLink RX6 22 "YarncourtModel" "knits" "[I", Cond.fieldLink RX6 25 "YarncourtModel" "purls" "[I", Cond.methodLink RX6 89 yX6_refused, Cond.instanceMethod yX6_refused, Cond.selects RX6 yX6_refused yX6_refused, Cond.code yX6_refused cX6_refused 2 (some .boolean), Cond.fieldLink RX6 68 "YarncourtModel" "refusal" "I", Cond.methodLink RX6 149 yX6_hasBought, Cond.instanceMethod yX6_hasBought, Cond.selects RX6 yX6_hasBought yX6_hasBought, Cond.code yX6_hasBought cX6_hasBought 3 (some .boolean), Cond.fieldLink RX6 41 "YarncourtModel" "buyers" "[I"]
def wsX6_rule : List Cond := .code yX6_rule cX6_rule 5 (some .int) :: ((wsX6_rule_r1 ++ (wsX6_rule_r2 ++ wsX6_rule_r3)) ++ wsX60)
def wsX6_money : List Cond := .code yX6_money cX6_money 2 (some .int) :: ([.fieldLink RX6 44 "YarncourtModel" "moneys" "[I", .methodLink RX6 85 yX6_isPerson, .static yX6_isPerson, .initialized RX6, .code yX6_isPerson cX6_isPerson 1 (some .boolean), .methodLink RX6 72 yX6_in, .static yX6_in, .code yX6_in cX6_in 3 (some .boolean), .methodLink RX6 89 yX6_refused, .instanceMethod yX6_refused, .selects RX6 yX6_refused yX6_refused, .code yX6_refused cX6_refused 2 (some .boolean), .fieldLink RX6 68 "YarncourtModel" "refusal" "I"] ++ wsX60)
def wsX6_lot : List Cond := .code yX6_lot cX6_lot 5 (some .int) :: ([.constant RX6 152 (100000), .fieldLink RX6 79 "YarncourtModel" "lots" "I", .fieldLink RX6 47 "YarncourtModel" "holders" "[I", .fieldLink RX6 50 "YarncourtModel" "gauges" "[I", .fieldLink RX6 53 "YarncourtModel" "yarns" "[I", .methodLink RX6 72 yX6_in, .static yX6_in, .initialized RX6, .code yX6_in cX6_in 3 (some .boolean), .methodLink RX6 85 yX6_isPerson, .static yX6_isPerson, .code yX6_isPerson cX6_isPerson 1 (some .boolean), .methodLink RX6 89 yX6_refused, .instanceMethod yX6_refused, .selects RX6 yX6_refused yX6_refused, .code yX6_refused cX6_refused 2 (some .boolean), .fieldLink RX6 68 "YarncourtModel" "refusal" "I"] ++ wsX60)
def wsX6_swap : List Cond := .code yX6_swap cX6_swap 5 (some .int) :: ([.fieldLink RX6 47 "YarncourtModel" "holders" "[I", .methodLink RX6 153 yX6_isLot, .instanceMethod yX6_isLot, .selects RX6 yX6_isLot yX6_isLot, .initialized RX6, .code yX6_isLot cX6_isLot 2 (some .boolean), .fieldLink RX6 79 "YarncourtModel" "lots" "I", .methodLink RX6 72 yX6_in, .static yX6_in, .code yX6_in cX6_in 3 (some .boolean), .methodLink RX6 89 yX6_refused, .instanceMethod yX6_refused, .selects RX6 yX6_refused yX6_refused, .code yX6_refused cX6_refused 2 (some .boolean), .fieldLink RX6 68 "YarncourtModel" "refusal" "I"] ++ wsX60)
def wsX6_left : List Cond := .code yX6_left cX6_left 2 (some .int) :: ([.fieldLink RX6 53 "YarncourtModel" "yarns" "[I", .methodLink RX6 153 yX6_isLot, .instanceMethod yX6_isLot, .selects RX6 yX6_isLot yX6_isLot, .initialized RX6, .code yX6_isLot cX6_isLot 2 (some .boolean), .fieldLink RX6 79 "YarncourtModel" "lots" "I", .methodLink RX6 72 yX6_in, .static yX6_in, .code yX6_in cX6_in 3 (some .boolean), .methodLink RX6 89 yX6_refused, .instanceMethod yX6_refused, .selects RX6 yX6_refused yX6_refused, .code yX6_refused cX6_refused 2 (some .boolean), .fieldLink RX6 68 "YarncourtModel" "refusal" "I"] ++ wsX60)
def wsX6_project_r1 : List Cond := [Cond.fieldLink RX6 7 "YarncourtModel" "owners" "[I", Cond.fieldLink RX6 47 "YarncourtModel" "holders" "[I", Cond.fieldLink RX6 82 "YarncourtModel" "projects" "I", Cond.fieldLink RX6 56 "YarncourtModel" "knitters" "[I", Cond.fieldLink RX6 59 "YarncourtModel" "projectPatterns" "[I", Cond.fieldLink RX6 62 "YarncourtModel" "projectLots" "[I", Cond.methodLink RX6 85 yX6_isPerson, Cond.static yX6_isPerson, Cond.initialized RX6, Cond.code yX6_isPerson cX6_isPerson 1 (some .boolean), Cond.methodLink RX6 72 yX6_in, Cond.static yX6_in, Cond.code yX6_in cX6_in 3 (some .boolean), Cond.methodLink RX6 96 yX6_isPattern, Cond.instanceMethod yX6_isPattern, Cond.selects RX6 yX6_isPattern yX6_isPattern, Cond.code yX6_isPattern cX6_isPattern 2 (some .boolean), Cond.fieldLink RX6 76 "YarncourtModel" "patterns" "I", Cond.methodLink RX6 153 yX6_isLot, Cond.instanceMethod yX6_isLot, Cond.selects RX6 yX6_isLot yX6_isLot, Cond.code yX6_isLot cX6_isLot 2 (some .boolean), Cond.fieldLink RX6 79 "YarncourtModel" "lots" "I", Cond.methodLink RX6 99 yX6_isPublished]
def wsX6_project_r2 : List Cond := [Cond.instanceMethod yX6_isPublished, Cond.selects RX6 yX6_isPublished yX6_isPublished, Cond.code yX6_isPublished cX6_isPublished 2 (some .boolean), Cond.fieldLink RX6 34 "YarncourtModel" "orders" "[I", Cond.methodLink RX6 149 yX6_hasBought, Cond.instanceMethod yX6_hasBought, Cond.selects RX6 yX6_hasBought yX6_hasBought, Cond.code yX6_hasBought cX6_hasBought 3 (some .boolean), Cond.fieldLink RX6 41 "YarncourtModel" "buyers" "[I", Cond.methodLink RX6 89 yX6_refused, Cond.instanceMethod yX6_refused, Cond.selects RX6 yX6_refused yX6_refused, Cond.code yX6_refused cX6_refused 2 (some .boolean), Cond.fieldLink RX6 68 "YarncourtModel" "refusal" "I"]
def wsX6_project : List Cond := .code yX6_project cX6_project 6 (some .int) :: ((wsX6_project_r1 ++ wsX6_project_r2) ++ wsX60)
def wsX6_take : List Cond := .code yX6_take cX6_take 5 (some .int) :: ([.fieldLink RX6 47 "YarncourtModel" "holders" "[I", .fieldLink RX6 56 "YarncourtModel" "knitters" "[I", .fieldLink RX6 62 "YarncourtModel" "projectLots" "[I", .methodLink RX6 156 yX6_isProject, .instanceMethod yX6_isProject, .selects RX6 yX6_isProject yX6_isProject, .initialized RX6, .code yX6_isProject cX6_isProject 2 (some .boolean), .fieldLink RX6 82 "YarncourtModel" "projects" "I", .methodLink RX6 72 yX6_in, .static yX6_in, .code yX6_in cX6_in 3 (some .boolean), .methodLink RX6 153 yX6_isLot, .instanceMethod yX6_isLot, .selects RX6 yX6_isLot yX6_isLot, .code yX6_isLot cX6_isLot 2 (some .boolean), .fieldLink RX6 79 "YarncourtModel" "lots" "I", .methodLink RX6 89 yX6_refused, .instanceMethod yX6_refused, .selects RX6 yX6_refused yX6_refused, .code yX6_refused cX6_refused 2 (some .boolean), .fieldLink RX6 68 "YarncourtModel" "refusal" "I"] ++ wsX60)
def wsX6_knitsRow_r1 : List Cond := [Cond.fieldLink RX6 59 "YarncourtModel" "projectPatterns" "[I", Cond.fieldLink RX6 62 "YarncourtModel" "projectLots" "[I", Cond.fieldLink RX6 47 "YarncourtModel" "holders" "[I", Cond.fieldLink RX6 56 "YarncourtModel" "knitters" "[I", Cond.fieldLink RX6 65 "YarncourtModel" "done" "[I", Cond.fieldLink RX6 50 "YarncourtModel" "gauges" "[I", Cond.fieldLink RX6 53 "YarncourtModel" "yarns" "[I", Cond.methodLink RX6 102 yX6_rowsOf, Cond.instanceMethod yX6_rowsOf, Cond.selects RX6 yX6_rowsOf yX6_rowsOf, Cond.initialized RX6, Cond.code yX6_rowsOf cX6_rowsOf 4 (some .int), Cond.fieldLink RX6 19 "YarncourtModel" "lines" "[I", Cond.fieldLink RX6 31 "YarncourtModel" "times" "[I", Cond.methodLink RX6 146 yX6_rowNeed, Cond.instanceMethod yX6_rowNeed, Cond.selects RX6 yX6_rowNeed yX6_rowNeed, Cond.code yX6_rowNeed cX6_rowNeed 6 (some .int), Cond.fieldLink RX6 117 "YarncourtModel" "rowWidth" "I", Cond.methodLink RX6 120 yX6_goTo, Cond.instanceMethod yX6_goTo, Cond.selects RX6 yX6_goTo yX6_goTo, Cond.code yX6_goTo cX6_goTo 6 none, Cond.fieldLink RX6 114 "YarncourtModel" "rowLine" "I"]
def wsX6_knitsRow_r2 : List Cond := [Cond.fieldLink RX6 13 "YarncourtModel" "widths" "[I", Cond.fieldLink RX6 28 "YarncourtModel" "shapings" "[I", Cond.methodLink RX6 124 yX6_stitchAt, Cond.instanceMethod yX6_stitchAt, Cond.selects RX6 yX6_stitchAt yX6_stitchAt, Cond.code yX6_stitchAt cX6_stitchAt 2 (some .int), Cond.fieldLink RX6 22 "YarncourtModel" "knits" "[I", Cond.fieldLink RX6 25 "YarncourtModel" "purls" "[I"]
def wsX6_knitsRow : List Cond := .code yX6_knitsRow cX6_knitsRow 6 (some .boolean) :: ((wsX6_knitsRow_r1 ++ wsX6_knitsRow_r2) ++ wsX60)
def wsX6_knit_r1 : List Cond := [Cond.methodLink RX6 156 yX6_isProject, Cond.instanceMethod yX6_isProject, Cond.selects RX6 yX6_isProject yX6_isProject, Cond.initialized RX6, Cond.code yX6_isProject cX6_isProject 2 (some .boolean), Cond.fieldLink RX6 82 "YarncourtModel" "projects" "I", Cond.methodLink RX6 72 yX6_in, Cond.static yX6_in, Cond.code yX6_in cX6_in 3 (some .boolean), Cond.methodLink RX6 89 yX6_refused, Cond.instanceMethod yX6_refused, Cond.selects RX6 yX6_refused yX6_refused, Cond.code yX6_refused cX6_refused 2 (some .boolean), Cond.fieldLink RX6 68 "YarncourtModel" "refusal" "I", Cond.methodLink RX6 159 yX6_knitsRow, Cond.instanceMethod yX6_knitsRow, Cond.selects RX6 yX6_knitsRow yX6_knitsRow, Cond.code yX6_knitsRow cX6_knitsRow 6 (some .boolean), Cond.fieldLink RX6 59 "YarncourtModel" "projectPatterns" "[I", Cond.fieldLink RX6 62 "YarncourtModel" "projectLots" "[I", Cond.fieldLink RX6 47 "YarncourtModel" "holders" "[I", Cond.fieldLink RX6 56 "YarncourtModel" "knitters" "[I", Cond.fieldLink RX6 65 "YarncourtModel" "done" "[I", Cond.fieldLink RX6 50 "YarncourtModel" "gauges" "[I"]
def wsX6_knit_r2 : List Cond := [Cond.fieldLink RX6 53 "YarncourtModel" "yarns" "[I", Cond.methodLink RX6 102 yX6_rowsOf, Cond.instanceMethod yX6_rowsOf, Cond.selects RX6 yX6_rowsOf yX6_rowsOf, Cond.code yX6_rowsOf cX6_rowsOf 4 (some .int), Cond.fieldLink RX6 19 "YarncourtModel" "lines" "[I", Cond.fieldLink RX6 31 "YarncourtModel" "times" "[I", Cond.methodLink RX6 146 yX6_rowNeed, Cond.instanceMethod yX6_rowNeed, Cond.selects RX6 yX6_rowNeed yX6_rowNeed, Cond.code yX6_rowNeed cX6_rowNeed 6 (some .int), Cond.fieldLink RX6 117 "YarncourtModel" "rowWidth" "I", Cond.methodLink RX6 120 yX6_goTo, Cond.instanceMethod yX6_goTo, Cond.selects RX6 yX6_goTo yX6_goTo, Cond.code yX6_goTo cX6_goTo 6 none, Cond.fieldLink RX6 114 "YarncourtModel" "rowLine" "I", Cond.fieldLink RX6 13 "YarncourtModel" "widths" "[I", Cond.fieldLink RX6 28 "YarncourtModel" "shapings" "[I", Cond.methodLink RX6 124 yX6_stitchAt, Cond.instanceMethod yX6_stitchAt, Cond.selects RX6 yX6_stitchAt yX6_stitchAt, Cond.code yX6_stitchAt cX6_stitchAt 2 (some .int), Cond.fieldLink RX6 22 "YarncourtModel" "knits" "[I"]
def wsX6_knit_r3 : List Cond := [Cond.fieldLink RX6 25 "YarncourtModel" "purls" "[I"]
def wsX6_knit : List Cond := .code yX6_knit cX6_knit 4 (some .int) :: ((wsX6_knit_r1 ++ (wsX6_knit_r2 ++ wsX6_knit_r3)) ++ wsX60)
def wsX6_progress : List Cond := .code yX6_progress cX6_progress 2 (some .int) :: ([.fieldLink RX6 65 "YarncourtModel" "done" "[I", .methodLink RX6 156 yX6_isProject, .instanceMethod yX6_isProject, .selects RX6 yX6_isProject yX6_isProject, .initialized RX6, .code yX6_isProject cX6_isProject 2 (some .boolean), .fieldLink RX6 82 "YarncourtModel" "projects" "I", .methodLink RX6 72 yX6_in, .static yX6_in, .code yX6_in cX6_in 3 (some .boolean), .methodLink RX6 89 yX6_refused, .instanceMethod yX6_refused, .selects RX6 yX6_refused yX6_refused, .code yX6_refused cX6_refused 2 (some .boolean), .fieldLink RX6 68 "YarncourtModel" "refusal" "I"] ++ wsX60)
def wsJ9_max_7cf53 : List Cond := .code yJ9_max_7cf53 cJ9_max_7cf53 2 (some .int) :: ([])
def wsJ9_min_7cf53 : List Cond := .code yJ9_min_7cf53 cJ9_min_7cf53 2 (some .int) :: ([])
def wsL_begin_r1 : List Cond := [Cond.classLink RL 13 "java/lang/IndexOutOfBoundsException", Cond.classLink RL 15 "java/lang/IllegalArgumentException", Cond.classLink RL 17 "java/lang/IllegalStateException", Cond.methodLink RL 7 yX5_begin, Cond.instanceMethod yX5_begin, Cond.selects RX5 yX5_begin yX5_begin, Cond.initialized RX5, Cond.code yX5_begin cX5_begin 4 (some .int), Cond.fieldLink RX5 44 "Yarncourt$Pattern" "number" "I", Cond.methodLink RX5 29 yX5_checkPerson, Cond.static yX5_checkPerson, Cond.code yX5_checkPerson cX5_checkPerson 1 none, Cond.classLink RX5 219 "java/lang/IndexOutOfBoundsException", Cond.initialized "java/lang/IndexOutOfBoundsException", Cond.methodLink RX5 33 yX5_checkRange, Cond.static yX5_checkRange, Cond.code yX5_checkRange cX5_checkRange 3 none, Cond.classLink RX5 54 "java/lang/IllegalArgumentException", Cond.initialized "java/lang/IllegalArgumentException", Cond.methodLink RX5 37 yX5_checkRoomForPattern, Cond.instanceMethod yX5_checkRoomForPattern, Cond.selects RX5 yX5_checkRoomForPattern yX5_checkRoomForPattern, Cond.code yX5_checkRoomForPattern cX5_checkRoomForPattern 1 none, Cond.classLink RX5 69 "java/lang/IllegalStateException"]
def wsL_begin_r2 : List Cond := [Cond.initialized "java/lang/IllegalStateException", Cond.fieldLink RX5 10 "Yarncourt" "patterns" "Ljava/util/ArrayList;", Cond.methodLink RX5 173 yJx4a65c_size_8abf5, Cond.instanceMethod yJx4a65c_size_8abf5, Cond.selects RJx4a65c yJx4a65c_size_8abf5 yJx4a65c_size_8abf5, Cond.initialized RJx4a65c, Cond.code yJx4a65c_size_8abf5 cJx4a65c_size_8abf5 1 (some .int), Cond.fieldLink RJx4a65c 48 "java/util/ArrayList" "size" "I", Cond.methodLink RX5 40 yX5_addPattern, Cond.instanceMethod yX5_addPattern, Cond.selects RX5 yX5_addPattern yX5_addPattern, Cond.code yX5_addPattern cX5_addPattern 5 (some (.object "Yarncourt$Pattern")), Cond.classLink RX5 45 RX2, Cond.instantiable RX2 9, Cond.initialized RX2, Cond.methodLink RX5 234 yX2_init, Cond.instanceMethod yX2_init, Cond.code yX2_init cX2_init 5 none, Cond.methodLink RX2 3 objectInit, Cond.instanceMethod objectInit, Cond.code objectInit ⟨#[0xb1]⟩ 1 none, Cond.arrayClass .boolean, Cond.fieldLink RX2 9 "Yarncourt$Pattern" "boughtBy" "[Z", Cond.fieldLink RX2 15 "Yarncourt$Pattern" "original" "LYarncourt$Pattern;"]
def wsL_begin_r3 : List Cond := [Cond.fieldLink RX2 19 "Yarncourt$Pattern" "takings" "I", Cond.fieldLink RX2 23 "Yarncourt$Pattern" "barred" "Z", Cond.fieldLink RX2 27 "Yarncourt$Pattern" "number" "I", Cond.fieldLink RX2 30 "Yarncourt$Pattern" "owner" "I", Cond.fieldLink RX2 33 "Yarncourt$Pattern" "price" "I", Cond.classLink RX2 36 RX3, Cond.instantiable RX3 6, Cond.initialized RX3, Cond.fieldLink RX2 41 "Yarncourt$Pattern" "program" "LYarncourt$Program;", Cond.classLink RX2 45 RX0, Cond.instantiable RX0 4, Cond.initialized RX0, Cond.fieldLink RX2 48 "Yarncourt$Pattern" "chart" "LYarncourt$Chart;", Cond.methodLink RX2 38 yX3_init, Cond.instanceMethod yX3_init, Cond.code yX3_init cX3_init 2 none, Cond.methodLink RX3 3 objectInit, Cond.arrayClass .int, Cond.fieldLink RX3 9 "Yarncourt$Program" "knits" "[I", Cond.fieldLink RX3 15 "Yarncourt$Program" "purls" "[I", Cond.fieldLink RX3 18 "Yarncourt$Program" "shaping" "[I", Cond.fieldLink RX3 21 "Yarncourt$Program" "times" "[I", Cond.fieldLink RX3 24 "Yarncourt$Program" "lineCount" "I", Cond.fieldLink RX3 28 "Yarncourt$Program" "firstWidth" "I"]
def wsL_begin_r4 : List Cond := [Cond.methodLink RX2 47 yX0_init, Cond.instanceMethod yX0_init, Cond.code yX0_init cX0_init 2 none, Cond.methodLink RX0 3 objectInit, Cond.fieldLink RX0 9 "Yarncourt$Chart" "rowCount" "I", Cond.fieldLink RX0 15 "Yarncourt$Chart" "stitches" "[I", Cond.fieldLink RX0 19 "Yarncourt$Chart" "yarnOfRow" "[I", Cond.fieldLink RX0 22 "Yarncourt$Chart" "nextWidth" "I", Cond.methodLink RX5 136 yJx4a65c_add_9ea2d, Cond.instanceMethod yJx4a65c_add_9ea2d, Cond.selects RJx4a65c yJx4a65c_add_9ea2d yJx4a65c_add_9ea2d, Cond.code yJx4a65c_add_9ea2d cJx4a65c_add_9ea2d 2 (some .boolean), Cond.fieldLink RJx4a65c 63 "java/util/ArrayList" "modCount" "I", Cond.sameField "java/util/ArrayList" "java/util/AbstractList" "modCount" "I", Cond.fieldLink RJx4a65c 9 "java/util/ArrayList" "elementData" "[Ljava/lang/Object;", Cond.methodLink RJx4a65c 131 yJx4a65c_add_72be8, Cond.instanceMethod yJx4a65c_add_72be8, Cond.selects RJx4a65c yJx4a65c_add_72be8 yJx4a65c_add_72be8, Cond.code yJx4a65c_add_72be8 cJx4a65c_add_72be8 4 none, Cond.methodLink RJx4a65c 129 yJx4a65c_grow_d5877, Cond.instanceMethod yJx4a65c_grow_d5877, Cond.selects RJx4a65c yJx4a65c_grow_d5877 yJx4a65c_grow_d5877, Cond.code yJx4a65c_grow_d5877 cJx4a65c_grow_d5877 1 (some (.array (.object "java/lang/Object"))), Cond.methodLink RJx4a65c 69 yJx4a65c_grow_92f84]
def wsL_begin_r5 : List Cond := [Cond.instanceMethod yJx4a65c_grow_92f84, Cond.selects RJx4a65c yJx4a65c_grow_92f84 yJx4a65c_grow_92f84, Cond.code yJx4a65c_grow_92f84 cJx4a65c_grow_92f84 4 (some (.array (.object "java/lang/Object"))), Cond.fieldLink RJx4a65c 39 "java/util/ArrayList" "DEFAULTCAPACITY_EMPTY_ELEMENTDATA" "[Ljava/lang/Object;", Cond.methodLink RJx4a65c 79 Lib.Math.max.name, Cond.static Lib.Math.max.name, Cond.initialized "java/lang/Math", Cond.code Lib.Math.max.name Lib.Math.max.code 2 (some .int), Cond.classLink RJx4a65c 7 "java/lang/Object", Cond.methodLink RJx4a65c 73 yJ8_newLength_cabcc, Cond.static yJ8_newLength_cabcc, Cond.initialized RJ8, Cond.code yJ8_newLength_cabcc cJ8_newLength_cabcc 4 (some .int), Cond.methodLink RJ8 194 Lib.Math.max.name, Cond.constant RJ8 200 (2147483639), Cond.methodLink RJ8 201 yJ8_hugeLength_7cf53, Cond.static yJ8_hugeLength_7cf53, Cond.code yJ8_hugeLength_7cf53 cJ8_hugeLength_7cf53 3 (some .int), Cond.methodLink RJx4a65c 66 yJ7_copyOf_1904c, Cond.static yJ7_copyOf_1904c, Cond.initialized RJ7, Cond.code yJ7_copyOf_1904c cJ7_copyOf_1904c 2 (some (.array (.object "java/lang/Object"))), Cond.methodLink RJ7 86 ⟨"java/lang/Object", "getClass", "()Ljava/lang/Class;"⟩, Cond.selects "[Ljava/lang/Object;" ⟨"java/lang/Object", "getClass", "()Ljava/lang/Class;"⟩ ⟨"java/lang/Object", "getClass", "()Ljava/lang/Class;"⟩]
def wsL_begin_r6 : List Cond := [Cond.instanceMethod ⟨"java/lang/Object", "getClass", "()Ljava/lang/Class;"⟩, Cond.native ⟨"java/lang/Object", "getClass", "()Ljava/lang/Class;"⟩, Cond.methodLink RJ7 300 yJ7_copyOf_6403c, Cond.static yJ7_copyOf_6403c, Cond.code yJ7_copyOf_6403c cJ7_copyOf_6403c 4 (some (.array (.object "java/lang/Object"))), Cond.classLink RJ7 110 "[Ljava/lang/Object;", Cond.classLink RJ7 2 "java/lang/Object", Cond.methodLink RJ7 304 Lib.Math.min.name, Cond.static Lib.Math.min.name, Cond.code Lib.Math.min.name Lib.Math.min.code 2 (some .int), Cond.methodLink RJ7 150 arraycopyName, Cond.native arraycopyName, Cond.static arraycopyName, Cond.initialized "java/lang/System"]
def wsL_begin : List Cond := .codeWith yL_begin cL_begin 6 (some .int) [(0, 12, 15, 13), (0, 12, 19, 15), (0, 12, 23, 17)] :: ((wsL_begin_r1 ++ (wsL_begin_r2 ++ (wsL_begin_r3 ++ (wsL_begin_r4 ++ (wsL_begin_r5 ++ wsL_begin_r6))))) ++ wsX20 ++ wsX50 ++ wsJx4a65c0 ++ wsX30 ++ wsX00 ++ (vx_atS RX5 223 "java/lang/IndexOutOfBoundsException" ["java/lang/RuntimeException", "java/lang/Exception"]).filter goodWord ++ (vx_atS RX5 58 "java/lang/IllegalArgumentException" ["java/lang/RuntimeException", "java/lang/Exception"]).filter goodWord ++ (vx_atS RX5 73 "java/lang/IllegalStateException" ["java/lang/RuntimeException", "java/lang/Exception"]).filter goodWord)
def wsL_line_r1 : List Cond := [Cond.classLink RL 13 "java/lang/IndexOutOfBoundsException", Cond.classLink RL 15 "java/lang/IllegalArgumentException", Cond.classLink RL 17 "java/lang/IllegalStateException", Cond.methodLink RL 19 yX5_line, Cond.instanceMethod yX5_line, Cond.selects RX5 yX5_line yX5_line, Cond.initialized RX5, Cond.code yX5_line cX5_line 7 (some .int), Cond.classLink RX5 54 "java/lang/IllegalArgumentException", Cond.initialized "java/lang/IllegalArgumentException", Cond.classLink RX5 69 "java/lang/IllegalStateException", Cond.initialized "java/lang/IllegalStateException", Cond.fieldLink RX5 78 "Yarncourt$Pattern" "chart" "LYarncourt$Chart;", Cond.fieldLink RX5 82 "Yarncourt$Chart" "rowCount" "I", Cond.methodLink RX5 50 yX5_patternAt, Cond.instanceMethod yX5_patternAt, Cond.selects RX5 yX5_patternAt yX5_patternAt, Cond.code yX5_patternAt cX5_patternAt 2 (some (.object "Yarncourt$Pattern")), Cond.classLink RX5 219 "java/lang/IndexOutOfBoundsException", Cond.initialized "java/lang/IndexOutOfBoundsException", Cond.fieldLink RX5 10 "Yarncourt" "patterns" "Ljava/util/ArrayList;", Cond.classLink RX5 45 "Yarncourt$Pattern", Cond.methodLink RX5 173 yJx4a65c_size_8abf5, Cond.instanceMethod yJx4a65c_size_8abf5]
def wsL_line_r2 : List Cond := [Cond.selects RJx4a65c yJx4a65c_size_8abf5 yJx4a65c_size_8abf5, Cond.initialized RJx4a65c, Cond.code yJx4a65c_size_8abf5 cJx4a65c_size_8abf5 1 (some .int), Cond.fieldLink RJx4a65c 48 "java/util/ArrayList" "size" "I", Cond.methodLink RX5 224 yJx4a65c_get_915e3, Cond.instanceMethod yJx4a65c_get_915e3, Cond.selects RJx4a65c yJx4a65c_get_915e3 yJx4a65c_get_915e3, Cond.code yJx4a65c_get_915e3 cJx4a65c_get_915e3 2 (some (.object "java/lang/Object")), Cond.methodLink RJx4a65c 118 yJ15_checkIndex_7cf53, Cond.static yJ15_checkIndex_7cf53, Cond.initialized RJ15, Cond.code yJ15_checkIndex_7cf53 cJ15_checkIndex_7cf53 2 (some .int), Cond.methodLink RJ15 105 yJ3_checkIndex_8e157, Cond.static yJ3_checkIndex_8e157, Cond.initialized RJ3, Cond.code yJ3_checkIndex_8e157 cJ3_checkIndex_8e157 3 (some .int), Cond.methodLink RJx4a65c 123 yJx4a65c_elementData_915e3, Cond.instanceMethod yJx4a65c_elementData_915e3, Cond.selects RJx4a65c yJx4a65c_elementData_915e3 yJx4a65c_elementData_915e3, Cond.code yJx4a65c_elementData_915e3 cJx4a65c_elementData_915e3 2 (some (.object "java/lang/Object")), Cond.fieldLink RJx4a65c 9 "java/util/ArrayList" "elementData" "[Ljava/lang/Object;", Cond.methodLink RX5 33 yX5_checkRange, Cond.static yX5_checkRange, Cond.code yX5_checkRange cX5_checkRange 3 none]
def wsL_line_r3 : List Cond := [Cond.methodLink RX5 61 yX2_isPublished, Cond.instanceMethod yX2_isPublished, Cond.selects RX2 yX2_isPublished yX2_isPublished, Cond.initialized RX2, Cond.code yX2_isPublished cX2_isPublished 1 (some .boolean), Cond.fieldLink RX2 15 "Yarncourt$Pattern" "original" "LYarncourt$Pattern;", Cond.methodLink RX5 65 yX2_takesLine, Cond.instanceMethod yX2_takesLine, Cond.selects RX2 yX2_takesLine yX2_takesLine, Cond.code yX2_takesLine cX2_takesLine 2 (some .boolean), Cond.fieldLink RX2 41 "Yarncourt$Pattern" "program" "LYarncourt$Program;", Cond.fieldLink RX2 48 "Yarncourt$Pattern" "chart" "LYarncourt$Chart;", Cond.fieldLink RX2 55 "Yarncourt$Chart" "rowCount" "I", Cond.methodLink RX5 74 yX2_addLine, Cond.instanceMethod yX2_addLine, Cond.selects RX2 yX2_addLine yX2_addLine, Cond.code yX2_addLine cX2_addLine 5 none, Cond.methodLink RX2 58 yX3_append, Cond.instanceMethod yX3_append, Cond.selects RX3 yX3_append yX3_append, Cond.initialized RX3, Cond.code yX3_append cX3_append 5 none, Cond.fieldLink RX3 24 "Yarncourt$Program" "lineCount" "I", Cond.fieldLink RX3 9 "Yarncourt$Program" "knits" "[I"]
def wsL_line_r4 : List Cond := [Cond.fieldLink RX3 15 "Yarncourt$Program" "purls" "[I", Cond.fieldLink RX3 18 "Yarncourt$Program" "shaping" "[I", Cond.fieldLink RX3 21 "Yarncourt$Program" "times" "[I", Cond.methodLink RX2 62 yX0_drawLine, Cond.instanceMethod yX0_drawLine, Cond.selects RX0 yX0_drawLine yX0_drawLine, Cond.initialized RX0, Cond.code yX0_drawLine cX0_drawLine 6 none, Cond.fieldLink RX0 9 "Yarncourt$Chart" "rowCount" "I", Cond.fieldLink RX0 19 "Yarncourt$Chart" "yarnOfRow" "[I", Cond.fieldLink RX0 22 "Yarncourt$Chart" "nextWidth" "I", Cond.methodLink RX0 25 yX0_drawRow, Cond.instanceMethod yX0_drawRow, Cond.selects RX0 yX0_drawRow yX0_drawRow, Cond.code yX0_drawRow cX0_drawRow 8 (some .int), Cond.fieldLink RX0 15 "Yarncourt$Chart" "stitches" "[I", Cond.static yX5_widthAfter, Cond.code yX5_widthAfter cX5_widthAfter 2 (some .int), Cond.methodLink RX5 112 yX5_within, Cond.static yX5_within, Cond.code yX5_within cX5_within 3 (some .int), Cond.methodLink RX5 245 Lib.Math.max.name, Cond.static Lib.Math.max.name, Cond.initialized "java/lang/Math"]
def wsL_line_r5 : List Cond := [Cond.code Lib.Math.max.name Lib.Math.max.code 2 (some .int), Cond.methodLink RX5 250 Lib.Math.min.name, Cond.static Lib.Math.min.name, Cond.code Lib.Math.min.name Lib.Math.min.code 2 (some .int)]
def wsL_line : List Cond := .codeWith yL_line cL_line 8 (some .int) [(0, 16, 19, 13), (0, 16, 23, 15), (0, 16, 27, 17)] :: ((wsL_line_r1 ++ (wsL_line_r2 ++ (wsL_line_r3 ++ (wsL_line_r4 ++ wsL_line_r5)))) ++ wsX20 ++ wsX00 ++ wsX50 ++ wsJx4a65c0 ++ wsX30 ++ (vx_atS RX5 58 "java/lang/IllegalArgumentException" ["java/lang/RuntimeException", "java/lang/Exception"]).filter goodWord ++ (vx_atS RX5 73 "java/lang/IllegalStateException" ["java/lang/RuntimeException", "java/lang/Exception"]).filter goodWord ++ (vx_atS RX5 223 "java/lang/IndexOutOfBoundsException" ["java/lang/RuntimeException", "java/lang/Exception"]).filter goodWord)
def wsL_anew_r1 : List Cond := [Cond.classLink RL 13 "java/lang/IndexOutOfBoundsException", Cond.classLink RL 15 "java/lang/IllegalArgumentException", Cond.classLink RL 17 "java/lang/IllegalStateException", Cond.methodLink RL 23 yX5_anew, Cond.instanceMethod yX5_anew, Cond.selects RX5 yX5_anew yX5_anew, Cond.initialized RX5, Cond.code yX5_anew cX5_anew 6 (some .int), Cond.classLink RX5 69 "java/lang/IllegalStateException", Cond.initialized "java/lang/IllegalStateException", Cond.fieldLink RX5 93 "Yarncourt$Pattern" "program" "LYarncourt$Program;", Cond.fieldLink RX5 105 "Yarncourt$Program" "firstWidth" "I", Cond.fieldLink RX5 116 "Yarncourt$Pattern" "owner" "I", Cond.fieldLink RX5 119 "Yarncourt$Pattern" "price" "I", Cond.fieldLink RX5 44 "Yarncourt$Pattern" "number" "I", Cond.methodLink RX5 50 yX5_patternAt, Cond.instanceMethod yX5_patternAt, Cond.selects RX5 yX5_patternAt yX5_patternAt, Cond.code yX5_patternAt cX5_patternAt 2 (some (.object "Yarncourt$Pattern")), Cond.classLink RX5 219 "java/lang/IndexOutOfBoundsException", Cond.initialized "java/lang/IndexOutOfBoundsException", Cond.fieldLink RX5 10 "Yarncourt" "patterns" "Ljava/util/ArrayList;", Cond.classLink RX5 45 "Yarncourt$Pattern", Cond.methodLink RX5 173 yJx4a65c_size_8abf5]
def wsL_anew_r2 : List Cond := [Cond.instanceMethod yJx4a65c_size_8abf5, Cond.selects RJx4a65c yJx4a65c_size_8abf5 yJx4a65c_size_8abf5, Cond.initialized RJx4a65c, Cond.code yJx4a65c_size_8abf5 cJx4a65c_size_8abf5 1 (some .int), Cond.fieldLink RJx4a65c 48 "java/util/ArrayList" "size" "I", Cond.methodLink RX5 224 yJx4a65c_get_915e3, Cond.instanceMethod yJx4a65c_get_915e3, Cond.selects RJx4a65c yJx4a65c_get_915e3 yJx4a65c_get_915e3, Cond.code yJx4a65c_get_915e3 cJx4a65c_get_915e3 2 (some (.object "java/lang/Object")), Cond.methodLink RJx4a65c 118 yJ15_checkIndex_7cf53, Cond.static yJ15_checkIndex_7cf53, Cond.initialized RJ15, Cond.code yJ15_checkIndex_7cf53 cJ15_checkIndex_7cf53 2 (some .int), Cond.methodLink RJ15 105 yJ3_checkIndex_8e157, Cond.static yJ3_checkIndex_8e157, Cond.initialized RJ3, Cond.code yJ3_checkIndex_8e157 cJ3_checkIndex_8e157 3 (some .int), Cond.methodLink RJx4a65c 123 yJx4a65c_elementData_915e3, Cond.instanceMethod yJx4a65c_elementData_915e3, Cond.selects RJx4a65c yJx4a65c_elementData_915e3 yJx4a65c_elementData_915e3, Cond.code yJx4a65c_elementData_915e3 cJx4a65c_elementData_915e3 2 (some (.object "java/lang/Object")), Cond.fieldLink RJx4a65c 9 "java/util/ArrayList" "elementData" "[Ljava/lang/Object;", Cond.methodLink RX5 87 yX5_checkGauge, Cond.static yX5_checkGauge]
def wsL_anew_r3 : List Cond := [Cond.code yX5_checkGauge cX5_checkGauge 1 none, Cond.methodLink RX5 33 yX5_checkRange, Cond.static yX5_checkRange, Cond.code yX5_checkRange cX5_checkRange 3 none, Cond.classLink RX5 54 "java/lang/IllegalArgumentException", Cond.initialized "java/lang/IllegalArgumentException", Cond.methodLink RX5 90 yX2_hasNoLines, Cond.instanceMethod yX2_hasNoLines, Cond.selects RX2 yX2_hasNoLines yX2_hasNoLines, Cond.initialized RX2, Cond.code yX2_hasNoLines cX2_hasNoLines 1 (some .boolean), Cond.fieldLink RX2 41 "Yarncourt$Pattern" "program" "LYarncourt$Program;", Cond.methodLink RX5 97 yX3_rowsFor, Cond.instanceMethod yX3_rowsFor, Cond.selects RX3 yX3_rowsFor yX3_rowsFor, Cond.initialized RX3, Cond.code yX3_rowsFor cX3_rowsFor 4 (some .int), Cond.fieldLink RX3 24 "Yarncourt$Program" "lineCount" "I", Cond.methodLink RX3 40 yX3_timesFor, Cond.instanceMethod yX3_timesFor, Cond.selects RX3 yX3_timesFor yX3_timesFor, Cond.code yX3_timesFor cX3_timesFor 3 (some .int), Cond.fieldLink RX3 21 "Yarncourt$Program" "times" "[I", Cond.methodLink RX3 35 Lib.Math.max.name]
def wsL_anew_r4 : List Cond := [Cond.static Lib.Math.max.name, Cond.initialized "java/lang/Math", Cond.code Lib.Math.max.name Lib.Math.max.code 2 (some .int), Cond.static yX5_forGauge, Cond.code yX5_forGauge cX5_forGauge 2 (some .int), Cond.methodLink RX5 37 yX5_checkRoomForPattern, Cond.instanceMethod yX5_checkRoomForPattern, Cond.selects RX5 yX5_checkRoomForPattern yX5_checkRoomForPattern, Cond.code yX5_checkRoomForPattern cX5_checkRoomForPattern 1 none, Cond.methodLink RX5 108 yX5_forGauge, Cond.methodLink RX5 112 yX5_within, Cond.static yX5_within, Cond.code yX5_within cX5_within 3 (some .int), Cond.methodLink RX5 245 Lib.Math.max.name, Cond.methodLink RX5 250 Lib.Math.min.name, Cond.static Lib.Math.min.name, Cond.code Lib.Math.min.name Lib.Math.min.code 2 (some .int), Cond.methodLink RX5 40 yX5_addPattern, Cond.instanceMethod yX5_addPattern, Cond.selects RX5 yX5_addPattern yX5_addPattern, Cond.code yX5_addPattern cX5_addPattern 5 (some (.object "Yarncourt$Pattern")), Cond.classLink RX5 45 RX2, Cond.instantiable RX2 9, Cond.methodLink RX5 234 yX2_init]
def wsL_anew_r5 : List Cond := [Cond.instanceMethod yX2_init, Cond.code yX2_init cX2_init 5 none, Cond.methodLink RX2 3 objectInit, Cond.instanceMethod objectInit, Cond.code objectInit ⟨#[0xb1]⟩ 1 none, Cond.arrayClass .boolean, Cond.fieldLink RX2 9 "Yarncourt$Pattern" "boughtBy" "[Z", Cond.fieldLink RX2 15 "Yarncourt$Pattern" "original" "LYarncourt$Pattern;", Cond.fieldLink RX2 19 "Yarncourt$Pattern" "takings" "I", Cond.fieldLink RX2 23 "Yarncourt$Pattern" "barred" "Z", Cond.fieldLink RX2 27 "Yarncourt$Pattern" "number" "I", Cond.fieldLink RX2 30 "Yarncourt$Pattern" "owner" "I", Cond.fieldLink RX2 33 "Yarncourt$Pattern" "price" "I", Cond.classLink RX2 36 RX3, Cond.instantiable RX3 6, Cond.classLink RX2 45 RX0, Cond.instantiable RX0 4, Cond.initialized RX0, Cond.fieldLink RX2 48 "Yarncourt$Pattern" "chart" "LYarncourt$Chart;", Cond.methodLink RX2 38 yX3_init, Cond.instanceMethod yX3_init, Cond.code yX3_init cX3_init 2 none, Cond.methodLink RX3 3 objectInit, Cond.arrayClass .int]
def wsL_anew_r6 : List Cond := [Cond.fieldLink RX3 9 "Yarncourt$Program" "knits" "[I", Cond.fieldLink RX3 15 "Yarncourt$Program" "purls" "[I", Cond.fieldLink RX3 18 "Yarncourt$Program" "shaping" "[I", Cond.fieldLink RX3 28 "Yarncourt$Program" "firstWidth" "I", Cond.methodLink RX2 47 yX0_init, Cond.instanceMethod yX0_init, Cond.code yX0_init cX0_init 2 none, Cond.methodLink RX0 3 objectInit, Cond.fieldLink RX0 9 "Yarncourt$Chart" "rowCount" "I", Cond.fieldLink RX0 15 "Yarncourt$Chart" "stitches" "[I", Cond.fieldLink RX0 19 "Yarncourt$Chart" "yarnOfRow" "[I", Cond.fieldLink RX0 22 "Yarncourt$Chart" "nextWidth" "I", Cond.methodLink RX5 136 yJx4a65c_add_9ea2d, Cond.instanceMethod yJx4a65c_add_9ea2d, Cond.selects RJx4a65c yJx4a65c_add_9ea2d yJx4a65c_add_9ea2d, Cond.code yJx4a65c_add_9ea2d cJx4a65c_add_9ea2d 2 (some .boolean), Cond.fieldLink RJx4a65c 63 "java/util/ArrayList" "modCount" "I", Cond.sameField "java/util/ArrayList" "java/util/AbstractList" "modCount" "I", Cond.methodLink RJx4a65c 131 yJx4a65c_add_72be8, Cond.instanceMethod yJx4a65c_add_72be8, Cond.selects RJx4a65c yJx4a65c_add_72be8 yJx4a65c_add_72be8, Cond.code yJx4a65c_add_72be8 cJx4a65c_add_72be8 4 none, Cond.methodLink RJx4a65c 129 yJx4a65c_grow_d5877, Cond.instanceMethod yJx4a65c_grow_d5877]
def wsL_anew_r7 : List Cond := [Cond.selects RJx4a65c yJx4a65c_grow_d5877 yJx4a65c_grow_d5877, Cond.code yJx4a65c_grow_d5877 cJx4a65c_grow_d5877 1 (some (.array (.object "java/lang/Object"))), Cond.methodLink RJx4a65c 69 yJx4a65c_grow_92f84, Cond.instanceMethod yJx4a65c_grow_92f84, Cond.selects RJx4a65c yJx4a65c_grow_92f84 yJx4a65c_grow_92f84, Cond.code yJx4a65c_grow_92f84 cJx4a65c_grow_92f84 4 (some (.array (.object "java/lang/Object"))), Cond.fieldLink RJx4a65c 39 "java/util/ArrayList" "DEFAULTCAPACITY_EMPTY_ELEMENTDATA" "[Ljava/lang/Object;", Cond.methodLink RJx4a65c 79 Lib.Math.max.name, Cond.classLink RJx4a65c 7 "java/lang/Object", Cond.methodLink RJx4a65c 73 yJ8_newLength_cabcc, Cond.static yJ8_newLength_cabcc, Cond.initialized RJ8, Cond.code yJ8_newLength_cabcc cJ8_newLength_cabcc 4 (some .int), Cond.methodLink RJ8 194 Lib.Math.max.name, Cond.constant RJ8 200 (2147483639), Cond.methodLink RJ8 201 yJ8_hugeLength_7cf53, Cond.static yJ8_hugeLength_7cf53, Cond.code yJ8_hugeLength_7cf53 cJ8_hugeLength_7cf53 3 (some .int), Cond.methodLink RJx4a65c 66 yJ7_copyOf_1904c, Cond.static yJ7_copyOf_1904c, Cond.initialized RJ7, Cond.code yJ7_copyOf_1904c cJ7_copyOf_1904c 2 (some (.array (.object "java/lang/Object"))), Cond.methodLink RJ7 86 ⟨"java/lang/Object", "getClass", "()Ljava/lang/Class;"⟩, Cond.selects "[Ljava/lang/Object;" ⟨"java/lang/Object", "getClass", "()Ljava/lang/Class;"⟩ ⟨"java/lang/Object", "getClass", "()Ljava/lang/Class;"⟩]
def wsL_anew_r8 : List Cond := [Cond.instanceMethod ⟨"java/lang/Object", "getClass", "()Ljava/lang/Class;"⟩, Cond.native ⟨"java/lang/Object", "getClass", "()Ljava/lang/Class;"⟩, Cond.methodLink RJ7 300 yJ7_copyOf_6403c, Cond.static yJ7_copyOf_6403c, Cond.code yJ7_copyOf_6403c cJ7_copyOf_6403c 4 (some (.array (.object "java/lang/Object"))), Cond.classLink RJ7 110 "[Ljava/lang/Object;", Cond.classLink RJ7 2 "java/lang/Object", Cond.methodLink RJ7 304 Lib.Math.min.name, Cond.methodLink RJ7 150 arraycopyName, Cond.native arraycopyName, Cond.static arraycopyName, Cond.initialized "java/lang/System", Cond.methodLink RX5 122 yX2_addLinesFor, Cond.instanceMethod yX2_addLinesFor, Cond.selects RX2 yX2_addLinesFor yX2_addLinesFor, Cond.code yX2_addLinesFor cX2_addLinesFor 4 none, Cond.methodLink RX2 75 yX3_timesFor, Cond.methodLink RX2 79 yX2_addLine, Cond.instanceMethod yX2_addLine, Cond.selects RX2 yX2_addLine yX2_addLine, Cond.code yX2_addLine cX2_addLine 5 none, Cond.methodLink RX2 58 yX3_append, Cond.instanceMethod yX3_append, Cond.selects RX3 yX3_append yX3_append]
def wsL_anew_r9 : List Cond := [Cond.code yX3_append cX3_append 5 none, Cond.methodLink RX2 62 yX0_drawLine, Cond.instanceMethod yX0_drawLine, Cond.selects RX0 yX0_drawLine yX0_drawLine, Cond.code yX0_drawLine cX0_drawLine 6 none, Cond.methodLink RX0 25 yX0_drawRow, Cond.instanceMethod yX0_drawRow, Cond.selects RX0 yX0_drawRow yX0_drawRow, Cond.code yX0_drawRow cX0_drawRow 8 (some .int), Cond.static yX5_widthAfter, Cond.code yX5_widthAfter cX5_widthAfter 2 (some .int)]
def wsL_anew : List Cond := .codeWith yL_anew cL_anew 5 (some .int) [(0, 10, 13, 13), (0, 10, 17, 15), (0, 10, 21, 17)] :: ((wsL_anew_r1 ++ (wsL_anew_r2 ++ (wsL_anew_r3 ++ (wsL_anew_r4 ++ (wsL_anew_r5 ++ (wsL_anew_r6 ++ (wsL_anew_r7 ++ (wsL_anew_r8 ++ wsL_anew_r9)))))))) ++ wsX20 ++ wsX30 ++ wsX50 ++ wsJx4a65c0 ++ wsX00 ++ (vx_atS RX5 73 "java/lang/IllegalStateException" ["java/lang/RuntimeException", "java/lang/Exception"]).filter goodWord ++ (vx_atS RX5 223 "java/lang/IndexOutOfBoundsException" ["java/lang/RuntimeException", "java/lang/Exception"]).filter goodWord ++ (vx_atS RX5 58 "java/lang/IllegalArgumentException" ["java/lang/RuntimeException", "java/lang/Exception"]).filter goodWord)
def wsL_publish_r1 : List Cond := [Cond.classLink RL 13 "java/lang/IndexOutOfBoundsException", Cond.classLink RL 17 "java/lang/IllegalStateException", Cond.methodLink RL 27 yX5_publish, Cond.instanceMethod yX5_publish, Cond.selects RX5 yX5_publish yX5_publish, Cond.initialized RX5, Cond.code yX5_publish cX5_publish 4 (some .int), Cond.classLink RX5 69 "java/lang/IllegalStateException", Cond.initialized "java/lang/IllegalStateException", Cond.fieldLink RX5 132 "Yarncourt$Pattern" "original" "LYarncourt$Pattern;", Cond.fieldLink RX5 16 "Yarncourt" "inOrderOfPublishing" "Ljava/util/ArrayList;", Cond.fieldLink RX5 44 "Yarncourt$Pattern" "number" "I", Cond.methodLink RX5 50 yX5_patternAt, Cond.instanceMethod yX5_patternAt, Cond.selects RX5 yX5_patternAt yX5_patternAt, Cond.code yX5_patternAt cX5_patternAt 2 (some (.object "Yarncourt$Pattern")), Cond.classLink RX5 219 "java/lang/IndexOutOfBoundsException", Cond.initialized "java/lang/IndexOutOfBoundsException", Cond.fieldLink RX5 10 "Yarncourt" "patterns" "Ljava/util/ArrayList;", Cond.classLink RX5 45 "Yarncourt$Pattern", Cond.methodLink RX5 173 yJx4a65c_size_8abf5, Cond.instanceMethod yJx4a65c_size_8abf5, Cond.selects RJx4a65c yJx4a65c_size_8abf5 yJx4a65c_size_8abf5, Cond.initialized RJx4a65c]
def wsL_publish_r2 : List Cond := [Cond.code yJx4a65c_size_8abf5 cJx4a65c_size_8abf5 1 (some .int), Cond.fieldLink RJx4a65c 48 "java/util/ArrayList" "size" "I", Cond.methodLink RX5 224 yJx4a65c_get_915e3, Cond.instanceMethod yJx4a65c_get_915e3, Cond.selects RJx4a65c yJx4a65c_get_915e3 yJx4a65c_get_915e3, Cond.code yJx4a65c_get_915e3 cJx4a65c_get_915e3 2 (some (.object "java/lang/Object")), Cond.methodLink RJx4a65c 118 yJ15_checkIndex_7cf53, Cond.static yJ15_checkIndex_7cf53, Cond.initialized RJ15, Cond.code yJ15_checkIndex_7cf53 cJ15_checkIndex_7cf53 2 (some .int), Cond.methodLink RJ15 105 yJ3_checkIndex_8e157, Cond.static yJ3_checkIndex_8e157, Cond.initialized RJ3, Cond.code yJ3_checkIndex_8e157 cJ3_checkIndex_8e157 3 (some .int), Cond.methodLink RJx4a65c 123 yJx4a65c_elementData_915e3, Cond.instanceMethod yJx4a65c_elementData_915e3, Cond.selects RJx4a65c yJx4a65c_elementData_915e3 yJx4a65c_elementData_915e3, Cond.code yJx4a65c_elementData_915e3 cJx4a65c_elementData_915e3 2 (some (.object "java/lang/Object")), Cond.fieldLink RJx4a65c 9 "java/util/ArrayList" "elementData" "[Ljava/lang/Object;", Cond.methodLink RX5 61 yX2_isPublished, Cond.instanceMethod yX2_isPublished, Cond.selects RX2 yX2_isPublished yX2_isPublished, Cond.initialized RX2, Cond.code yX2_isPublished cX2_isPublished 1 (some .boolean)]
def wsL_publish_r3 : List Cond := [Cond.fieldLink RX2 15 "Yarncourt$Pattern" "original" "LYarncourt$Pattern;", Cond.methodLink RX5 90 yX2_hasNoLines, Cond.instanceMethod yX2_hasNoLines, Cond.selects RX2 yX2_hasNoLines yX2_hasNoLines, Cond.code yX2_hasNoLines cX2_hasNoLines 1 (some .boolean), Cond.fieldLink RX2 41 "Yarncourt$Pattern" "program" "LYarncourt$Program;", Cond.methodLink RX5 128 yX5_firstOfSameChart, Cond.instanceMethod yX5_firstOfSameChart, Cond.selects RX5 yX5_firstOfSameChart yX5_firstOfSameChart, Cond.code yX5_firstOfSameChart cX5_firstOfSameChart 4 (some (.object "Yarncourt$Pattern")), Cond.fieldLink RX5 78 "Yarncourt$Pattern" "chart" "LYarncourt$Chart;", Cond.methodLink RX5 235 yX0_isSameAs, Cond.instanceMethod yX0_isSameAs, Cond.selects RX0 yX0_isSameAs yX0_isSameAs, Cond.initialized RX0, Cond.code yX0_isSameAs cX0_isSameAs 3 (some .boolean), Cond.fieldLink RX0 9 "Yarncourt$Chart" "rowCount" "I", Cond.fieldLink RX0 15 "Yarncourt$Chart" "stitches" "[I", Cond.methodLink RX5 136 yJx4a65c_add_9ea2d, Cond.instanceMethod yJx4a65c_add_9ea2d, Cond.selects RJx4a65c yJx4a65c_add_9ea2d yJx4a65c_add_9ea2d, Cond.code yJx4a65c_add_9ea2d cJx4a65c_add_9ea2d 2 (some .boolean), Cond.fieldLink RJx4a65c 63 "java/util/ArrayList" "modCount" "I", Cond.sameField "java/util/ArrayList" "java/util/AbstractList" "modCount" "I"]
def wsL_publish_r4 : List Cond := [Cond.methodLink RJx4a65c 131 yJx4a65c_add_72be8, Cond.instanceMethod yJx4a65c_add_72be8, Cond.selects RJx4a65c yJx4a65c_add_72be8 yJx4a65c_add_72be8, Cond.code yJx4a65c_add_72be8 cJx4a65c_add_72be8 4 none, Cond.methodLink RJx4a65c 129 yJx4a65c_grow_d5877, Cond.instanceMethod yJx4a65c_grow_d5877, Cond.selects RJx4a65c yJx4a65c_grow_d5877 yJx4a65c_grow_d5877, Cond.code yJx4a65c_grow_d5877 cJx4a65c_grow_d5877 1 (some (.array (.object "java/lang/Object"))), Cond.methodLink RJx4a65c 69 yJx4a65c_grow_92f84, Cond.instanceMethod yJx4a65c_grow_92f84, Cond.selects RJx4a65c yJx4a65c_grow_92f84 yJx4a65c_grow_92f84, Cond.code yJx4a65c_grow_92f84 cJx4a65c_grow_92f84 4 (some (.array (.object "java/lang/Object"))), Cond.fieldLink RJx4a65c 39 "java/util/ArrayList" "DEFAULTCAPACITY_EMPTY_ELEMENTDATA" "[Ljava/lang/Object;", Cond.methodLink RJx4a65c 79 Lib.Math.max.name, Cond.static Lib.Math.max.name, Cond.initialized "java/lang/Math", Cond.code Lib.Math.max.name Lib.Math.max.code 2 (some .int), Cond.classLink RJx4a65c 7 "java/lang/Object", Cond.methodLink RJx4a65c 73 yJ8_newLength_cabcc, Cond.static yJ8_newLength_cabcc, Cond.initialized RJ8, Cond.code yJ8_newLength_cabcc cJ8_newLength_cabcc 4 (some .int), Cond.methodLink RJ8 194 Lib.Math.max.name, Cond.constant RJ8 200 (2147483639)]
def wsL_publish_r5 : List Cond := [Cond.methodLink RJ8 201 yJ8_hugeLength_7cf53, Cond.static yJ8_hugeLength_7cf53, Cond.code yJ8_hugeLength_7cf53 cJ8_hugeLength_7cf53 3 (some .int), Cond.methodLink RJx4a65c 66 yJ7_copyOf_1904c, Cond.static yJ7_copyOf_1904c, Cond.initialized RJ7, Cond.code yJ7_copyOf_1904c cJ7_copyOf_1904c 2 (some (.array (.object "java/lang/Object"))), Cond.methodLink RJ7 86 ⟨"java/lang/Object", "getClass", "()Ljava/lang/Class;"⟩, Cond.selects "[Ljava/lang/Object;" ⟨"java/lang/Object", "getClass", "()Ljava/lang/Class;"⟩ ⟨"java/lang/Object", "getClass", "()Ljava/lang/Class;"⟩, Cond.instanceMethod ⟨"java/lang/Object", "getClass", "()Ljava/lang/Class;"⟩, Cond.native ⟨"java/lang/Object", "getClass", "()Ljava/lang/Class;"⟩, Cond.methodLink RJ7 300 yJ7_copyOf_6403c, Cond.static yJ7_copyOf_6403c, Cond.code yJ7_copyOf_6403c cJ7_copyOf_6403c 4 (some (.array (.object "java/lang/Object"))), Cond.classLink RJ7 110 "[Ljava/lang/Object;", Cond.classLink RJ7 2 "java/lang/Object", Cond.methodLink RJ7 304 Lib.Math.min.name, Cond.static Lib.Math.min.name, Cond.code Lib.Math.min.name Lib.Math.min.code 2 (some .int), Cond.methodLink RJ7 150 arraycopyName, Cond.native arraycopyName, Cond.static arraycopyName, Cond.initialized "java/lang/System"]
def wsL_publish : List Cond := .codeWith yL_publish cL_publish 4 (some .int) [(0, 9, 12, 13), (0, 9, 15, 17)] :: ((wsL_publish_r1 ++ (wsL_publish_r2 ++ (wsL_publish_r3 ++ (wsL_publish_r4 ++ wsL_publish_r5)))) ++ wsX20 ++ wsX50 ++ wsJx4a65c0 ++ wsX30 ++ wsX00 ++ (vx_atS RX5 73 "java/lang/IllegalStateException" ["java/lang/RuntimeException", "java/lang/Exception"]).filter goodWord ++ (vx_atS RX5 223 "java/lang/IndexOutOfBoundsException" ["java/lang/RuntimeException", "java/lang/Exception"]).filter goodWord)
def wsL_original_r1 : List Cond := [Cond.classLink RL 13 "java/lang/IndexOutOfBoundsException", Cond.methodLink RL 31 yX5_original, Cond.instanceMethod yX5_original, Cond.selects RX5 yX5_original yX5_original, Cond.initialized RX5, Cond.code yX5_original cX5_original 3 (some .int), Cond.fieldLink RX5 132 "Yarncourt$Pattern" "original" "LYarncourt$Pattern;", Cond.fieldLink RX5 44 "Yarncourt$Pattern" "number" "I", Cond.methodLink RX5 50 yX5_patternAt, Cond.instanceMethod yX5_patternAt, Cond.selects RX5 yX5_patternAt yX5_patternAt, Cond.code yX5_patternAt cX5_patternAt 2 (some (.object "Yarncourt$Pattern")), Cond.classLink RX5 219 "java/lang/IndexOutOfBoundsException", Cond.initialized "java/lang/IndexOutOfBoundsException", Cond.fieldLink RX5 10 "Yarncourt" "patterns" "Ljava/util/ArrayList;", Cond.classLink RX5 45 "Yarncourt$Pattern", Cond.methodLink RX5 173 yJx4a65c_size_8abf5, Cond.instanceMethod yJx4a65c_size_8abf5, Cond.selects RJx4a65c yJx4a65c_size_8abf5 yJx4a65c_size_8abf5, Cond.initialized RJx4a65c, Cond.code yJx4a65c_size_8abf5 cJx4a65c_size_8abf5 1 (some .int), Cond.fieldLink RJx4a65c 48 "java/util/ArrayList" "size" "I", Cond.methodLink RX5 224 yJx4a65c_get_915e3, Cond.instanceMethod yJx4a65c_get_915e3]
def wsL_original_r2 : List Cond := [Cond.selects RJx4a65c yJx4a65c_get_915e3 yJx4a65c_get_915e3, Cond.code yJx4a65c_get_915e3 cJx4a65c_get_915e3 2 (some (.object "java/lang/Object")), Cond.methodLink RJx4a65c 118 yJ15_checkIndex_7cf53, Cond.static yJ15_checkIndex_7cf53, Cond.initialized RJ15, Cond.code yJ15_checkIndex_7cf53 cJ15_checkIndex_7cf53 2 (some .int), Cond.methodLink RJ15 105 yJ3_checkIndex_8e157, Cond.static yJ3_checkIndex_8e157, Cond.initialized RJ3, Cond.code yJ3_checkIndex_8e157 cJ3_checkIndex_8e157 3 (some .int), Cond.methodLink RJx4a65c 123 yJx4a65c_elementData_915e3, Cond.instanceMethod yJx4a65c_elementData_915e3, Cond.selects RJx4a65c yJx4a65c_elementData_915e3 yJx4a65c_elementData_915e3, Cond.code yJx4a65c_elementData_915e3 cJx4a65c_elementData_915e3 2 (some (.object "java/lang/Object")), Cond.fieldLink RJx4a65c 9 "java/util/ArrayList" "elementData" "[Ljava/lang/Object;"]
def wsL_original : List Cond := .codeWith yL_original cL_original 4 (some .int) [(0, 9, 12, 13)] :: ((wsL_original_r1 ++ wsL_original_r2) ++ wsX20 ++ wsX50 ++ wsJx4a65c0 ++ (vx_atS RX5 223 "java/lang/IndexOutOfBoundsException" ["java/lang/RuntimeException", "java/lang/Exception"]).filter goodWord)
def wsL_rows_r1 : List Cond := [Cond.classLink RL 13 "java/lang/IndexOutOfBoundsException", Cond.methodLink RL 34 yX5_rows, Cond.instanceMethod yX5_rows, Cond.selects RX5 yX5_rows yX5_rows, Cond.initialized RX5, Cond.code yX5_rows cX5_rows 2 (some .int), Cond.fieldLink RX5 78 "Yarncourt$Pattern" "chart" "LYarncourt$Chart;", Cond.fieldLink RX5 82 "Yarncourt$Chart" "rowCount" "I", Cond.methodLink RX5 50 yX5_patternAt, Cond.instanceMethod yX5_patternAt, Cond.selects RX5 yX5_patternAt yX5_patternAt, Cond.code yX5_patternAt cX5_patternAt 2 (some (.object "Yarncourt$Pattern")), Cond.classLink RX5 219 "java/lang/IndexOutOfBoundsException", Cond.initialized "java/lang/IndexOutOfBoundsException", Cond.fieldLink RX5 10 "Yarncourt" "patterns" "Ljava/util/ArrayList;", Cond.classLink RX5 45 "Yarncourt$Pattern", Cond.methodLink RX5 173 yJx4a65c_size_8abf5, Cond.instanceMethod yJx4a65c_size_8abf5, Cond.selects RJx4a65c yJx4a65c_size_8abf5 yJx4a65c_size_8abf5, Cond.initialized RJx4a65c, Cond.code yJx4a65c_size_8abf5 cJx4a65c_size_8abf5 1 (some .int), Cond.fieldLink RJx4a65c 48 "java/util/ArrayList" "size" "I", Cond.methodLink RX5 224 yJx4a65c_get_915e3, Cond.instanceMethod yJx4a65c_get_915e3]
def wsL_rows_r2 : List Cond := [Cond.selects RJx4a65c yJx4a65c_get_915e3 yJx4a65c_get_915e3, Cond.code yJx4a65c_get_915e3 cJx4a65c_get_915e3 2 (some (.object "java/lang/Object")), Cond.methodLink RJx4a65c 118 yJ15_checkIndex_7cf53, Cond.static yJ15_checkIndex_7cf53, Cond.initialized RJ15, Cond.code yJ15_checkIndex_7cf53 cJ15_checkIndex_7cf53 2 (some .int), Cond.methodLink RJ15 105 yJ3_checkIndex_8e157, Cond.static yJ3_checkIndex_8e157, Cond.initialized RJ3, Cond.code yJ3_checkIndex_8e157 cJ3_checkIndex_8e157 3 (some .int), Cond.methodLink RJx4a65c 123 yJx4a65c_elementData_915e3, Cond.instanceMethod yJx4a65c_elementData_915e3, Cond.selects RJx4a65c yJx4a65c_elementData_915e3 yJx4a65c_elementData_915e3, Cond.code yJx4a65c_elementData_915e3 cJx4a65c_elementData_915e3 2 (some (.object "java/lang/Object")), Cond.fieldLink RJx4a65c 9 "java/util/ArrayList" "elementData" "[Ljava/lang/Object;"]
def wsL_rows : List Cond := .codeWith yL_rows cL_rows 4 (some .int) [(0, 9, 12, 13)] :: ((wsL_rows_r1 ++ wsL_rows_r2) ++ wsX20 ++ wsX00 ++ wsX50 ++ wsJx4a65c0 ++ (vx_atS RX5 223 "java/lang/IndexOutOfBoundsException" ["java/lang/RuntimeException", "java/lang/Exception"]).filter goodWord)
def wsL_stitch_r1 : List Cond := [Cond.classLink RL 13 "java/lang/IndexOutOfBoundsException", Cond.methodLink RL 37 yX5_stitch, Cond.instanceMethod yX5_stitch, Cond.selects RX5 yX5_stitch yX5_stitch, Cond.initialized RX5, Cond.code yX5_stitch cX5_stitch 5 (some .int), Cond.fieldLink RX5 78 "Yarncourt$Pattern" "chart" "LYarncourt$Chart;", Cond.methodLink RX5 50 yX5_patternAt, Cond.instanceMethod yX5_patternAt, Cond.selects RX5 yX5_patternAt yX5_patternAt, Cond.code yX5_patternAt cX5_patternAt 2 (some (.object "Yarncourt$Pattern")), Cond.classLink RX5 219 "java/lang/IndexOutOfBoundsException", Cond.initialized "java/lang/IndexOutOfBoundsException", Cond.fieldLink RX5 10 "Yarncourt" "patterns" "Ljava/util/ArrayList;", Cond.classLink RX5 45 "Yarncourt$Pattern", Cond.methodLink RX5 173 yJx4a65c_size_8abf5, Cond.instanceMethod yJx4a65c_size_8abf5, Cond.selects RJx4a65c yJx4a65c_size_8abf5 yJx4a65c_size_8abf5, Cond.initialized RJx4a65c, Cond.code yJx4a65c_size_8abf5 cJx4a65c_size_8abf5 1 (some .int), Cond.fieldLink RJx4a65c 48 "java/util/ArrayList" "size" "I", Cond.methodLink RX5 224 yJx4a65c_get_915e3, Cond.instanceMethod yJx4a65c_get_915e3, Cond.selects RJx4a65c yJx4a65c_get_915e3 yJx4a65c_get_915e3]
def wsL_stitch_r2 : List Cond := [Cond.code yJx4a65c_get_915e3 cJx4a65c_get_915e3 2 (some (.object "java/lang/Object")), Cond.methodLink RJx4a65c 118 yJ15_checkIndex_7cf53, Cond.static yJ15_checkIndex_7cf53, Cond.initialized RJ15, Cond.code yJ15_checkIndex_7cf53 cJ15_checkIndex_7cf53 2 (some .int), Cond.methodLink RJ15 105 yJ3_checkIndex_8e157, Cond.static yJ3_checkIndex_8e157, Cond.initialized RJ3, Cond.code yJ3_checkIndex_8e157 cJ3_checkIndex_8e157 3 (some .int), Cond.methodLink RJx4a65c 123 yJx4a65c_elementData_915e3, Cond.instanceMethod yJx4a65c_elementData_915e3, Cond.selects RJx4a65c yJx4a65c_elementData_915e3 yJx4a65c_elementData_915e3, Cond.code yJx4a65c_elementData_915e3 cJx4a65c_elementData_915e3 2 (some (.object "java/lang/Object")), Cond.fieldLink RJx4a65c 9 "java/util/ArrayList" "elementData" "[Ljava/lang/Object;", Cond.methodLink RX5 140 yX5_checkPlace, Cond.static yX5_checkPlace, Cond.code yX5_checkPlace cX5_checkPlace 3 none, Cond.fieldLink RX5 82 "Yarncourt$Chart" "rowCount" "I", Cond.methodLink RX5 144 yX0_stitchAt, Cond.instanceMethod yX0_stitchAt, Cond.selects RX0 yX0_stitchAt yX0_stitchAt, Cond.initialized RX0, Cond.code yX0_stitchAt cX0_stitchAt 3 (some .int), Cond.fieldLink RX0 15 "Yarncourt$Chart" "stitches" "[I"]
def wsL_stitch : List Cond := .codeWith yL_stitch cL_stitch 6 (some .int) [(0, 12, 15, 13)] :: ((wsL_stitch_r1 ++ wsL_stitch_r2) ++ wsX20 ++ wsX50 ++ wsJx4a65c0 ++ wsX00 ++ (vx_atS RX5 223 "java/lang/IndexOutOfBoundsException" ["java/lang/RuntimeException", "java/lang/Exception"]).filter goodWord)
def wsL_stitchByWork_r1 : List Cond := [Cond.classLink RL 13 "java/lang/IndexOutOfBoundsException", Cond.methodLink RL 40 yX5_stitchByWork, Cond.instanceMethod yX5_stitchByWork, Cond.selects RX5 yX5_stitchByWork yX5_stitchByWork, Cond.initialized RX5, Cond.code yX5_stitchByWork cX5_stitchByWork 5 (some .int), Cond.fieldLink RX5 93 "Yarncourt$Pattern" "program" "LYarncourt$Program;", Cond.methodLink RX5 50 yX5_patternAt, Cond.instanceMethod yX5_patternAt, Cond.selects RX5 yX5_patternAt yX5_patternAt, Cond.code yX5_patternAt cX5_patternAt 2 (some (.object "Yarncourt$Pattern")), Cond.classLink RX5 219 "java/lang/IndexOutOfBoundsException", Cond.initialized "java/lang/IndexOutOfBoundsException", Cond.fieldLink RX5 10 "Yarncourt" "patterns" "Ljava/util/ArrayList;", Cond.classLink RX5 45 "Yarncourt$Pattern", Cond.methodLink RX5 173 yJx4a65c_size_8abf5, Cond.instanceMethod yJx4a65c_size_8abf5, Cond.selects RJx4a65c yJx4a65c_size_8abf5 yJx4a65c_size_8abf5, Cond.initialized RJx4a65c, Cond.code yJx4a65c_size_8abf5 cJx4a65c_size_8abf5 1 (some .int), Cond.fieldLink RJx4a65c 48 "java/util/ArrayList" "size" "I", Cond.methodLink RX5 224 yJx4a65c_get_915e3, Cond.instanceMethod yJx4a65c_get_915e3, Cond.selects RJx4a65c yJx4a65c_get_915e3 yJx4a65c_get_915e3]
def wsL_stitchByWork_r2 : List Cond := [Cond.code yJx4a65c_get_915e3 cJx4a65c_get_915e3 2 (some (.object "java/lang/Object")), Cond.methodLink RJx4a65c 118 yJ15_checkIndex_7cf53, Cond.static yJ15_checkIndex_7cf53, Cond.initialized RJ15, Cond.code yJ15_checkIndex_7cf53 cJ15_checkIndex_7cf53 2 (some .int), Cond.methodLink RJ15 105 yJ3_checkIndex_8e157, Cond.static yJ3_checkIndex_8e157, Cond.initialized RJ3, Cond.code yJ3_checkIndex_8e157 cJ3_checkIndex_8e157 3 (some .int), Cond.methodLink RJx4a65c 123 yJx4a65c_elementData_915e3, Cond.instanceMethod yJx4a65c_elementData_915e3, Cond.selects RJx4a65c yJx4a65c_elementData_915e3 yJx4a65c_elementData_915e3, Cond.code yJx4a65c_elementData_915e3 cJx4a65c_elementData_915e3 2 (some (.object "java/lang/Object")), Cond.fieldLink RJx4a65c 9 "java/util/ArrayList" "elementData" "[Ljava/lang/Object;", Cond.methodLink RX5 140 yX5_checkPlace, Cond.static yX5_checkPlace, Cond.code yX5_checkPlace cX5_checkPlace 3 none, Cond.fieldLink RX5 78 "Yarncourt$Pattern" "chart" "LYarncourt$Chart;", Cond.fieldLink RX5 82 "Yarncourt$Chart" "rowCount" "I", Cond.methodLink RX5 147 yX3_workTo, Cond.instanceMethod yX3_workTo, Cond.selects RX3 yX3_workTo yX3_workTo, Cond.initialized RX3, Cond.code yX3_workTo cX3_workTo 7 (some .int)]
def wsL_stitchByWork_r3 : List Cond := [Cond.fieldLink RX3 28 "Yarncourt$Program" "firstWidth" "I", Cond.fieldLink RX3 24 "Yarncourt$Program" "lineCount" "I", Cond.fieldLink RX3 21 "Yarncourt$Program" "times" "[I", Cond.fieldLink RX3 18 "Yarncourt$Program" "shaping" "[I", Cond.methodLink RX3 43 yX3_workAlong, Cond.instanceMethod yX3_workAlong, Cond.selects RX3 yX3_workAlong yX3_workAlong, Cond.code yX3_workAlong cX3_workAlong 6 (some .int), Cond.fieldLink RX3 9 "Yarncourt$Program" "knits" "[I", Cond.fieldLink RX3 15 "Yarncourt$Program" "purls" "[I", Cond.static yX5_widthAfter, Cond.code yX5_widthAfter cX5_widthAfter 2 (some .int), Cond.methodLink RX5 112 yX5_within, Cond.static yX5_within, Cond.code yX5_within cX5_within 3 (some .int), Cond.methodLink RX5 245 Lib.Math.max.name, Cond.static Lib.Math.max.name, Cond.initialized "java/lang/Math", Cond.code Lib.Math.max.name Lib.Math.max.code 2 (some .int), Cond.methodLink RX5 250 Lib.Math.min.name, Cond.static Lib.Math.min.name, Cond.code Lib.Math.min.name Lib.Math.min.code 2 (some .int)]
def wsL_stitchByWork : List Cond := .codeWith yL_stitchByWork cL_stitchByWork 6 (some .int) [(0, 12, 15, 13)] :: ((wsL_stitchByWork_r1 ++ (wsL_stitchByWork_r2 ++ wsL_stitchByWork_r3)) ++ wsX20 ++ wsX50 ++ wsJx4a65c0 ++ wsX00 ++ wsX30 ++ (vx_atS RX5 223 "java/lang/IndexOutOfBoundsException" ["java/lang/RuntimeException", "java/lang/Exception"]).filter goodWord)
def wsL_need_r1 : List Cond := [Cond.classLink RL 13 "java/lang/IndexOutOfBoundsException", Cond.classLink RL 15 "java/lang/IllegalArgumentException", Cond.methodLink RL 43 yX5_need, Cond.instanceMethod yX5_need, Cond.selects RX5 yX5_need yX5_need, Cond.initialized RX5, Cond.code yX5_need cX5_need 4 (some .int), Cond.fieldLink RX5 78 "Yarncourt$Pattern" "chart" "LYarncourt$Chart;", Cond.methodLink RX5 50 yX5_patternAt, Cond.instanceMethod yX5_patternAt, Cond.selects RX5 yX5_patternAt yX5_patternAt, Cond.code yX5_patternAt cX5_patternAt 2 (some (.object "Yarncourt$Pattern")), Cond.classLink RX5 219 "java/lang/IndexOutOfBoundsException", Cond.initialized "java/lang/IndexOutOfBoundsException", Cond.fieldLink RX5 10 "Yarncourt" "patterns" "Ljava/util/ArrayList;", Cond.classLink RX5 45 "Yarncourt$Pattern", Cond.methodLink RX5 173 yJx4a65c_size_8abf5, Cond.instanceMethod yJx4a65c_size_8abf5, Cond.selects RJx4a65c yJx4a65c_size_8abf5 yJx4a65c_size_8abf5, Cond.initialized RJx4a65c, Cond.code yJx4a65c_size_8abf5 cJx4a65c_size_8abf5 1 (some .int), Cond.fieldLink RJx4a65c 48 "java/util/ArrayList" "size" "I", Cond.methodLink RX5 224 yJx4a65c_get_915e3, Cond.instanceMethod yJx4a65c_get_915e3]
def wsL_need_r2 : List Cond := [Cond.selects RJx4a65c yJx4a65c_get_915e3 yJx4a65c_get_915e3, Cond.code yJx4a65c_get_915e3 cJx4a65c_get_915e3 2 (some (.object "java/lang/Object")), Cond.methodLink RJx4a65c 118 yJ15_checkIndex_7cf53, Cond.static yJ15_checkIndex_7cf53, Cond.initialized RJ15, Cond.code yJ15_checkIndex_7cf53 cJ15_checkIndex_7cf53 2 (some .int), Cond.methodLink RJ15 105 yJ3_checkIndex_8e157, Cond.static yJ3_checkIndex_8e157, Cond.initialized RJ3, Cond.code yJ3_checkIndex_8e157 cJ3_checkIndex_8e157 3 (some .int), Cond.methodLink RJx4a65c 123 yJx4a65c_elementData_915e3, Cond.instanceMethod yJx4a65c_elementData_915e3, Cond.selects RJx4a65c yJx4a65c_elementData_915e3 yJx4a65c_elementData_915e3, Cond.code yJx4a65c_elementData_915e3 cJx4a65c_elementData_915e3 2 (some (.object "java/lang/Object")), Cond.fieldLink RJx4a65c 9 "java/util/ArrayList" "elementData" "[Ljava/lang/Object;", Cond.methodLink RX5 87 yX5_checkGauge, Cond.static yX5_checkGauge, Cond.code yX5_checkGauge cX5_checkGauge 1 none, Cond.methodLink RX5 33 yX5_checkRange, Cond.static yX5_checkRange, Cond.code yX5_checkRange cX5_checkRange 3 none, Cond.classLink RX5 54 "java/lang/IllegalArgumentException", Cond.initialized "java/lang/IllegalArgumentException", Cond.methodLink RX5 150 yX0_yarnOfAllRows]
def wsL_need_r3 : List Cond := [Cond.instanceMethod yX0_yarnOfAllRows, Cond.selects RX0 yX0_yarnOfAllRows yX0_yarnOfAllRows, Cond.initialized RX0, Cond.code yX0_yarnOfAllRows cX0_yarnOfAllRows 3 (some .int), Cond.fieldLink RX0 9 "Yarncourt$Chart" "rowCount" "I", Cond.fieldLink RX0 19 "Yarncourt$Chart" "yarnOfRow" "[I"]
def wsL_need : List Cond := .codeWith yL_need cL_need 5 (some .int) [(0, 10, 13, 13), (0, 10, 17, 15)] :: ((wsL_need_r1 ++ (wsL_need_r2 ++ wsL_need_r3)) ++ wsX20 ++ wsX50 ++ wsJx4a65c0 ++ wsX00 ++ (vx_atS RX5 223 "java/lang/IndexOutOfBoundsException" ["java/lang/RuntimeException", "java/lang/Exception"]).filter goodWord ++ (vx_atS RX5 58 "java/lang/IllegalArgumentException" ["java/lang/RuntimeException", "java/lang/Exception"]).filter goodWord)
def wsL_buy_r1 : List Cond := [Cond.classLink RL 13 "java/lang/IndexOutOfBoundsException", Cond.classLink RL 17 "java/lang/IllegalStateException", Cond.methodLink RL 46 yX5_buy, Cond.instanceMethod yX5_buy, Cond.selects RX5 yX5_buy yX5_buy, Cond.initialized RX5, Cond.code yX5_buy cX5_buy 4 (some .int), Cond.classLink RX5 69 "java/lang/IllegalStateException", Cond.initialized "java/lang/IllegalStateException", Cond.fieldLink RX5 154 "Yarncourt$Pattern" "barred" "Z", Cond.fieldLink RX5 163 "Yarncourt$Pattern" "boughtBy" "[Z", Cond.fieldLink RX5 167 "Yarncourt$Pattern" "takings" "I", Cond.fieldLink RX5 119 "Yarncourt$Pattern" "price" "I", Cond.fieldLink RX5 25 "Yarncourt" "purses" "[I", Cond.fieldLink RX5 116 "Yarncourt$Pattern" "owner" "I", Cond.methodLink RX5 50 yX5_patternAt, Cond.instanceMethod yX5_patternAt, Cond.selects RX5 yX5_patternAt yX5_patternAt, Cond.code yX5_patternAt cX5_patternAt 2 (some (.object "Yarncourt$Pattern")), Cond.classLink RX5 219 "java/lang/IndexOutOfBoundsException", Cond.initialized "java/lang/IndexOutOfBoundsException", Cond.fieldLink RX5 10 "Yarncourt" "patterns" "Ljava/util/ArrayList;", Cond.classLink RX5 45 "Yarncourt$Pattern", Cond.methodLink RX5 173 yJx4a65c_size_8abf5]
def wsL_buy_r2 : List Cond := [Cond.instanceMethod yJx4a65c_size_8abf5, Cond.selects RJx4a65c yJx4a65c_size_8abf5 yJx4a65c_size_8abf5, Cond.initialized RJx4a65c, Cond.code yJx4a65c_size_8abf5 cJx4a65c_size_8abf5 1 (some .int), Cond.fieldLink RJx4a65c 48 "java/util/ArrayList" "size" "I", Cond.methodLink RX5 224 yJx4a65c_get_915e3, Cond.instanceMethod yJx4a65c_get_915e3, Cond.selects RJx4a65c yJx4a65c_get_915e3 yJx4a65c_get_915e3, Cond.code yJx4a65c_get_915e3 cJx4a65c_get_915e3 2 (some (.object "java/lang/Object")), Cond.methodLink RJx4a65c 118 yJ15_checkIndex_7cf53, Cond.static yJ15_checkIndex_7cf53, Cond.initialized RJ15, Cond.code yJ15_checkIndex_7cf53 cJ15_checkIndex_7cf53 2 (some .int), Cond.methodLink RJ15 105 yJ3_checkIndex_8e157, Cond.static yJ3_checkIndex_8e157, Cond.initialized RJ3, Cond.code yJ3_checkIndex_8e157 cJ3_checkIndex_8e157 3 (some .int), Cond.methodLink RJx4a65c 123 yJx4a65c_elementData_915e3, Cond.instanceMethod yJx4a65c_elementData_915e3, Cond.selects RJx4a65c yJx4a65c_elementData_915e3 yJx4a65c_elementData_915e3, Cond.code yJx4a65c_elementData_915e3 cJx4a65c_elementData_915e3 2 (some (.object "java/lang/Object")), Cond.fieldLink RJx4a65c 9 "java/util/ArrayList" "elementData" "[Ljava/lang/Object;", Cond.methodLink RX5 29 yX5_checkPerson, Cond.static yX5_checkPerson]
def wsL_buy_r3 : List Cond := [Cond.code yX5_checkPerson cX5_checkPerson 1 none, Cond.methodLink RX5 61 yX2_isPublished, Cond.instanceMethod yX2_isPublished, Cond.selects RX2 yX2_isPublished yX2_isPublished, Cond.initialized RX2, Cond.code yX2_isPublished cX2_isPublished 1 (some .boolean), Cond.fieldLink RX2 15 "Yarncourt$Pattern" "original" "LYarncourt$Pattern;", Cond.methodLink RX5 158 yX2_mayBeKnittedBy, Cond.instanceMethod yX2_mayBeKnittedBy, Cond.selects RX2 yX2_mayBeKnittedBy yX2_mayBeKnittedBy, Cond.code yX2_mayBeKnittedBy cX2_mayBeKnittedBy 2 (some .boolean), Cond.fieldLink RX2 30 "Yarncourt$Pattern" "owner" "I", Cond.fieldLink RX2 9 "Yarncourt$Pattern" "boughtBy" "[Z"]
def wsL_buy : List Cond := .codeWith yL_buy cL_buy 5 (some .int) [(0, 10, 13, 13), (0, 10, 17, 17)] :: ((wsL_buy_r1 ++ (wsL_buy_r2 ++ wsL_buy_r3)) ++ wsX20 ++ wsX50 ++ wsJx4a65c0 ++ (vx_atS RX5 73 "java/lang/IllegalStateException" ["java/lang/RuntimeException", "java/lang/Exception"]).filter goodWord ++ (vx_atS RX5 223 "java/lang/IndexOutOfBoundsException" ["java/lang/RuntimeException", "java/lang/Exception"]).filter goodWord)
def wsL_rule_r1 : List Cond := [Cond.classLink RL 13 "java/lang/IndexOutOfBoundsException", Cond.classLink RL 17 "java/lang/IllegalStateException", Cond.methodLink RL 49 yX5_rule, Cond.instanceMethod yX5_rule, Cond.selects RX5 yX5_rule yX5_rule, Cond.initialized RX5, Cond.code yX5_rule cX5_rule 4 (some .int), Cond.classLink RX5 69 "java/lang/IllegalStateException", Cond.initialized "java/lang/IllegalStateException", Cond.fieldLink RX5 132 "Yarncourt$Pattern" "original" "LYarncourt$Pattern;", Cond.fieldLink RX5 116 "Yarncourt$Pattern" "owner" "I", Cond.fieldLink RX5 154 "Yarncourt$Pattern" "barred" "Z", Cond.fieldLink RX5 25 "Yarncourt" "purses" "[I", Cond.fieldLink RX5 167 "Yarncourt$Pattern" "takings" "I", Cond.methodLink RX5 50 yX5_patternAt, Cond.instanceMethod yX5_patternAt, Cond.selects RX5 yX5_patternAt yX5_patternAt, Cond.code yX5_patternAt cX5_patternAt 2 (some (.object "Yarncourt$Pattern")), Cond.classLink RX5 219 "java/lang/IndexOutOfBoundsException", Cond.initialized "java/lang/IndexOutOfBoundsException", Cond.fieldLink RX5 10 "Yarncourt" "patterns" "Ljava/util/ArrayList;", Cond.classLink RX5 45 "Yarncourt$Pattern", Cond.methodLink RX5 173 yJx4a65c_size_8abf5, Cond.instanceMethod yJx4a65c_size_8abf5]
def wsL_rule_r2 : List Cond := [Cond.selects RJx4a65c yJx4a65c_size_8abf5 yJx4a65c_size_8abf5, Cond.initialized RJx4a65c, Cond.code yJx4a65c_size_8abf5 cJx4a65c_size_8abf5 1 (some .int), Cond.fieldLink RJx4a65c 48 "java/util/ArrayList" "size" "I", Cond.methodLink RX5 224 yJx4a65c_get_915e3, Cond.instanceMethod yJx4a65c_get_915e3, Cond.selects RJx4a65c yJx4a65c_get_915e3 yJx4a65c_get_915e3, Cond.code yJx4a65c_get_915e3 cJx4a65c_get_915e3 2 (some (.object "java/lang/Object")), Cond.methodLink RJx4a65c 118 yJ15_checkIndex_7cf53, Cond.static yJ15_checkIndex_7cf53, Cond.initialized RJ15, Cond.code yJ15_checkIndex_7cf53 cJ15_checkIndex_7cf53 2 (some .int), Cond.methodLink RJ15 105 yJ3_checkIndex_8e157, Cond.static yJ3_checkIndex_8e157, Cond.initialized RJ3, Cond.code yJ3_checkIndex_8e157 cJ3_checkIndex_8e157 3 (some .int), Cond.methodLink RJx4a65c 123 yJx4a65c_elementData_915e3, Cond.instanceMethod yJx4a65c_elementData_915e3, Cond.selects RJx4a65c yJx4a65c_elementData_915e3 yJx4a65c_elementData_915e3, Cond.code yJx4a65c_elementData_915e3 cJx4a65c_elementData_915e3 2 (some (.object "java/lang/Object")), Cond.fieldLink RJx4a65c 9 "java/util/ArrayList" "elementData" "[Ljava/lang/Object;"]
def wsL_rule : List Cond := .codeWith yL_rule cL_rule 4 (some .int) [(0, 9, 12, 13), (0, 9, 15, 17)] :: ((wsL_rule_r1 ++ wsL_rule_r2) ++ wsX20 ++ wsX50 ++ wsJx4a65c0 ++ (vx_atS RX5 73 "java/lang/IllegalStateException" ["java/lang/RuntimeException", "java/lang/Exception"]).filter goodWord ++ (vx_atS RX5 223 "java/lang/IndexOutOfBoundsException" ["java/lang/RuntimeException", "java/lang/Exception"]).filter goodWord)
def wsL_money : List Cond := .codeWith yL_money cL_money 4 (some .int) [(0, 9, 12, 13)] :: ([.classLink RL 13 "java/lang/IndexOutOfBoundsException", .methodLink RL 52 yX5_money, .instanceMethod yX5_money, .selects RX5 yX5_money yX5_money, .initialized RX5, .code yX5_money cX5_money 2 (some .int), .fieldLink RX5 25 "Yarncourt" "purses" "[I", .methodLink RX5 29 yX5_checkPerson, .static yX5_checkPerson, .code yX5_checkPerson cX5_checkPerson 1 none, .classLink RX5 219 "java/lang/IndexOutOfBoundsException", .initialized "java/lang/IndexOutOfBoundsException"] ++ wsX50 ++ (vx_atS RX5 223 "java/lang/IndexOutOfBoundsException" ["java/lang/RuntimeException", "java/lang/Exception"]).filter goodWord)
def wsL_lot_r1 : List Cond := [Cond.classLink RL 13 "java/lang/IndexOutOfBoundsException", Cond.classLink RL 15 "java/lang/IllegalArgumentException", Cond.classLink RL 17 "java/lang/IllegalStateException", Cond.methodLink RL 55 yX5_lot, Cond.instanceMethod yX5_lot, Cond.selects RX5 yX5_lot yX5_lot, Cond.initialized RX5, Cond.code yX5_lot cX5_lot 5 (some .int), Cond.classLink RX5 69 "java/lang/IllegalStateException", Cond.initialized "java/lang/IllegalStateException", Cond.constant RX5 172 (100000), Cond.fieldLink RX5 19 "Yarncourt" "lots" "Ljava/util/ArrayList;", Cond.classLink RX5 178 RX1, Cond.instantiable RX1 4, Cond.initialized RX1, Cond.methodLink RX5 29 yX5_checkPerson, Cond.static yX5_checkPerson, Cond.code yX5_checkPerson cX5_checkPerson 1 none, Cond.classLink RX5 219 "java/lang/IndexOutOfBoundsException", Cond.initialized "java/lang/IndexOutOfBoundsException", Cond.methodLink RX5 87 yX5_checkGauge, Cond.static yX5_checkGauge, Cond.code yX5_checkGauge cX5_checkGauge 1 none, Cond.methodLink RX5 33 yX5_checkRange]
def wsL_lot_r2 : List Cond := [Cond.static yX5_checkRange, Cond.code yX5_checkRange cX5_checkRange 3 none, Cond.classLink RX5 54 "java/lang/IllegalArgumentException", Cond.initialized "java/lang/IllegalArgumentException", Cond.methodLink RX5 173 yJx4a65c_size_8abf5, Cond.instanceMethod yJx4a65c_size_8abf5, Cond.selects RJx4a65c yJx4a65c_size_8abf5 yJx4a65c_size_8abf5, Cond.initialized RJx4a65c, Cond.code yJx4a65c_size_8abf5 cJx4a65c_size_8abf5 1 (some .int), Cond.fieldLink RJx4a65c 48 "java/util/ArrayList" "size" "I", Cond.methodLink RX5 180 yX1_init, Cond.instanceMethod yX1_init, Cond.code yX1_init cX1_init 5 none, Cond.methodLink RX1 1 objectInit, Cond.instanceMethod objectInit, Cond.code objectInit ⟨#[0xb1]⟩ 1 none, Cond.fieldLink RX1 7 "Yarncourt$Lot" "number" "I", Cond.fieldLink RX1 13 "Yarncourt$Lot" "gauge" "I", Cond.fieldLink RX1 16 "Yarncourt$Lot" "person" "I", Cond.fieldLink RX1 19 "Yarncourt$Lot" "yarn" "I", Cond.methodLink RX5 136 yJx4a65c_add_9ea2d, Cond.instanceMethod yJx4a65c_add_9ea2d, Cond.selects RJx4a65c yJx4a65c_add_9ea2d yJx4a65c_add_9ea2d, Cond.code yJx4a65c_add_9ea2d cJx4a65c_add_9ea2d 2 (some .boolean)]
def wsL_lot_r3 : List Cond := [Cond.fieldLink RJx4a65c 63 "java/util/ArrayList" "modCount" "I", Cond.sameField "java/util/ArrayList" "java/util/AbstractList" "modCount" "I", Cond.fieldLink RJx4a65c 9 "java/util/ArrayList" "elementData" "[Ljava/lang/Object;", Cond.methodLink RJx4a65c 131 yJx4a65c_add_72be8, Cond.instanceMethod yJx4a65c_add_72be8, Cond.selects RJx4a65c yJx4a65c_add_72be8 yJx4a65c_add_72be8, Cond.code yJx4a65c_add_72be8 cJx4a65c_add_72be8 4 none, Cond.methodLink RJx4a65c 129 yJx4a65c_grow_d5877, Cond.instanceMethod yJx4a65c_grow_d5877, Cond.selects RJx4a65c yJx4a65c_grow_d5877 yJx4a65c_grow_d5877, Cond.code yJx4a65c_grow_d5877 cJx4a65c_grow_d5877 1 (some (.array (.object "java/lang/Object"))), Cond.methodLink RJx4a65c 69 yJx4a65c_grow_92f84, Cond.instanceMethod yJx4a65c_grow_92f84, Cond.selects RJx4a65c yJx4a65c_grow_92f84 yJx4a65c_grow_92f84, Cond.code yJx4a65c_grow_92f84 cJx4a65c_grow_92f84 4 (some (.array (.object "java/lang/Object"))), Cond.fieldLink RJx4a65c 39 "java/util/ArrayList" "DEFAULTCAPACITY_EMPTY_ELEMENTDATA" "[Ljava/lang/Object;", Cond.methodLink RJx4a65c 79 Lib.Math.max.name, Cond.static Lib.Math.max.name, Cond.initialized "java/lang/Math", Cond.code Lib.Math.max.name Lib.Math.max.code 2 (some .int), Cond.classLink RJx4a65c 7 "java/lang/Object", Cond.methodLink RJx4a65c 73 yJ8_newLength_cabcc, Cond.static yJ8_newLength_cabcc, Cond.initialized RJ8]
def wsL_lot_r4 : List Cond := [Cond.code yJ8_newLength_cabcc cJ8_newLength_cabcc 4 (some .int), Cond.methodLink RJ8 194 Lib.Math.max.name, Cond.constant RJ8 200 (2147483639), Cond.methodLink RJ8 201 yJ8_hugeLength_7cf53, Cond.static yJ8_hugeLength_7cf53, Cond.code yJ8_hugeLength_7cf53 cJ8_hugeLength_7cf53 3 (some .int), Cond.methodLink RJx4a65c 66 yJ7_copyOf_1904c, Cond.static yJ7_copyOf_1904c, Cond.initialized RJ7, Cond.code yJ7_copyOf_1904c cJ7_copyOf_1904c 2 (some (.array (.object "java/lang/Object"))), Cond.methodLink RJ7 86 ⟨"java/lang/Object", "getClass", "()Ljava/lang/Class;"⟩, Cond.selects "[Ljava/lang/Object;" ⟨"java/lang/Object", "getClass", "()Ljava/lang/Class;"⟩ ⟨"java/lang/Object", "getClass", "()Ljava/lang/Class;"⟩, Cond.instanceMethod ⟨"java/lang/Object", "getClass", "()Ljava/lang/Class;"⟩, Cond.native ⟨"java/lang/Object", "getClass", "()Ljava/lang/Class;"⟩, Cond.methodLink RJ7 300 yJ7_copyOf_6403c, Cond.static yJ7_copyOf_6403c, Cond.code yJ7_copyOf_6403c cJ7_copyOf_6403c 4 (some (.array (.object "java/lang/Object"))), Cond.classLink RJ7 110 "[Ljava/lang/Object;", Cond.classLink RJ7 2 "java/lang/Object", Cond.methodLink RJ7 304 Lib.Math.min.name, Cond.static Lib.Math.min.name, Cond.code Lib.Math.min.name Lib.Math.min.code 2 (some .int), Cond.methodLink RJ7 150 arraycopyName, Cond.native arraycopyName]
def wsL_lot_r5 : List Cond := [Cond.static arraycopyName, Cond.initialized "java/lang/System"]
def wsL_lot : List Cond := .codeWith yL_lot cL_lot 6 (some .int) [(0, 12, 15, 13), (0, 12, 19, 15), (0, 12, 23, 17)] :: ((wsL_lot_r1 ++ (wsL_lot_r2 ++ (wsL_lot_r3 ++ (wsL_lot_r4 ++ wsL_lot_r5)))) ++ wsX50 ++ wsX10 ++ wsJx4a65c0 ++ (vx_atS RX5 73 "java/lang/IllegalStateException" ["java/lang/RuntimeException", "java/lang/Exception"]).filter goodWord ++ (vx_atS RX5 223 "java/lang/IndexOutOfBoundsException" ["java/lang/RuntimeException", "java/lang/Exception"]).filter goodWord ++ (vx_atS RX5 58 "java/lang/IllegalArgumentException" ["java/lang/RuntimeException", "java/lang/Exception"]).filter goodWord)
def wsL_swap_r1 : List Cond := [Cond.classLink RL 13 "java/lang/IndexOutOfBoundsException", Cond.classLink RL 17 "java/lang/IllegalStateException", Cond.methodLink RL 58 yX5_swap, Cond.instanceMethod yX5_swap, Cond.selects RX5 yX5_swap yX5_swap, Cond.initialized RX5, Cond.code yX5_swap cX5_swap 6 (some .int), Cond.classLink RX5 69 "java/lang/IllegalStateException", Cond.initialized "java/lang/IllegalStateException", Cond.fieldLink RX5 186 "Yarncourt$Lot" "person" "I", Cond.methodLink RX5 182 yX5_lotAt, Cond.instanceMethod yX5_lotAt, Cond.selects RX5 yX5_lotAt yX5_lotAt, Cond.code yX5_lotAt cX5_lotAt 2 (some (.object "Yarncourt$Lot")), Cond.classLink RX5 219 "java/lang/IndexOutOfBoundsException", Cond.initialized "java/lang/IndexOutOfBoundsException", Cond.fieldLink RX5 19 "Yarncourt" "lots" "Ljava/util/ArrayList;", Cond.classLink RX5 178 "Yarncourt$Lot", Cond.methodLink RX5 173 yJx4a65c_size_8abf5, Cond.instanceMethod yJx4a65c_size_8abf5, Cond.selects RJx4a65c yJx4a65c_size_8abf5 yJx4a65c_size_8abf5, Cond.initialized RJx4a65c, Cond.code yJx4a65c_size_8abf5 cJx4a65c_size_8abf5 1 (some .int), Cond.fieldLink RJx4a65c 48 "java/util/ArrayList" "size" "I"]
def wsL_swap_r2 : List Cond := [Cond.methodLink RX5 224 yJx4a65c_get_915e3, Cond.instanceMethod yJx4a65c_get_915e3, Cond.selects RJx4a65c yJx4a65c_get_915e3 yJx4a65c_get_915e3, Cond.code yJx4a65c_get_915e3 cJx4a65c_get_915e3 2 (some (.object "java/lang/Object")), Cond.methodLink RJx4a65c 118 yJ15_checkIndex_7cf53, Cond.static yJ15_checkIndex_7cf53, Cond.initialized RJ15, Cond.code yJ15_checkIndex_7cf53 cJ15_checkIndex_7cf53 2 (some .int), Cond.methodLink RJ15 105 yJ3_checkIndex_8e157, Cond.static yJ3_checkIndex_8e157, Cond.initialized RJ3, Cond.code yJ3_checkIndex_8e157 cJ3_checkIndex_8e157 3 (some .int), Cond.methodLink RJx4a65c 123 yJx4a65c_elementData_915e3, Cond.instanceMethod yJx4a65c_elementData_915e3, Cond.selects RJx4a65c yJx4a65c_elementData_915e3 yJx4a65c_elementData_915e3, Cond.code yJx4a65c_elementData_915e3 cJx4a65c_elementData_915e3 2 (some (.object "java/lang/Object")), Cond.fieldLink RJx4a65c 9 "java/util/ArrayList" "elementData" "[Ljava/lang/Object;"]
def wsL_swap : List Cond := .codeWith yL_swap cL_swap 5 (some .int) [(0, 10, 13, 13), (0, 10, 17, 17)] :: ((wsL_swap_r1 ++ wsL_swap_r2) ++ wsX10 ++ wsX50 ++ wsJx4a65c0 ++ (vx_atS RX5 73 "java/lang/IllegalStateException" ["java/lang/RuntimeException", "java/lang/Exception"]).filter goodWord ++ (vx_atS RX5 223 "java/lang/IndexOutOfBoundsException" ["java/lang/RuntimeException", "java/lang/Exception"]).filter goodWord)
def wsL_left_r1 : List Cond := [Cond.classLink RL 13 "java/lang/IndexOutOfBoundsException", Cond.methodLink RL 61 yX5_left, Cond.instanceMethod yX5_left, Cond.selects RX5 yX5_left yX5_left, Cond.initialized RX5, Cond.code yX5_left cX5_left 2 (some .int), Cond.fieldLink RX5 191 "Yarncourt$Lot" "yarn" "I", Cond.methodLink RX5 182 yX5_lotAt, Cond.instanceMethod yX5_lotAt, Cond.selects RX5 yX5_lotAt yX5_lotAt, Cond.code yX5_lotAt cX5_lotAt 2 (some (.object "Yarncourt$Lot")), Cond.classLink RX5 219 "java/lang/IndexOutOfBoundsException", Cond.initialized "java/lang/IndexOutOfBoundsException", Cond.fieldLink RX5 19 "Yarncourt" "lots" "Ljava/util/ArrayList;", Cond.classLink RX5 178 "Yarncourt$Lot", Cond.methodLink RX5 173 yJx4a65c_size_8abf5, Cond.instanceMethod yJx4a65c_size_8abf5, Cond.selects RJx4a65c yJx4a65c_size_8abf5 yJx4a65c_size_8abf5, Cond.initialized RJx4a65c, Cond.code yJx4a65c_size_8abf5 cJx4a65c_size_8abf5 1 (some .int), Cond.fieldLink RJx4a65c 48 "java/util/ArrayList" "size" "I", Cond.methodLink RX5 224 yJx4a65c_get_915e3, Cond.instanceMethod yJx4a65c_get_915e3, Cond.selects RJx4a65c yJx4a65c_get_915e3 yJx4a65c_get_915e3]
def wsL_left_r2 : List Cond := [Cond.code yJx4a65c_get_915e3 cJx4a65c_get_915e3 2 (some (.object "java/lang/Object")), Cond.methodLink RJx4a65c 118 yJ15_checkIndex_7cf53, Cond.static yJ15_checkIndex_7cf53, Cond.initialized RJ15, Cond.code yJ15_checkIndex_7cf53 cJ15_checkIndex_7cf53 2 (some .int), Cond.methodLink RJ15 105 yJ3_checkIndex_8e157, Cond.static yJ3_checkIndex_8e157, Cond.initialized RJ3, Cond.code yJ3_checkIndex_8e157 cJ3_checkIndex_8e157 3 (some .int), Cond.methodLink RJx4a65c 123 yJx4a65c_elementData_915e3, Cond.instanceMethod yJx4a65c_elementData_915e3, Cond.selects RJx4a65c yJx4a65c_elementData_915e3 yJx4a65c_elementData_915e3, Cond.code yJx4a65c_elementData_915e3 cJx4a65c_elementData_915e3 2 (some (.object "java/lang/Object")), Cond.fieldLink RJx4a65c 9 "java/util/ArrayList" "elementData" "[Ljava/lang/Object;"]
def wsL_left : List Cond := .codeWith yL_left cL_left 4 (some .int) [(0, 9, 12, 13)] :: ((wsL_left_r1 ++ wsL_left_r2) ++ wsX10 ++ wsX50 ++ wsJx4a65c0 ++ (vx_atS RX5 223 "java/lang/IndexOutOfBoundsException" ["java/lang/RuntimeException", "java/lang/Exception"]).filter goodWord)
def wsL_project_r1 : List Cond := [Cond.classLink RL 13 "java/lang/IndexOutOfBoundsException", Cond.classLink RL 17 "java/lang/IllegalStateException", Cond.methodLink RL 64 yX5_project, Cond.instanceMethod yX5_project, Cond.selects RX5 yX5_project yX5_project, Cond.initialized RX5, Cond.code yX5_project cX5_project 7 (some .int), Cond.classLink RX5 69 "java/lang/IllegalStateException", Cond.initialized "java/lang/IllegalStateException", Cond.fieldLink RX5 22 "Yarncourt" "projects" "Ljava/util/ArrayList;", Cond.fieldLink RX5 186 "Yarncourt$Lot" "person" "I", Cond.classLink RX5 196 RX4, Cond.instantiable RX4 4, Cond.initialized RX4, Cond.methodLink RX5 29 yX5_checkPerson, Cond.static yX5_checkPerson, Cond.code yX5_checkPerson cX5_checkPerson 1 none, Cond.classLink RX5 219 "java/lang/IndexOutOfBoundsException", Cond.initialized "java/lang/IndexOutOfBoundsException", Cond.methodLink RX5 50 yX5_patternAt, Cond.instanceMethod yX5_patternAt, Cond.selects RX5 yX5_patternAt yX5_patternAt, Cond.code yX5_patternAt cX5_patternAt 2 (some (.object "Yarncourt$Pattern")), Cond.fieldLink RX5 10 "Yarncourt" "patterns" "Ljava/util/ArrayList;"]
def wsL_project_r2 : List Cond := [Cond.classLink RX5 45 "Yarncourt$Pattern", Cond.methodLink RX5 173 yJx4a65c_size_8abf5, Cond.instanceMethod yJx4a65c_size_8abf5, Cond.selects RJx4a65c yJx4a65c_size_8abf5 yJx4a65c_size_8abf5, Cond.initialized RJx4a65c, Cond.code yJx4a65c_size_8abf5 cJx4a65c_size_8abf5 1 (some .int), Cond.fieldLink RJx4a65c 48 "java/util/ArrayList" "size" "I", Cond.methodLink RX5 224 yJx4a65c_get_915e3, Cond.instanceMethod yJx4a65c_get_915e3, Cond.selects RJx4a65c yJx4a65c_get_915e3 yJx4a65c_get_915e3, Cond.code yJx4a65c_get_915e3 cJx4a65c_get_915e3 2 (some (.object "java/lang/Object")), Cond.methodLink RJx4a65c 118 yJ15_checkIndex_7cf53, Cond.static yJ15_checkIndex_7cf53, Cond.initialized RJ15, Cond.code yJ15_checkIndex_7cf53 cJ15_checkIndex_7cf53 2 (some .int), Cond.methodLink RJ15 105 yJ3_checkIndex_8e157, Cond.static yJ3_checkIndex_8e157, Cond.initialized RJ3, Cond.code yJ3_checkIndex_8e157 cJ3_checkIndex_8e157 3 (some .int), Cond.methodLink RJx4a65c 123 yJx4a65c_elementData_915e3, Cond.instanceMethod yJx4a65c_elementData_915e3, Cond.selects RJx4a65c yJx4a65c_elementData_915e3 yJx4a65c_elementData_915e3, Cond.code yJx4a65c_elementData_915e3 cJx4a65c_elementData_915e3 2 (some (.object "java/lang/Object")), Cond.fieldLink RJx4a65c 9 "java/util/ArrayList" "elementData" "[Ljava/lang/Object;"]
def wsL_project_r3 : List Cond := [Cond.methodLink RX5 182 yX5_lotAt, Cond.instanceMethod yX5_lotAt, Cond.selects RX5 yX5_lotAt yX5_lotAt, Cond.code yX5_lotAt cX5_lotAt 2 (some (.object "Yarncourt$Lot")), Cond.fieldLink RX5 19 "Yarncourt" "lots" "Ljava/util/ArrayList;", Cond.classLink RX5 178 "Yarncourt$Lot", Cond.methodLink RX5 61 yX2_isPublished, Cond.instanceMethod yX2_isPublished, Cond.selects RX2 yX2_isPublished yX2_isPublished, Cond.initialized RX2, Cond.code yX2_isPublished cX2_isPublished 1 (some .boolean), Cond.fieldLink RX2 15 "Yarncourt$Pattern" "original" "LYarncourt$Pattern;", Cond.methodLink RX5 158 yX2_mayBeKnittedBy, Cond.instanceMethod yX2_mayBeKnittedBy, Cond.selects RX2 yX2_mayBeKnittedBy yX2_mayBeKnittedBy, Cond.code yX2_mayBeKnittedBy cX2_mayBeKnittedBy 2 (some .boolean), Cond.fieldLink RX2 30 "Yarncourt$Pattern" "owner" "I", Cond.fieldLink RX2 9 "Yarncourt$Pattern" "boughtBy" "[Z", Cond.methodLink RX5 198 yX4_init, Cond.instanceMethod yX4_init, Cond.code yX4_init cX4_init 4 none, Cond.methodLink RX4 1 objectInit, Cond.instanceMethod objectInit, Cond.code objectInit ⟨#[0xb1]⟩ 1 none]
def wsL_project_r4 : List Cond := [Cond.fieldLink RX4 7 "Yarncourt$Project" "knitted" "I", Cond.fieldLink RX4 13 "Yarncourt$Project" "person" "I", Cond.fieldLink RX4 16 "Yarncourt$Project" "pattern" "LYarncourt$Pattern;", Cond.fieldLink RX4 20 "Yarncourt$Project" "lot" "LYarncourt$Lot;", Cond.methodLink RX5 136 yJx4a65c_add_9ea2d, Cond.instanceMethod yJx4a65c_add_9ea2d, Cond.selects RJx4a65c yJx4a65c_add_9ea2d yJx4a65c_add_9ea2d, Cond.code yJx4a65c_add_9ea2d cJx4a65c_add_9ea2d 2 (some .boolean), Cond.fieldLink RJx4a65c 63 "java/util/ArrayList" "modCount" "I", Cond.sameField "java/util/ArrayList" "java/util/AbstractList" "modCount" "I", Cond.methodLink RJx4a65c 131 yJx4a65c_add_72be8, Cond.instanceMethod yJx4a65c_add_72be8, Cond.selects RJx4a65c yJx4a65c_add_72be8 yJx4a65c_add_72be8, Cond.code yJx4a65c_add_72be8 cJx4a65c_add_72be8 4 none, Cond.methodLink RJx4a65c 129 yJx4a65c_grow_d5877, Cond.instanceMethod yJx4a65c_grow_d5877, Cond.selects RJx4a65c yJx4a65c_grow_d5877 yJx4a65c_grow_d5877, Cond.code yJx4a65c_grow_d5877 cJx4a65c_grow_d5877 1 (some (.array (.object "java/lang/Object"))), Cond.methodLink RJx4a65c 69 yJx4a65c_grow_92f84, Cond.instanceMethod yJx4a65c_grow_92f84, Cond.selects RJx4a65c yJx4a65c_grow_92f84 yJx4a65c_grow_92f84, Cond.code yJx4a65c_grow_92f84 cJx4a65c_grow_92f84 4 (some (.array (.object "java/lang/Object"))), Cond.fieldLink RJx4a65c 39 "java/util/ArrayList" "DEFAULTCAPACITY_EMPTY_ELEMENTDATA" "[Ljava/lang/Object;", Cond.methodLink RJx4a65c 79 Lib.Math.max.name]
def wsL_project_r5 : List Cond := [Cond.static Lib.Math.max.name, Cond.initialized "java/lang/Math", Cond.code Lib.Math.max.name Lib.Math.max.code 2 (some .int), Cond.classLink RJx4a65c 7 "java/lang/Object", Cond.methodLink RJx4a65c 73 yJ8_newLength_cabcc, Cond.static yJ8_newLength_cabcc, Cond.initialized RJ8, Cond.code yJ8_newLength_cabcc cJ8_newLength_cabcc 4 (some .int), Cond.methodLink RJ8 194 Lib.Math.max.name, Cond.constant RJ8 200 (2147483639), Cond.methodLink RJ8 201 yJ8_hugeLength_7cf53, Cond.static yJ8_hugeLength_7cf53, Cond.code yJ8_hugeLength_7cf53 cJ8_hugeLength_7cf53 3 (some .int), Cond.methodLink RJx4a65c 66 yJ7_copyOf_1904c, Cond.static yJ7_copyOf_1904c, Cond.initialized RJ7, Cond.code yJ7_copyOf_1904c cJ7_copyOf_1904c 2 (some (.array (.object "java/lang/Object"))), Cond.methodLink RJ7 86 ⟨"java/lang/Object", "getClass", "()Ljava/lang/Class;"⟩, Cond.selects "[Ljava/lang/Object;" ⟨"java/lang/Object", "getClass", "()Ljava/lang/Class;"⟩ ⟨"java/lang/Object", "getClass", "()Ljava/lang/Class;"⟩, Cond.instanceMethod ⟨"java/lang/Object", "getClass", "()Ljava/lang/Class;"⟩, Cond.native ⟨"java/lang/Object", "getClass", "()Ljava/lang/Class;"⟩, Cond.methodLink RJ7 300 yJ7_copyOf_6403c, Cond.static yJ7_copyOf_6403c, Cond.code yJ7_copyOf_6403c cJ7_copyOf_6403c 4 (some (.array (.object "java/lang/Object")))]
def wsL_project_r6 : List Cond := [Cond.classLink RJ7 110 "[Ljava/lang/Object;", Cond.classLink RJ7 2 "java/lang/Object", Cond.methodLink RJ7 304 Lib.Math.min.name, Cond.static Lib.Math.min.name, Cond.code Lib.Math.min.name Lib.Math.min.code 2 (some .int), Cond.methodLink RJ7 150 arraycopyName, Cond.native arraycopyName, Cond.static arraycopyName, Cond.initialized "java/lang/System"]
def wsL_project : List Cond := .codeWith yL_project cL_project 6 (some .int) [(0, 12, 15, 13), (0, 12, 19, 17)] :: ((wsL_project_r1 ++ (wsL_project_r2 ++ (wsL_project_r3 ++ (wsL_project_r4 ++ (wsL_project_r5 ++ wsL_project_r6))))) ++ wsX50 ++ wsX10 ++ wsX40 ++ wsJx4a65c0 ++ wsX20 ++ (vx_atS RX5 73 "java/lang/IllegalStateException" ["java/lang/RuntimeException", "java/lang/Exception"]).filter goodWord ++ (vx_atS RX5 223 "java/lang/IndexOutOfBoundsException" ["java/lang/RuntimeException", "java/lang/Exception"]).filter goodWord)
def wsL_take_r1 : List Cond := [Cond.classLink RL 13 "java/lang/IndexOutOfBoundsException", Cond.classLink RL 17 "java/lang/IllegalStateException", Cond.methodLink RL 67 yX5_take, Cond.instanceMethod yX5_take, Cond.selects RX5 yX5_take yX5_take, Cond.initialized RX5, Cond.code yX5_take cX5_take 6 (some .int), Cond.classLink RX5 69 "java/lang/IllegalStateException", Cond.initialized "java/lang/IllegalStateException", Cond.fieldLink RX5 186 "Yarncourt$Lot" "person" "I", Cond.fieldLink RX5 205 "Yarncourt$Project" "person" "I", Cond.fieldLink RX5 208 "Yarncourt$Project" "lot" "LYarncourt$Lot;", Cond.fieldLink RX5 212 "Yarncourt$Lot" "number" "I", Cond.methodLink RX5 201 yX5_projectAt, Cond.instanceMethod yX5_projectAt, Cond.selects RX5 yX5_projectAt yX5_projectAt, Cond.code yX5_projectAt cX5_projectAt 2 (some (.object "Yarncourt$Project")), Cond.classLink RX5 219 "java/lang/IndexOutOfBoundsException", Cond.initialized "java/lang/IndexOutOfBoundsException", Cond.fieldLink RX5 22 "Yarncourt" "projects" "Ljava/util/ArrayList;", Cond.classLink RX5 196 "Yarncourt$Project", Cond.methodLink RX5 173 yJx4a65c_size_8abf5, Cond.instanceMethod yJx4a65c_size_8abf5, Cond.selects RJx4a65c yJx4a65c_size_8abf5 yJx4a65c_size_8abf5]
def wsL_take_r2 : List Cond := [Cond.initialized RJx4a65c, Cond.code yJx4a65c_size_8abf5 cJx4a65c_size_8abf5 1 (some .int), Cond.fieldLink RJx4a65c 48 "java/util/ArrayList" "size" "I", Cond.methodLink RX5 224 yJx4a65c_get_915e3, Cond.instanceMethod yJx4a65c_get_915e3, Cond.selects RJx4a65c yJx4a65c_get_915e3 yJx4a65c_get_915e3, Cond.code yJx4a65c_get_915e3 cJx4a65c_get_915e3 2 (some (.object "java/lang/Object")), Cond.methodLink RJx4a65c 118 yJ15_checkIndex_7cf53, Cond.static yJ15_checkIndex_7cf53, Cond.initialized RJ15, Cond.code yJ15_checkIndex_7cf53 cJ15_checkIndex_7cf53 2 (some .int), Cond.methodLink RJ15 105 yJ3_checkIndex_8e157, Cond.static yJ3_checkIndex_8e157, Cond.initialized RJ3, Cond.code yJ3_checkIndex_8e157 cJ3_checkIndex_8e157 3 (some .int), Cond.methodLink RJx4a65c 123 yJx4a65c_elementData_915e3, Cond.instanceMethod yJx4a65c_elementData_915e3, Cond.selects RJx4a65c yJx4a65c_elementData_915e3 yJx4a65c_elementData_915e3, Cond.code yJx4a65c_elementData_915e3 cJx4a65c_elementData_915e3 2 (some (.object "java/lang/Object")), Cond.fieldLink RJx4a65c 9 "java/util/ArrayList" "elementData" "[Ljava/lang/Object;", Cond.methodLink RX5 182 yX5_lotAt, Cond.instanceMethod yX5_lotAt, Cond.selects RX5 yX5_lotAt yX5_lotAt, Cond.code yX5_lotAt cX5_lotAt 2 (some (.object "Yarncourt$Lot"))]
def wsL_take_r3 : List Cond := [Cond.fieldLink RX5 19 "Yarncourt" "lots" "Ljava/util/ArrayList;", Cond.classLink RX5 178 "Yarncourt$Lot"]
def wsL_take : List Cond := .codeWith yL_take cL_take 5 (some .int) [(0, 10, 13, 13), (0, 10, 17, 17)] :: ((wsL_take_r1 ++ (wsL_take_r2 ++ wsL_take_r3)) ++ wsX10 ++ wsX40 ++ wsX50 ++ wsJx4a65c0 ++ (vx_atS RX5 73 "java/lang/IllegalStateException" ["java/lang/RuntimeException", "java/lang/Exception"]).filter goodWord ++ (vx_atS RX5 223 "java/lang/IndexOutOfBoundsException" ["java/lang/RuntimeException", "java/lang/Exception"]).filter goodWord)
def wsL_knit_r1 : List Cond := [Cond.classLink RL 13 "java/lang/IndexOutOfBoundsException", Cond.classLink RL 15 "java/lang/IllegalArgumentException", Cond.methodLink RL 70 yX5_knit, Cond.instanceMethod yX5_knit, Cond.selects RX5 yX5_knit yX5_knit, Cond.initialized RX5, Cond.code yX5_knit cX5_knit 4 (some .int), Cond.methodLink RX5 201 yX5_projectAt, Cond.instanceMethod yX5_projectAt, Cond.selects RX5 yX5_projectAt yX5_projectAt, Cond.code yX5_projectAt cX5_projectAt 2 (some (.object "Yarncourt$Project")), Cond.classLink RX5 219 "java/lang/IndexOutOfBoundsException", Cond.initialized "java/lang/IndexOutOfBoundsException", Cond.fieldLink RX5 22 "Yarncourt" "projects" "Ljava/util/ArrayList;", Cond.classLink RX5 196 "Yarncourt$Project", Cond.methodLink RX5 173 yJx4a65c_size_8abf5, Cond.instanceMethod yJx4a65c_size_8abf5, Cond.selects RJx4a65c yJx4a65c_size_8abf5 yJx4a65c_size_8abf5, Cond.initialized RJx4a65c, Cond.code yJx4a65c_size_8abf5 cJx4a65c_size_8abf5 1 (some .int), Cond.fieldLink RJx4a65c 48 "java/util/ArrayList" "size" "I", Cond.methodLink RX5 224 yJx4a65c_get_915e3, Cond.instanceMethod yJx4a65c_get_915e3, Cond.selects RJx4a65c yJx4a65c_get_915e3 yJx4a65c_get_915e3]
def wsL_knit_r2 : List Cond := [Cond.code yJx4a65c_get_915e3 cJx4a65c_get_915e3 2 (some (.object "java/lang/Object")), Cond.methodLink RJx4a65c 118 yJ15_checkIndex_7cf53, Cond.static yJ15_checkIndex_7cf53, Cond.initialized RJ15, Cond.code yJ15_checkIndex_7cf53 cJ15_checkIndex_7cf53 2 (some .int), Cond.methodLink RJ15 105 yJ3_checkIndex_8e157, Cond.static yJ3_checkIndex_8e157, Cond.initialized RJ3, Cond.code yJ3_checkIndex_8e157 cJ3_checkIndex_8e157 3 (some .int), Cond.methodLink RJx4a65c 123 yJx4a65c_elementData_915e3, Cond.instanceMethod yJx4a65c_elementData_915e3, Cond.selects RJx4a65c yJx4a65c_elementData_915e3 yJx4a65c_elementData_915e3, Cond.code yJx4a65c_elementData_915e3 cJx4a65c_elementData_915e3 2 (some (.object "java/lang/Object")), Cond.fieldLink RJx4a65c 9 "java/util/ArrayList" "elementData" "[Ljava/lang/Object;", Cond.methodLink RX5 33 yX5_checkRange, Cond.static yX5_checkRange, Cond.code yX5_checkRange cX5_checkRange 3 none, Cond.classLink RX5 54 "java/lang/IllegalArgumentException", Cond.initialized "java/lang/IllegalArgumentException", Cond.methodLink RX5 213 yX4_knitUpTo, Cond.instanceMethod yX4_knitUpTo, Cond.selects RX4 yX4_knitUpTo yX4_knitUpTo, Cond.initialized RX4, Cond.code yX4_knitUpTo cX4_knitUpTo 3 (some .int)]
def wsL_knit_r3 : List Cond := [Cond.fieldLink RX4 20 "Yarncourt$Project" "lot" "LYarncourt$Lot;", Cond.fieldLink RX4 28 "Yarncourt$Lot" "yarn" "I", Cond.fieldLink RX4 7 "Yarncourt$Project" "knitted" "I", Cond.methodLink RX4 24 yX4_canKnitRow, Cond.instanceMethod yX4_canKnitRow, Cond.selects RX4 yX4_canKnitRow yX4_canKnitRow, Cond.code yX4_canKnitRow cX4_canKnitRow 1 (some .boolean), Cond.fieldLink RX4 16 "Yarncourt$Project" "pattern" "LYarncourt$Pattern;", Cond.fieldLink RX4 37 "Yarncourt$Pattern" "chart" "LYarncourt$Chart;", Cond.fieldLink RX4 43 "Yarncourt$Chart" "rowCount" "I", Cond.fieldLink RX4 48 "Yarncourt$Lot" "person" "I", Cond.fieldLink RX4 13 "Yarncourt$Project" "person" "I", Cond.methodLink RX4 33 yX4_yarnOfNextRow, Cond.instanceMethod yX4_yarnOfNextRow, Cond.selects RX4 yX4_yarnOfNextRow yX4_yarnOfNextRow, Cond.code yX4_yarnOfNextRow cX4_yarnOfNextRow 1 (some .int), Cond.fieldLink RX4 49 "Yarncourt$Lot" "gauge" "I", Cond.methodLink RX4 52 yX0_yarnOf, Cond.instanceMethod yX0_yarnOf, Cond.selects RX0 yX0_yarnOf yX0_yarnOf, Cond.initialized RX0, Cond.code yX0_yarnOf cX0_yarnOf 2 (some .int), Cond.fieldLink RX0 19 "Yarncourt$Chart" "yarnOfRow" "[I"]
def wsL_knit : List Cond := .codeWith yL_knit cL_knit 5 (some .int) [(0, 10, 13, 13), (0, 10, 17, 15)] :: ((wsL_knit_r1 ++ (wsL_knit_r2 ++ wsL_knit_r3)) ++ wsX50 ++ wsJx4a65c0 ++ wsX40 ++ wsX10 ++ wsX20 ++ wsX00 ++ (vx_atS RX5 223 "java/lang/IndexOutOfBoundsException" ["java/lang/RuntimeException", "java/lang/Exception"]).filter goodWord ++ (vx_atS RX5 58 "java/lang/IllegalArgumentException" ["java/lang/RuntimeException", "java/lang/Exception"]).filter goodWord)
def wsL_progress_r1 : List Cond := [Cond.classLink RL 13 "java/lang/IndexOutOfBoundsException", Cond.methodLink RL 73 yX5_progress, Cond.instanceMethod yX5_progress, Cond.selects RX5 yX5_progress yX5_progress, Cond.initialized RX5, Cond.code yX5_progress cX5_progress 2 (some .int), Cond.fieldLink RX5 216 "Yarncourt$Project" "knitted" "I", Cond.methodLink RX5 201 yX5_projectAt, Cond.instanceMethod yX5_projectAt, Cond.selects RX5 yX5_projectAt yX5_projectAt, Cond.code yX5_projectAt cX5_projectAt 2 (some (.object "Yarncourt$Project")), Cond.classLink RX5 219 "java/lang/IndexOutOfBoundsException", Cond.initialized "java/lang/IndexOutOfBoundsException", Cond.fieldLink RX5 22 "Yarncourt" "projects" "Ljava/util/ArrayList;", Cond.classLink RX5 196 "Yarncourt$Project", Cond.methodLink RX5 173 yJx4a65c_size_8abf5, Cond.instanceMethod yJx4a65c_size_8abf5, Cond.selects RJx4a65c yJx4a65c_size_8abf5 yJx4a65c_size_8abf5, Cond.initialized RJx4a65c, Cond.code yJx4a65c_size_8abf5 cJx4a65c_size_8abf5 1 (some .int), Cond.fieldLink RJx4a65c 48 "java/util/ArrayList" "size" "I", Cond.methodLink RX5 224 yJx4a65c_get_915e3, Cond.instanceMethod yJx4a65c_get_915e3, Cond.selects RJx4a65c yJx4a65c_get_915e3 yJx4a65c_get_915e3]
def wsL_progress_r2 : List Cond := [Cond.code yJx4a65c_get_915e3 cJx4a65c_get_915e3 2 (some (.object "java/lang/Object")), Cond.methodLink RJx4a65c 118 yJ15_checkIndex_7cf53, Cond.static yJ15_checkIndex_7cf53, Cond.initialized RJ15, Cond.code yJ15_checkIndex_7cf53 cJ15_checkIndex_7cf53 2 (some .int), Cond.methodLink RJ15 105 yJ3_checkIndex_8e157, Cond.static yJ3_checkIndex_8e157, Cond.initialized RJ3, Cond.code yJ3_checkIndex_8e157 cJ3_checkIndex_8e157 3 (some .int), Cond.methodLink RJx4a65c 123 yJx4a65c_elementData_915e3, Cond.instanceMethod yJx4a65c_elementData_915e3, Cond.selects RJx4a65c yJx4a65c_elementData_915e3 yJx4a65c_elementData_915e3, Cond.code yJx4a65c_elementData_915e3 cJx4a65c_elementData_915e3 2 (some (.object "java/lang/Object")), Cond.fieldLink RJx4a65c 9 "java/util/ArrayList" "elementData" "[Ljava/lang/Object;"]
def wsL_progress : List Cond := .codeWith yL_progress cL_progress 4 (some .int) [(0, 9, 12, 13)] :: ((wsL_progress_r1 ++ wsL_progress_r2) ++ wsX40 ++ wsX50 ++ wsJx4a65c0 ++ (vx_atS RX5 223 "java/lang/IndexOutOfBoundsException" ["java/lang/RuntimeException", "java/lang/Exception"]).filter goodWord)
def wsL_law0_r1 : List Cond := [Cond.classLink RL 8 RX5, Cond.instantiable RX5 5, Cond.initialized RX5, Cond.classLink RL 77 RX6, Cond.instantiable RX6 26, Cond.initialized RX6, Cond.arrayClass .long, Cond.methodLink RL 76 yX5_init, Cond.instanceMethod yX5_init, Cond.code yX5_init cX5_init 1 none, Cond.methodLink RX5 1 objectInit, Cond.instanceMethod objectInit, Cond.code objectInit ⟨#[0xb1]⟩ 1 none, Cond.classLink RX5 7 RJx4a65c, Cond.instantiable RJx4a65c 3, Cond.initialized RJx4a65c, Cond.fieldLink RX5 10 "Yarncourt" "patterns" "Ljava/util/ArrayList;", Cond.fieldLink RX5 16 "Yarncourt" "inOrderOfPublishing" "Ljava/util/ArrayList;", Cond.fieldLink RX5 19 "Yarncourt" "lots" "Ljava/util/ArrayList;", Cond.fieldLink RX5 22 "Yarncourt" "projects" "Ljava/util/ArrayList;", Cond.arrayClass .int, Cond.fieldLink RX5 25 "Yarncourt" "purses" "[I", Cond.methodLink RX5 9 yJx4a65c_init_da8c8, Cond.instanceMethod yJx4a65c_init_da8c8]
def wsL_law0_r2 : List Cond := [Cond.code yJx4a65c_init_da8c8 cJx4a65c_init_da8c8 1 none, Cond.fieldLink RJx4a65c 39 "java/util/ArrayList" "DEFAULTCAPACITY_EMPTY_ELEMENTDATA" "[Ljava/lang/Object;", Cond.fieldLink RJx4a65c 9 "java/util/ArrayList" "elementData" "[Ljava/lang/Object;", Cond.methodLink RJx4a65c 1 yJxc12de_init_da8c8, Cond.instanceMethod yJxc12de_init_da8c8, Cond.initialized RJxc12de, Cond.code yJxc12de_init_da8c8 cJxc12de_init_da8c8 1 none, Cond.fieldLink RJxc12de 7 "java/util/AbstractList" "modCount" "I", Cond.methodLink RJxc12de 1 yJxa1e45_init_da8c8, Cond.instanceMethod yJxa1e45_init_da8c8, Cond.initialized RJxa1e45, Cond.code yJxa1e45_init_da8c8 cJxa1e45_init_da8c8 1 none, Cond.methodLink RJxa1e45 1 objectInit, Cond.methodLink RL 79 yX6_init, Cond.instanceMethod yX6_init, Cond.code yX6_init cX6_init 1 none, Cond.methodLink RX6 1 objectInit, Cond.fieldLink RX6 7 "YarncourtModel" "owners" "[I", Cond.fieldLink RX6 13 "YarncourtModel" "widths" "[I", Cond.fieldLink RX6 16 "YarncourtModel" "prices" "[I", Cond.fieldLink RX6 19 "YarncourtModel" "lines" "[I", Cond.fieldLink RX6 22 "YarncourtModel" "knits" "[I", Cond.fieldLink RX6 25 "YarncourtModel" "purls" "[I", Cond.fieldLink RX6 28 "YarncourtModel" "shapings" "[I"]
def wsL_law0_r3 : List Cond := [Cond.fieldLink RX6 31 "YarncourtModel" "times" "[I", Cond.fieldLink RX6 34 "YarncourtModel" "orders" "[I", Cond.arrayClass .boolean, Cond.fieldLink RX6 37 "YarncourtModel" "isBarred" "[Z", Cond.fieldLink RX6 41 "YarncourtModel" "buyers" "[I", Cond.fieldLink RX6 44 "YarncourtModel" "moneys" "[I", Cond.fieldLink RX6 47 "YarncourtModel" "holders" "[I", Cond.fieldLink RX6 50 "YarncourtModel" "gauges" "[I", Cond.fieldLink RX6 53 "YarncourtModel" "yarns" "[I", Cond.fieldLink RX6 56 "YarncourtModel" "knitters" "[I", Cond.fieldLink RX6 59 "YarncourtModel" "projectPatterns" "[I", Cond.fieldLink RX6 62 "YarncourtModel" "projectLots" "[I", Cond.fieldLink RX6 65 "YarncourtModel" "done" "[I", Cond.methodLink RL 80 yL_begin, Cond.static yL_begin, Cond.initialized RL, Cond.codeWith yL_begin cL_begin 6 (some .int) [(0, 12, 15, 13), (0, 12, 19, 15), (0, 12, 23, 17)], Cond.classLink RL 13 "java/lang/IndexOutOfBoundsException", Cond.classLink RL 15 "java/lang/IllegalArgumentException", Cond.classLink RL 17 "java/lang/IllegalStateException", Cond.methodLink RL 7 yX5_begin, Cond.instanceMethod yX5_begin, Cond.selects RX5 yX5_begin yX5_begin, Cond.code yX5_begin cX5_begin 4 (some .int)]
def wsL_law0_r4 : List Cond := [Cond.fieldLink RX5 44 "Yarncourt$Pattern" "number" "I", Cond.methodLink RX5 29 yX5_checkPerson, Cond.static yX5_checkPerson, Cond.code yX5_checkPerson cX5_checkPerson 1 none, Cond.classLink RX5 219 "java/lang/IndexOutOfBoundsException", Cond.initialized "java/lang/IndexOutOfBoundsException", Cond.methodLink RX5 33 yX5_checkRange, Cond.static yX5_checkRange, Cond.code yX5_checkRange cX5_checkRange 3 none, Cond.classLink RX5 54 "java/lang/IllegalArgumentException", Cond.initialized "java/lang/IllegalArgumentException", Cond.methodLink RX5 37 yX5_checkRoomForPattern, Cond.instanceMethod yX5_checkRoomForPattern, Cond.selects RX5 yX5_checkRoomForPattern yX5_checkRoomForPattern, Cond.code yX5_checkRoomForPattern cX5_checkRoomForPattern 1 none, Cond.classLink RX5 69 "java/lang/IllegalStateException", Cond.initialized "java/lang/IllegalStateException", Cond.methodLink RX5 173 yJx4a65c_size_8abf5, Cond.instanceMethod yJx4a65c_size_8abf5, Cond.selects RJx4a65c yJx4a65c_size_8abf5 yJx4a65c_size_8abf5, Cond.code yJx4a65c_size_8abf5 cJx4a65c_size_8abf5 1 (some .int), Cond.fieldLink RJx4a65c 48 "java/util/ArrayList" "size" "I", Cond.methodLink RX5 40 yX5_addPattern, Cond.instanceMethod yX5_addPattern]
def wsL_law0_r5 : List Cond := [Cond.selects RX5 yX5_addPattern yX5_addPattern, Cond.code yX5_addPattern cX5_addPattern 5 (some (.object "Yarncourt$Pattern")), Cond.classLink RX5 45 RX2, Cond.instantiable RX2 9, Cond.initialized RX2, Cond.methodLink RX5 234 yX2_init, Cond.instanceMethod yX2_init, Cond.code yX2_init cX2_init 5 none, Cond.methodLink RX2 3 objectInit, Cond.fieldLink RX2 9 "Yarncourt$Pattern" "boughtBy" "[Z", Cond.fieldLink RX2 15 "Yarncourt$Pattern" "original" "LYarncourt$Pattern;", Cond.fieldLink RX2 19 "Yarncourt$Pattern" "takings" "I", Cond.fieldLink RX2 23 "Yarncourt$Pattern" "barred" "Z", Cond.fieldLink RX2 27 "Yarncourt$Pattern" "number" "I", Cond.fieldLink RX2 30 "Yarncourt$Pattern" "owner" "I", Cond.fieldLink RX2 33 "Yarncourt$Pattern" "price" "I", Cond.classLink RX2 36 RX3, Cond.instantiable RX3 6, Cond.initialized RX3, Cond.fieldLink RX2 41 "Yarncourt$Pattern" "program" "LYarncourt$Program;", Cond.classLink RX2 45 RX0, Cond.instantiable RX0 4, Cond.initialized RX0, Cond.fieldLink RX2 48 "Yarncourt$Pattern" "chart" "LYarncourt$Chart;"]
def wsL_law0_r6 : List Cond := [Cond.methodLink RX2 38 yX3_init, Cond.instanceMethod yX3_init, Cond.code yX3_init cX3_init 2 none, Cond.methodLink RX3 3 objectInit, Cond.fieldLink RX3 9 "Yarncourt$Program" "knits" "[I", Cond.fieldLink RX3 15 "Yarncourt$Program" "purls" "[I", Cond.fieldLink RX3 18 "Yarncourt$Program" "shaping" "[I", Cond.fieldLink RX3 21 "Yarncourt$Program" "times" "[I", Cond.fieldLink RX3 24 "Yarncourt$Program" "lineCount" "I", Cond.fieldLink RX3 28 "Yarncourt$Program" "firstWidth" "I", Cond.methodLink RX2 47 yX0_init, Cond.instanceMethod yX0_init, Cond.code yX0_init cX0_init 2 none, Cond.methodLink RX0 3 objectInit, Cond.fieldLink RX0 9 "Yarncourt$Chart" "rowCount" "I", Cond.fieldLink RX0 15 "Yarncourt$Chart" "stitches" "[I", Cond.fieldLink RX0 19 "Yarncourt$Chart" "yarnOfRow" "[I", Cond.fieldLink RX0 22 "Yarncourt$Chart" "nextWidth" "I", Cond.methodLink RX5 136 yJx4a65c_add_9ea2d, Cond.instanceMethod yJx4a65c_add_9ea2d, Cond.selects RJx4a65c yJx4a65c_add_9ea2d yJx4a65c_add_9ea2d, Cond.code yJx4a65c_add_9ea2d cJx4a65c_add_9ea2d 2 (some .boolean), Cond.fieldLink RJx4a65c 63 "java/util/ArrayList" "modCount" "I", Cond.sameField "java/util/ArrayList" "java/util/AbstractList" "modCount" "I"]
def wsL_law0_r7 : List Cond := [Cond.methodLink RJx4a65c 131 yJx4a65c_add_72be8, Cond.instanceMethod yJx4a65c_add_72be8, Cond.selects RJx4a65c yJx4a65c_add_72be8 yJx4a65c_add_72be8, Cond.code yJx4a65c_add_72be8 cJx4a65c_add_72be8 4 none, Cond.methodLink RJx4a65c 129 yJx4a65c_grow_d5877, Cond.instanceMethod yJx4a65c_grow_d5877, Cond.selects RJx4a65c yJx4a65c_grow_d5877 yJx4a65c_grow_d5877, Cond.code yJx4a65c_grow_d5877 cJx4a65c_grow_d5877 1 (some (.array (.object "java/lang/Object"))), Cond.methodLink RJx4a65c 69 yJx4a65c_grow_92f84, Cond.instanceMethod yJx4a65c_grow_92f84, Cond.selects RJx4a65c yJx4a65c_grow_92f84 yJx4a65c_grow_92f84, Cond.code yJx4a65c_grow_92f84 cJx4a65c_grow_92f84 4 (some (.array (.object "java/lang/Object"))), Cond.methodLink RJx4a65c 79 Lib.Math.max.name, Cond.static Lib.Math.max.name, Cond.initialized "java/lang/Math", Cond.code Lib.Math.max.name Lib.Math.max.code 2 (some .int), Cond.classLink RJx4a65c 7 "java/lang/Object", Cond.methodLink RJx4a65c 73 yJ8_newLength_cabcc, Cond.static yJ8_newLength_cabcc, Cond.initialized RJ8, Cond.code yJ8_newLength_cabcc cJ8_newLength_cabcc 4 (some .int), Cond.methodLink RJ8 194 Lib.Math.max.name, Cond.constant RJ8 200 (2147483639), Cond.methodLink RJ8 201 yJ8_hugeLength_7cf53]
def wsL_law0_r8 : List Cond := [Cond.static yJ8_hugeLength_7cf53, Cond.code yJ8_hugeLength_7cf53 cJ8_hugeLength_7cf53 3 (some .int), Cond.methodLink RJx4a65c 66 yJ7_copyOf_1904c, Cond.static yJ7_copyOf_1904c, Cond.initialized RJ7, Cond.code yJ7_copyOf_1904c cJ7_copyOf_1904c 2 (some (.array (.object "java/lang/Object"))), Cond.methodLink RJ7 86 ⟨"java/lang/Object", "getClass", "()Ljava/lang/Class;"⟩, Cond.selects "[Ljava/lang/Object;" ⟨"java/lang/Object", "getClass", "()Ljava/lang/Class;"⟩ ⟨"java/lang/Object", "getClass", "()Ljava/lang/Class;"⟩, Cond.instanceMethod ⟨"java/lang/Object", "getClass", "()Ljava/lang/Class;"⟩, Cond.native ⟨"java/lang/Object", "getClass", "()Ljava/lang/Class;"⟩, Cond.methodLink RJ7 300 yJ7_copyOf_6403c, Cond.static yJ7_copyOf_6403c, Cond.code yJ7_copyOf_6403c cJ7_copyOf_6403c 4 (some (.array (.object "java/lang/Object"))), Cond.classLink RJ7 110 "[Ljava/lang/Object;", Cond.classLink RJ7 2 "java/lang/Object", Cond.methodLink RJ7 304 Lib.Math.min.name, Cond.static Lib.Math.min.name, Cond.code Lib.Math.min.name Lib.Math.min.code 2 (some .int), Cond.methodLink RJ7 150 arraycopyName, Cond.native arraycopyName, Cond.static arraycopyName, Cond.initialized "java/lang/System", Cond.methodLink RL 85 yX6_begin, Cond.instanceMethod yX6_begin]
def wsL_law0_r9 : List Cond := [Cond.selects RX6 yX6_begin yX6_begin, Cond.code yX6_begin cX6_begin 5 (some .int), Cond.fieldLink RX6 76 "YarncourtModel" "patterns" "I", Cond.methodLink RX6 72 yX6_in, Cond.static yX6_in, Cond.code yX6_in cX6_in 3 (some .boolean), Cond.methodLink RX6 85 yX6_isPerson, Cond.static yX6_isPerson, Cond.code yX6_isPerson cX6_isPerson 1 (some .boolean), Cond.methodLink RX6 89 yX6_refused, Cond.instanceMethod yX6_refused, Cond.selects RX6 yX6_refused yX6_refused, Cond.code yX6_refused cX6_refused 2 (some .boolean), Cond.fieldLink RX6 68 "YarncourtModel" "refusal" "I", Cond.methodLink RX6 92 yX6_added, Cond.instanceMethod yX6_added, Cond.selects RX6 yX6_added yX6_added, Cond.code yX6_added cX6_added 4 (some .int), Cond.methodLink RL 86 yX6_thrown, Cond.instanceMethod yX6_thrown, Cond.selects RX6 yX6_thrown yX6_thrown, Cond.code yX6_thrown cX6_thrown 1 (some .int), Cond.methodLink RL 90 yL_line, Cond.static yL_line]
def wsL_law0_r10 : List Cond := [Cond.codeWith yL_line cL_line 8 (some .int) [(0, 16, 19, 13), (0, 16, 23, 15), (0, 16, 27, 17)], Cond.methodLink RL 19 yX5_line, Cond.instanceMethod yX5_line, Cond.selects RX5 yX5_line yX5_line, Cond.code yX5_line cX5_line 7 (some .int), Cond.fieldLink RX5 78 "Yarncourt$Pattern" "chart" "LYarncourt$Chart;", Cond.fieldLink RX5 82 "Yarncourt$Chart" "rowCount" "I", Cond.methodLink RX5 50 yX5_patternAt, Cond.instanceMethod yX5_patternAt, Cond.selects RX5 yX5_patternAt yX5_patternAt, Cond.code yX5_patternAt cX5_patternAt 2 (some (.object "Yarncourt$Pattern")), Cond.classLink RX5 45 "Yarncourt$Pattern", Cond.methodLink RX5 224 yJx4a65c_get_915e3, Cond.instanceMethod yJx4a65c_get_915e3, Cond.selects RJx4a65c yJx4a65c_get_915e3 yJx4a65c_get_915e3, Cond.code yJx4a65c_get_915e3 cJx4a65c_get_915e3 2 (some (.object "java/lang/Object")), Cond.methodLink RJx4a65c 118 yJ15_checkIndex_7cf53, Cond.static yJ15_checkIndex_7cf53, Cond.initialized RJ15, Cond.code yJ15_checkIndex_7cf53 cJ15_checkIndex_7cf53 2 (some .int), Cond.methodLink RJ15 105 yJ3_checkIndex_8e157, Cond.static yJ3_checkIndex_8e157, Cond.initialized RJ3, Cond.code yJ3_checkIndex_8e157 cJ3_checkIndex_8e157 3 (some .int)]
def wsL_law0_r11 : List Cond := [Cond.methodLink RJx4a65c 123 yJx4a65c_elementData_915e3, Cond.instanceMethod yJx4a65c_elementData_915e3, Cond.selects RJx4a65c yJx4a65c_elementData_915e3 yJx4a65c_elementData_915e3, Cond.code yJx4a65c_elementData_915e3 cJx4a65c_elementData_915e3 2 (some (.object "java/lang/Object")), Cond.methodLink RX5 61 yX2_isPublished, Cond.instanceMethod yX2_isPublished, Cond.selects RX2 yX2_isPublished yX2_isPublished, Cond.code yX2_isPublished cX2_isPublished 1 (some .boolean), Cond.methodLink RX5 65 yX2_takesLine, Cond.instanceMethod yX2_takesLine, Cond.selects RX2 yX2_takesLine yX2_takesLine, Cond.code yX2_takesLine cX2_takesLine 2 (some .boolean), Cond.fieldLink RX2 55 "Yarncourt$Chart" "rowCount" "I", Cond.methodLink RX5 74 yX2_addLine, Cond.instanceMethod yX2_addLine, Cond.selects RX2 yX2_addLine yX2_addLine, Cond.code yX2_addLine cX2_addLine 5 none, Cond.methodLink RX2 58 yX3_append, Cond.instanceMethod yX3_append, Cond.selects RX3 yX3_append yX3_append, Cond.code yX3_append cX3_append 5 none, Cond.methodLink RX2 62 yX0_drawLine, Cond.instanceMethod yX0_drawLine, Cond.selects RX0 yX0_drawLine yX0_drawLine]
def wsL_law0_r12 : List Cond := [Cond.code yX0_drawLine cX0_drawLine 6 none, Cond.methodLink RX0 25 yX0_drawRow, Cond.instanceMethod yX0_drawRow, Cond.selects RX0 yX0_drawRow yX0_drawRow, Cond.code yX0_drawRow cX0_drawRow 8 (some .int), Cond.static yX5_widthAfter, Cond.code yX5_widthAfter cX5_widthAfter 2 (some .int), Cond.methodLink RX5 112 yX5_within, Cond.static yX5_within, Cond.code yX5_within cX5_within 3 (some .int), Cond.methodLink RX5 245 Lib.Math.max.name, Cond.methodLink RX5 250 Lib.Math.min.name, Cond.methodLink RL 93 yX6_line, Cond.instanceMethod yX6_line, Cond.selects RX6 yX6_line yX6_line, Cond.code yX6_line cX6_line 8 (some .int), Cond.methodLink RX6 96 yX6_isPattern, Cond.instanceMethod yX6_isPattern, Cond.selects RX6 yX6_isPattern yX6_isPattern, Cond.code yX6_isPattern cX6_isPattern 2 (some .boolean), Cond.methodLink RX6 99 yX6_isPublished, Cond.instanceMethod yX6_isPublished, Cond.selects RX6 yX6_isPublished yX6_isPublished, Cond.code yX6_isPublished cX6_isPublished 2 (some .boolean)]
def wsL_law0_r13 : List Cond := [Cond.methodLink RX6 102 yX6_rowsOf, Cond.instanceMethod yX6_rowsOf, Cond.selects RX6 yX6_rowsOf yX6_rowsOf, Cond.code yX6_rowsOf cX6_rowsOf 4 (some .int), Cond.methodLink RX6 106 yX6_put, Cond.instanceMethod yX6_put, Cond.selects RX6 yX6_put yX6_put, Cond.code yX6_put cX6_put 7 none, Cond.methodLink RL 94 yL_anew, Cond.static yL_anew, Cond.codeWith yL_anew cL_anew 5 (some .int) [(0, 10, 13, 13), (0, 10, 17, 15), (0, 10, 21, 17)], Cond.methodLink RL 23 yX5_anew, Cond.instanceMethod yX5_anew, Cond.selects RX5 yX5_anew yX5_anew, Cond.code yX5_anew cX5_anew 6 (some .int), Cond.fieldLink RX5 93 "Yarncourt$Pattern" "program" "LYarncourt$Program;", Cond.fieldLink RX5 105 "Yarncourt$Program" "firstWidth" "I", Cond.fieldLink RX5 116 "Yarncourt$Pattern" "owner" "I", Cond.fieldLink RX5 119 "Yarncourt$Pattern" "price" "I", Cond.methodLink RX5 87 yX5_checkGauge, Cond.static yX5_checkGauge, Cond.code yX5_checkGauge cX5_checkGauge 1 none, Cond.methodLink RX5 90 yX2_hasNoLines, Cond.instanceMethod yX2_hasNoLines]
def wsL_law0_r14 : List Cond := [Cond.selects RX2 yX2_hasNoLines yX2_hasNoLines, Cond.code yX2_hasNoLines cX2_hasNoLines 1 (some .boolean), Cond.methodLink RX5 97 yX3_rowsFor, Cond.instanceMethod yX3_rowsFor, Cond.selects RX3 yX3_rowsFor yX3_rowsFor, Cond.code yX3_rowsFor cX3_rowsFor 4 (some .int), Cond.methodLink RX3 40 yX3_timesFor, Cond.instanceMethod yX3_timesFor, Cond.selects RX3 yX3_timesFor yX3_timesFor, Cond.code yX3_timesFor cX3_timesFor 3 (some .int), Cond.methodLink RX3 35 Lib.Math.max.name, Cond.static yX5_forGauge, Cond.code yX5_forGauge cX5_forGauge 2 (some .int), Cond.methodLink RX5 108 yX5_forGauge, Cond.methodLink RX5 122 yX2_addLinesFor, Cond.instanceMethod yX2_addLinesFor, Cond.selects RX2 yX2_addLinesFor yX2_addLinesFor, Cond.code yX2_addLinesFor cX2_addLinesFor 4 none, Cond.methodLink RX2 75 yX3_timesFor, Cond.methodLink RX2 79 yX2_addLine, Cond.methodLink RL 97 yX6_anew, Cond.instanceMethod yX6_anew, Cond.selects RX6 yX6_anew yX6_anew, Cond.code yX6_anew cX6_anew 9 (some .int)]
def wsL_law0_r15 : List Cond := [Cond.methodLink RX6 110 yX6_oftenAnew, Cond.instanceMethod yX6_oftenAnew, Cond.selects RX6 yX6_oftenAnew yX6_oftenAnew, Cond.code yX6_oftenAnew cX6_oftenAnew 4 (some .int), Cond.methodLink RL 98 yL_publish, Cond.static yL_publish, Cond.codeWith yL_publish cL_publish 4 (some .int) [(0, 9, 12, 13), (0, 9, 15, 17)], Cond.methodLink RL 27 yX5_publish, Cond.instanceMethod yX5_publish, Cond.selects RX5 yX5_publish yX5_publish, Cond.code yX5_publish cX5_publish 4 (some .int), Cond.fieldLink RX5 132 "Yarncourt$Pattern" "original" "LYarncourt$Pattern;", Cond.methodLink RX5 128 yX5_firstOfSameChart, Cond.instanceMethod yX5_firstOfSameChart, Cond.selects RX5 yX5_firstOfSameChart yX5_firstOfSameChart, Cond.code yX5_firstOfSameChart cX5_firstOfSameChart 4 (some (.object "Yarncourt$Pattern")), Cond.methodLink RX5 235 yX0_isSameAs, Cond.instanceMethod yX0_isSameAs, Cond.selects RX0 yX0_isSameAs yX0_isSameAs, Cond.code yX0_isSameAs cX0_isSameAs 3 (some .boolean), Cond.methodLink RL 101 yX6_publish, Cond.instanceMethod yX6_publish, Cond.selects RX6 yX6_publish yX6_publish, Cond.code yX6_publish cX6_publish 3 (some .int)]
def wsL_law0_r16 : List Cond := [Cond.fieldLink RX6 134 "YarncourtModel" "published" "I", Cond.methodLink RX6 137 yX6_originalOf, Cond.instanceMethod yX6_originalOf, Cond.selects RX6 yX6_originalOf yX6_originalOf, Cond.code yX6_originalOf cX6_originalOf 4 (some .int), Cond.methodLink RX6 130 yX6_areAlike, Cond.instanceMethod yX6_areAlike, Cond.selects RX6 yX6_areAlike yX6_areAlike, Cond.code yX6_areAlike cX6_areAlike 6 (some .boolean), Cond.methodLink RX6 127 yX6_stitchOf, Cond.instanceMethod yX6_stitchOf, Cond.selects RX6 yX6_stitchOf yX6_stitchOf, Cond.code yX6_stitchOf cX6_stitchOf 4 (some .int), Cond.methodLink RX6 120 yX6_goTo, Cond.instanceMethod yX6_goTo, Cond.selects RX6 yX6_goTo yX6_goTo, Cond.code yX6_goTo cX6_goTo 6 none, Cond.fieldLink RX6 114 "YarncourtModel" "rowLine" "I", Cond.fieldLink RX6 117 "YarncourtModel" "rowWidth" "I", Cond.methodLink RX6 124 yX6_stitchAt, Cond.instanceMethod yX6_stitchAt, Cond.selects RX6 yX6_stitchAt yX6_stitchAt, Cond.code yX6_stitchAt cX6_stitchAt 2 (some .int), Cond.methodLink RL 102 yL_original]
def wsL_law0_r17 : List Cond := [Cond.static yL_original, Cond.codeWith yL_original cL_original 4 (some .int) [(0, 9, 12, 13)], Cond.methodLink RL 31 yX5_original, Cond.instanceMethod yX5_original, Cond.selects RX5 yX5_original yX5_original, Cond.code yX5_original cX5_original 3 (some .int), Cond.methodLink RL 104 yX6_original, Cond.instanceMethod yX6_original, Cond.selects RX6 yX6_original yX6_original, Cond.code yX6_original cX6_original 2 (some .int), Cond.methodLink RX6 140 yX6_noPattern, Cond.instanceMethod yX6_noPattern, Cond.selects RX6 yX6_noPattern yX6_noPattern, Cond.code yX6_noPattern cX6_noPattern 2 (some .boolean), Cond.methodLink RL 105 yL_rows, Cond.static yL_rows, Cond.codeWith yL_rows cL_rows 4 (some .int) [(0, 9, 12, 13)], Cond.methodLink RL 34 yX5_rows, Cond.instanceMethod yX5_rows, Cond.selects RX5 yX5_rows yX5_rows, Cond.code yX5_rows cX5_rows 2 (some .int), Cond.methodLink RL 107 yX6_rows, Cond.instanceMethod yX6_rows, Cond.selects RX6 yX6_rows yX6_rows]
def wsL_law0_r18 : List Cond := [Cond.code yX6_rows cX6_rows 2 (some .int), Cond.methodLink RL 108 yL_stitch, Cond.static yL_stitch, Cond.codeWith yL_stitch cL_stitch 6 (some .int) [(0, 12, 15, 13)], Cond.methodLink RL 37 yX5_stitch, Cond.instanceMethod yX5_stitch, Cond.selects RX5 yX5_stitch yX5_stitch, Cond.code yX5_stitch cX5_stitch 5 (some .int), Cond.methodLink RX5 140 yX5_checkPlace, Cond.static yX5_checkPlace, Cond.code yX5_checkPlace cX5_checkPlace 3 none, Cond.methodLink RX5 144 yX0_stitchAt, Cond.instanceMethod yX0_stitchAt, Cond.selects RX0 yX0_stitchAt yX0_stitchAt, Cond.code yX0_stitchAt cX0_stitchAt 3 (some .int), Cond.methodLink RL 110 yX6_stitch, Cond.instanceMethod yX6_stitch, Cond.selects RX6 yX6_stitch yX6_stitch, Cond.code yX6_stitch cX6_stitch 5 (some .int), Cond.methodLink RL 111 yL_stitchByWork, Cond.static yL_stitchByWork, Cond.codeWith yL_stitchByWork cL_stitchByWork 6 (some .int) [(0, 12, 15, 13)], Cond.methodLink RL 40 yX5_stitchByWork, Cond.instanceMethod yX5_stitchByWork]
def wsL_law0_r19 : List Cond := [Cond.selects RX5 yX5_stitchByWork yX5_stitchByWork, Cond.code yX5_stitchByWork cX5_stitchByWork 5 (some .int), Cond.methodLink RX5 147 yX3_workTo, Cond.instanceMethod yX3_workTo, Cond.selects RX3 yX3_workTo yX3_workTo, Cond.code yX3_workTo cX3_workTo 7 (some .int), Cond.methodLink RX3 43 yX3_workAlong, Cond.instanceMethod yX3_workAlong, Cond.selects RX3 yX3_workAlong yX3_workAlong, Cond.code yX3_workAlong cX3_workAlong 6 (some .int), Cond.methodLink RL 113 yX6_stitchByWork, Cond.instanceMethod yX6_stitchByWork, Cond.selects RX6 yX6_stitchByWork yX6_stitchByWork, Cond.code yX6_stitchByWork cX6_stitchByWork 4 (some .int), Cond.methodLink RX6 143 yX6_stitch, Cond.methodLink RL 114 yL_need, Cond.static yL_need, Cond.codeWith yL_need cL_need 5 (some .int) [(0, 10, 13, 13), (0, 10, 17, 15)], Cond.methodLink RL 43 yX5_need, Cond.instanceMethod yX5_need, Cond.selects RX5 yX5_need yX5_need, Cond.code yX5_need cX5_need 4 (some .int), Cond.methodLink RX5 150 yX0_yarnOfAllRows, Cond.instanceMethod yX0_yarnOfAllRows]
def wsL_law0_r20 : List Cond := [Cond.selects RX0 yX0_yarnOfAllRows yX0_yarnOfAllRows, Cond.code yX0_yarnOfAllRows cX0_yarnOfAllRows 3 (some .int), Cond.methodLink RL 116 yX6_need, Cond.instanceMethod yX6_need, Cond.selects RX6 yX6_need yX6_need, Cond.code yX6_need cX6_need 5 (some .int), Cond.methodLink RX6 146 yX6_rowNeed, Cond.instanceMethod yX6_rowNeed, Cond.selects RX6 yX6_rowNeed yX6_rowNeed, Cond.code yX6_rowNeed cX6_rowNeed 6 (some .int), Cond.methodLink RL 117 yL_buy, Cond.static yL_buy, Cond.codeWith yL_buy cL_buy 5 (some .int) [(0, 10, 13, 13), (0, 10, 17, 17)], Cond.methodLink RL 46 yX5_buy, Cond.instanceMethod yX5_buy, Cond.selects RX5 yX5_buy yX5_buy, Cond.code yX5_buy cX5_buy 4 (some .int), Cond.fieldLink RX5 154 "Yarncourt$Pattern" "barred" "Z", Cond.fieldLink RX5 163 "Yarncourt$Pattern" "boughtBy" "[Z", Cond.fieldLink RX5 167 "Yarncourt$Pattern" "takings" "I", Cond.methodLink RX5 158 yX2_mayBeKnittedBy, Cond.instanceMethod yX2_mayBeKnittedBy, Cond.selects RX2 yX2_mayBeKnittedBy yX2_mayBeKnittedBy, Cond.code yX2_mayBeKnittedBy cX2_mayBeKnittedBy 2 (some .boolean)]
def wsL_law0_r21 : List Cond := [Cond.methodLink RL 119 yX6_buy, Cond.instanceMethod yX6_buy, Cond.selects RX6 yX6_buy yX6_buy, Cond.code yX6_buy cX6_buy 5 (some .int), Cond.methodLink RX6 149 yX6_hasBought, Cond.instanceMethod yX6_hasBought, Cond.selects RX6 yX6_hasBought yX6_hasBought, Cond.code yX6_hasBought cX6_hasBought 3 (some .boolean), Cond.methodLink RL 120 yL_rule, Cond.static yL_rule, Cond.codeWith yL_rule cL_rule 4 (some .int) [(0, 9, 12, 13), (0, 9, 15, 17)], Cond.methodLink RL 49 yX5_rule, Cond.instanceMethod yX5_rule, Cond.selects RX5 yX5_rule yX5_rule, Cond.code yX5_rule cX5_rule 4 (some .int), Cond.methodLink RL 122 yX6_rule, Cond.instanceMethod yX6_rule, Cond.selects RX6 yX6_rule yX6_rule, Cond.code yX6_rule cX6_rule 5 (some .int), Cond.methodLink RL 123 yL_money, Cond.static yL_money, Cond.codeWith yL_money cL_money 4 (some .int) [(0, 9, 12, 13)], Cond.methodLink RL 52 yX5_money, Cond.instanceMethod yX5_money]
def wsL_law0_r22 : List Cond := [Cond.selects RX5 yX5_money yX5_money, Cond.code yX5_money cX5_money 2 (some .int), Cond.methodLink RL 125 yX6_money, Cond.instanceMethod yX6_money, Cond.selects RX6 yX6_money yX6_money, Cond.code yX6_money cX6_money 2 (some .int), Cond.methodLink RL 126 yL_lot, Cond.static yL_lot, Cond.codeWith yL_lot cL_lot 6 (some .int) [(0, 12, 15, 13), (0, 12, 19, 15), (0, 12, 23, 17)], Cond.methodLink RL 55 yX5_lot, Cond.instanceMethod yX5_lot, Cond.selects RX5 yX5_lot yX5_lot, Cond.code yX5_lot cX5_lot 5 (some .int), Cond.constant RX5 172 (100000), Cond.classLink RX5 178 RX1, Cond.instantiable RX1 4, Cond.initialized RX1, Cond.methodLink RX5 180 yX1_init, Cond.instanceMethod yX1_init, Cond.code yX1_init cX1_init 5 none, Cond.methodLink RX1 1 objectInit, Cond.fieldLink RX1 7 "Yarncourt$Lot" "number" "I", Cond.fieldLink RX1 13 "Yarncourt$Lot" "gauge" "I", Cond.fieldLink RX1 16 "Yarncourt$Lot" "person" "I"]
def wsL_law0_r23 : List Cond := [Cond.fieldLink RX1 19 "Yarncourt$Lot" "yarn" "I", Cond.methodLink RL 128 yX6_lot, Cond.instanceMethod yX6_lot, Cond.selects RX6 yX6_lot yX6_lot, Cond.code yX6_lot cX6_lot 5 (some .int), Cond.constant RX6 152 (100000), Cond.fieldLink RX6 79 "YarncourtModel" "lots" "I", Cond.methodLink RL 129 yL_swap, Cond.static yL_swap, Cond.codeWith yL_swap cL_swap 5 (some .int) [(0, 10, 13, 13), (0, 10, 17, 17)], Cond.methodLink RL 58 yX5_swap, Cond.instanceMethod yX5_swap, Cond.selects RX5 yX5_swap yX5_swap, Cond.code yX5_swap cX5_swap 6 (some .int), Cond.fieldLink RX5 186 "Yarncourt$Lot" "person" "I", Cond.methodLink RX5 182 yX5_lotAt, Cond.instanceMethod yX5_lotAt, Cond.selects RX5 yX5_lotAt yX5_lotAt, Cond.code yX5_lotAt cX5_lotAt 2 (some (.object "Yarncourt$Lot")), Cond.classLink RX5 178 "Yarncourt$Lot", Cond.methodLink RL 131 yX6_swap, Cond.instanceMethod yX6_swap, Cond.selects RX6 yX6_swap yX6_swap, Cond.code yX6_swap cX6_swap 5 (some .int)]
def wsL_law0_r24 : List Cond := [Cond.methodLink RX6 153 yX6_isLot, Cond.instanceMethod yX6_isLot, Cond.selects RX6 yX6_isLot yX6_isLot, Cond.code yX6_isLot cX6_isLot 2 (some .boolean), Cond.methodLink RL 132 yL_left, Cond.static yL_left, Cond.codeWith yL_left cL_left 4 (some .int) [(0, 9, 12, 13)], Cond.methodLink RL 61 yX5_left, Cond.instanceMethod yX5_left, Cond.selects RX5 yX5_left yX5_left, Cond.code yX5_left cX5_left 2 (some .int), Cond.fieldLink RX5 191 "Yarncourt$Lot" "yarn" "I", Cond.methodLink RL 134 yX6_left, Cond.instanceMethod yX6_left, Cond.selects RX6 yX6_left yX6_left, Cond.code yX6_left cX6_left 2 (some .int), Cond.methodLink RL 135 yL_project, Cond.static yL_project, Cond.codeWith yL_project cL_project 6 (some .int) [(0, 12, 15, 13), (0, 12, 19, 17)], Cond.methodLink RL 64 yX5_project, Cond.instanceMethod yX5_project, Cond.selects RX5 yX5_project yX5_project, Cond.code yX5_project cX5_project 7 (some .int), Cond.classLink RX5 196 RX4]
def wsL_law0_r25 : List Cond := [Cond.instantiable RX4 4, Cond.initialized RX4, Cond.methodLink RX5 198 yX4_init, Cond.instanceMethod yX4_init, Cond.code yX4_init cX4_init 4 none, Cond.methodLink RX4 1 objectInit, Cond.fieldLink RX4 7 "Yarncourt$Project" "knitted" "I", Cond.fieldLink RX4 13 "Yarncourt$Project" "person" "I", Cond.fieldLink RX4 16 "Yarncourt$Project" "pattern" "LYarncourt$Pattern;", Cond.fieldLink RX4 20 "Yarncourt$Project" "lot" "LYarncourt$Lot;", Cond.methodLink RL 137 yX6_project, Cond.instanceMethod yX6_project, Cond.selects RX6 yX6_project yX6_project, Cond.code yX6_project cX6_project 6 (some .int), Cond.fieldLink RX6 82 "YarncourtModel" "projects" "I", Cond.methodLink RL 138 yL_take, Cond.static yL_take, Cond.codeWith yL_take cL_take 5 (some .int) [(0, 10, 13, 13), (0, 10, 17, 17)], Cond.methodLink RL 67 yX5_take, Cond.instanceMethod yX5_take, Cond.selects RX5 yX5_take yX5_take, Cond.code yX5_take cX5_take 6 (some .int), Cond.fieldLink RX5 205 "Yarncourt$Project" "person" "I", Cond.fieldLink RX5 208 "Yarncourt$Project" "lot" "LYarncourt$Lot;"]
def wsL_law0_r26 : List Cond := [Cond.fieldLink RX5 212 "Yarncourt$Lot" "number" "I", Cond.methodLink RX5 201 yX5_projectAt, Cond.instanceMethod yX5_projectAt, Cond.selects RX5 yX5_projectAt yX5_projectAt, Cond.code yX5_projectAt cX5_projectAt 2 (some (.object "Yarncourt$Project")), Cond.classLink RX5 196 "Yarncourt$Project", Cond.methodLink RL 140 yX6_take, Cond.instanceMethod yX6_take, Cond.selects RX6 yX6_take yX6_take, Cond.code yX6_take cX6_take 5 (some .int), Cond.methodLink RX6 156 yX6_isProject, Cond.instanceMethod yX6_isProject, Cond.selects RX6 yX6_isProject yX6_isProject, Cond.code yX6_isProject cX6_isProject 2 (some .boolean), Cond.methodLink RL 141 yL_knit, Cond.static yL_knit, Cond.codeWith yL_knit cL_knit 5 (some .int) [(0, 10, 13, 13), (0, 10, 17, 15)], Cond.methodLink RL 70 yX5_knit, Cond.instanceMethod yX5_knit, Cond.selects RX5 yX5_knit yX5_knit, Cond.code yX5_knit cX5_knit 4 (some .int), Cond.methodLink RX5 213 yX4_knitUpTo, Cond.instanceMethod yX4_knitUpTo, Cond.selects RX4 yX4_knitUpTo yX4_knitUpTo]
def wsL_law0_r27 : List Cond := [Cond.code yX4_knitUpTo cX4_knitUpTo 3 (some .int), Cond.fieldLink RX4 28 "Yarncourt$Lot" "yarn" "I", Cond.methodLink RX4 24 yX4_canKnitRow, Cond.instanceMethod yX4_canKnitRow, Cond.selects RX4 yX4_canKnitRow yX4_canKnitRow, Cond.code yX4_canKnitRow cX4_canKnitRow 1 (some .boolean), Cond.fieldLink RX4 37 "Yarncourt$Pattern" "chart" "LYarncourt$Chart;", Cond.fieldLink RX4 43 "Yarncourt$Chart" "rowCount" "I", Cond.fieldLink RX4 48 "Yarncourt$Lot" "person" "I", Cond.methodLink RX4 33 yX4_yarnOfNextRow, Cond.instanceMethod yX4_yarnOfNextRow, Cond.selects RX4 yX4_yarnOfNextRow yX4_yarnOfNextRow, Cond.code yX4_yarnOfNextRow cX4_yarnOfNextRow 1 (some .int), Cond.fieldLink RX4 49 "Yarncourt$Lot" "gauge" "I", Cond.methodLink RX4 52 yX0_yarnOf, Cond.instanceMethod yX0_yarnOf, Cond.selects RX0 yX0_yarnOf yX0_yarnOf, Cond.code yX0_yarnOf cX0_yarnOf 2 (some .int), Cond.methodLink RL 143 yX6_knit, Cond.instanceMethod yX6_knit, Cond.selects RX6 yX6_knit yX6_knit, Cond.code yX6_knit cX6_knit 4 (some .int), Cond.methodLink RX6 159 yX6_knitsRow, Cond.instanceMethod yX6_knitsRow]
def wsL_law0_r28 : List Cond := [Cond.selects RX6 yX6_knitsRow yX6_knitsRow, Cond.code yX6_knitsRow cX6_knitsRow 6 (some .boolean), Cond.methodLink RL 144 yL_progress, Cond.static yL_progress, Cond.codeWith yL_progress cL_progress 4 (some .int) [(0, 9, 12, 13)], Cond.methodLink RL 73 yX5_progress, Cond.instanceMethod yX5_progress, Cond.selects RX5 yX5_progress yX5_progress, Cond.code yX5_progress cX5_progress 2 (some .int), Cond.fieldLink RX5 216 "Yarncourt$Project" "knitted" "I", Cond.methodLink RL 146 yX6_progress, Cond.instanceMethod yX6_progress, Cond.selects RX6 yX6_progress yX6_progress, Cond.code yX6_progress cX6_progress 2 (some .int)]
def wsL_law0 : List Cond := (wsL_law0_r1 ++ (wsL_law0_r2 ++ (wsL_law0_r3 ++ (wsL_law0_r4 ++ (wsL_law0_r5 ++ (wsL_law0_r6 ++ (wsL_law0_r7 ++ (wsL_law0_r8 ++ (wsL_law0_r9 ++ (wsL_law0_r10 ++ (wsL_law0_r11 ++ (wsL_law0_r12 ++ (wsL_law0_r13 ++ (wsL_law0_r14 ++ (wsL_law0_r15 ++ (wsL_law0_r16 ++ (wsL_law0_r17 ++ (wsL_law0_r18 ++ (wsL_law0_r19 ++ (wsL_law0_r20 ++ (wsL_law0_r21 ++ (wsL_law0_r22 ++ (wsL_law0_r23 ++ (wsL_law0_r24 ++ (wsL_law0_r25 ++ (wsL_law0_r26 ++ (wsL_law0_r27 ++ wsL_law0_r28))))))))))))))))))))))))))) ++ wsX50 ++ wsX60 ++ wsJx4a65c0 ++ wsX20 ++ wsX30 ++ wsX00 ++ wsX10 ++ wsX40 ++ ([] : List Cond)
def wsL_law : List Cond := wsL_law0 ++ (vx_atS RX5 223 "java/lang/IndexOutOfBoundsException" ["java/lang/RuntimeException", "java/lang/Exception"]).filter goodWord ++ (vx_atS RX5 58 "java/lang/IllegalArgumentException" ["java/lang/RuntimeException", "java/lang/Exception"]).filter goodWord ++ (vx_atS RX5 73 "java/lang/IllegalStateException" ["java/lang/RuntimeException", "java/lang/Exception"]).filter goodWord
abbrev vwCl : List vw_C := [(RJx4a65c, TJx4a65c, 3), (RX0, TX0, 4), (RX1, TX1, 4), (RX2, TX2, 9), (RX3, TX3, 6), (RX4, TX4, 4), (RX5, TX5, 5), (RX6, TX6, 26)]
end
section
theorem dX0_init_0 : decode cX0_init 0 = .ok (.aload_n 0, 1) := by decide +kernel
theorem dX0_init_1 : decode cX0_init 1 = .ok (.invokespecial 3, 3) := by decide +kernel
theorem dX0_init_4 : decode cX0_init 4 = .ok (.aload_n 0, 1) := by decide +kernel
theorem dX0_init_5 : decode cX0_init 5 = .ok (.iconst 0, 1) := by decide +kernel
theorem dX0_init_6 : decode cX0_init 6 = .ok (.putfield 9, 3) := by decide +kernel
theorem dX0_init_9 : decode cX0_init 9 = .ok (.aload_n 0, 1) := by decide +kernel
theorem dX0_init_10 : decode cX0_init 10 = .ok (.sipush 1600, 3) := by decide +kernel
theorem dX0_init_13 : decode cX0_init 13 = .ok (.newarray .int, 2) := by decide +kernel
theorem dX0_init_15 : decode cX0_init 15 = .ok (.putfield 15, 3) := by decide +kernel
theorem dX0_init_18 : decode cX0_init 18 = .ok (.aload_n 0, 1) := by decide +kernel
theorem dX0_init_19 : decode cX0_init 19 = .ok (.bipush 40, 2) := by decide +kernel
theorem dX0_init_21 : decode cX0_init 21 = .ok (.newarray .int, 2) := by decide +kernel
theorem dX0_init_23 : decode cX0_init 23 = .ok (.putfield 19, 3) := by decide +kernel
theorem dX0_init_26 : decode cX0_init 26 = .ok (.aload_n 0, 1) := by decide +kernel
theorem dX0_init_27 : decode cX0_init 27 = .ok (.iload_n 1, 1) := by decide +kernel
theorem dX0_init_28 : decode cX0_init 28 = .ok (.putfield 22, 3) := by decide +kernel
theorem dX0_init_31 : decode cX0_init 31 = .ok (.return_, 1) := by decide +kernel
set_option maxRecDepth 20000 in
theorem ggX0_drawLine_X0_drawRow : GoodIn wsX0_drawLine wsX0_drawRow := goodIn_r _ [8, 3, 9, 23, 24, 25, 26] (by decide +kernel) (by decide +kernel)
set_option maxRecDepth 20000 in
theorem gX0_drawLine_X0_drawRow : GoodIn wsX0_drawLine (wsV RX0 25 RX0 yX0_drawRow wsX0_drawRow) := goodIn_app (goodIn_of _ (by decide +kernel)) ggX0_drawLine_X0_drawRow
set_option maxRecDepth 20000 in
theorem ggX0_drawLine_X5_widthAfter : GoodIn wsX0_drawLine wsX5_widthAfter := goodIn_r _ [12, 13, 14, 11, 15, 16, 17, 18, 19, 20, 21, 22] (by decide +kernel) (by decide +kernel)
set_option maxRecDepth 20000 in
theorem gX0_drawLine_X5_widthAfter_n29 : GoodIn wsX0_drawLine (wsX5_widthAfter) := ggX0_drawLine_X5_widthAfter
theorem dX0_drawLine_0 : decode cX0_drawLine 0 = .ok (.iconst 0, 1) := by decide +kernel
theorem dX0_drawLine_1 : decode cX0_drawLine 1 = .ok (.istore 5, 2) := by decide +kernel
theorem dX0_drawLine_3 : decode cX0_drawLine 3 = .ok (.iload 5, 2) := by decide +kernel
theorem dX0_drawLine_5 : decode cX0_drawLine 5 = .ok (.iload 4, 2) := by decide +kernel
theorem dX0_drawLine_7 : decode cX0_drawLine 7 = .ok (.if_icmp .ge 62, 3) := by decide +kernel
theorem dX0_drawLine_10 : decode cX0_drawLine 10 = .ok (.aload_n 0, 1) := by decide +kernel
theorem dX0_drawLine_11 : decode cX0_drawLine 11 = .ok (.getfield 9, 3) := by decide +kernel
theorem dX0_drawLine_14 : decode cX0_drawLine 14 = .ok (.bipush 40, 2) := by decide +kernel
theorem dX0_drawLine_16 : decode cX0_drawLine 16 = .ok (.if_icmp .ge 53, 3) := by decide +kernel
theorem dX0_drawLine_19 : decode cX0_drawLine 19 = .ok (.aload_n 0, 1) := by decide +kernel
theorem dX0_drawLine_20 : decode cX0_drawLine 20 = .ok (.getfield 19, 3) := by decide +kernel
theorem dX0_drawLine_23 : decode cX0_drawLine 23 = .ok (.aload_n 0, 1) := by decide +kernel
theorem dX0_drawLine_24 : decode cX0_drawLine 24 = .ok (.getfield 9, 3) := by decide +kernel
theorem dX0_drawLine_27 : decode cX0_drawLine 27 = .ok (.aload_n 0, 1) := by decide +kernel
theorem dX0_drawLine_28 : decode cX0_drawLine 28 = .ok (.aload_n 0, 1) := by decide +kernel
theorem dX0_drawLine_29 : decode cX0_drawLine 29 = .ok (.getfield 9, 3) := by decide +kernel
theorem dX0_drawLine_32 : decode cX0_drawLine 32 = .ok (.bipush 40, 2) := by decide +kernel
theorem dX0_drawLine_34 : decode cX0_drawLine 34 = .ok (.imul, 1) := by decide +kernel
theorem dX0_drawLine_35 : decode cX0_drawLine 35 = .ok (.iload_n 1, 1) := by decide +kernel
theorem dX0_drawLine_36 : decode cX0_drawLine 36 = .ok (.iload_n 2, 1) := by decide +kernel
theorem dX0_drawLine_37 : decode cX0_drawLine 37 = .ok (.invokevirtual 25, 3) := by decide +kernel
theorem dX0_drawLine_40 : decode cX0_drawLine 40 = .ok (.iastore, 1) := by decide +kernel
theorem dX0_drawLine_41 : decode cX0_drawLine 41 = .ok (.aload_n 0, 1) := by decide +kernel
theorem dX0_drawLine_42 : decode cX0_drawLine 42 = .ok (.aload_n 0, 1) := by decide +kernel
theorem dX0_drawLine_43 : decode cX0_drawLine 43 = .ok (.getfield 22, 3) := by decide +kernel
theorem dX0_drawLine_46 : decode cX0_drawLine 46 = .ok (.iload_n 3, 1) := by decide +kernel
theorem dX0_drawLine_47 : decode cX0_drawLine 47 = .ok (.invokestatic 29, 3) := by decide +kernel
theorem dX0_drawLine_50 : decode cX0_drawLine 50 = .ok (.putfield 22, 3) := by decide +kernel
theorem dX0_drawLine_53 : decode cX0_drawLine 53 = .ok (.aload_n 0, 1) := by decide +kernel
theorem dX0_drawLine_54 : decode cX0_drawLine 54 = .ok (.dup, 1) := by decide +kernel
theorem dX0_drawLine_55 : decode cX0_drawLine 55 = .ok (.getfield 9, 3) := by decide +kernel
theorem dX0_drawLine_58 : decode cX0_drawLine 58 = .ok (.iconst 1, 1) := by decide +kernel
theorem dX0_drawLine_59 : decode cX0_drawLine 59 = .ok (.iadd, 1) := by decide +kernel
theorem dX0_drawLine_60 : decode cX0_drawLine 60 = .ok (.putfield 9, 3) := by decide +kernel
theorem dX0_drawLine_63 : decode cX0_drawLine 63 = .ok (.iinc 5 1, 3) := by decide +kernel
theorem dX0_drawLine_66 : decode cX0_drawLine 66 = .ok (.goto (-63), 3) := by decide +kernel
theorem dX0_drawLine_69 : decode cX0_drawLine 69 = .ok (.return_, 1) := by decide +kernel
theorem dX0_drawRow_0 : decode cX0_drawRow 0 = .ok (.iconst 0, 1) := by decide +kernel
theorem dX0_drawRow_1 : decode cX0_drawRow 1 = .ok (.istore 4, 2) := by decide +kernel
theorem dX0_drawRow_3 : decode cX0_drawRow 3 = .ok (.iconst 0, 1) := by decide +kernel
theorem dX0_drawRow_4 : decode cX0_drawRow 4 = .ok (.istore 5, 2) := by decide +kernel
theorem dX0_drawRow_6 : decode cX0_drawRow 6 = .ok (.iconst 0, 1) := by decide +kernel
theorem dX0_drawRow_7 : decode cX0_drawRow 7 = .ok (.istore 6, 2) := by decide +kernel
theorem dX0_drawRow_9 : decode cX0_drawRow 9 = .ok (.iload 6, 2) := by decide +kernel
theorem dX0_drawRow_11 : decode cX0_drawRow 11 = .ok (.aload_n 0, 1) := by decide +kernel
theorem dX0_drawRow_12 : decode cX0_drawRow 12 = .ok (.getfield 22, 3) := by decide +kernel
theorem dX0_drawRow_15 : decode cX0_drawRow 15 = .ok (.if_icmp .ge 70, 3) := by decide +kernel
theorem dX0_drawRow_18 : decode cX0_drawRow 18 = .ok (.iload 5, 2) := by decide +kernel
theorem dX0_drawRow_20 : decode cX0_drawRow 20 = .ok (.iload_n 2, 1) := by decide +kernel
theorem dX0_drawRow_21 : decode cX0_drawRow 21 = .ok (.if_icmp .ge 7, 3) := by decide +kernel
theorem dX0_drawRow_24 : decode cX0_drawRow 24 = .ok (.iconst 1, 1) := by decide +kernel
theorem dX0_drawRow_25 : decode cX0_drawRow 25 = .ok (.goto 4, 3) := by decide +kernel
theorem dX0_drawRow_28 : decode cX0_drawRow 28 = .ok (.iconst 0, 1) := by decide +kernel
theorem dX0_drawRow_29 : decode cX0_drawRow 29 = .ok (.istore 7, 2) := by decide +kernel
theorem dX0_drawRow_31 : decode cX0_drawRow 31 = .ok (.aload_n 0, 1) := by decide +kernel
theorem dX0_drawRow_32 : decode cX0_drawRow 32 = .ok (.getfield 15, 3) := by decide +kernel
theorem dX0_drawRow_35 : decode cX0_drawRow 35 = .ok (.iload_n 1, 1) := by decide +kernel
theorem dX0_drawRow_36 : decode cX0_drawRow 36 = .ok (.iload 6, 2) := by decide +kernel
theorem dX0_drawRow_38 : decode cX0_drawRow 38 = .ok (.iadd, 1) := by decide +kernel
theorem dX0_drawRow_39 : decode cX0_drawRow 39 = .ok (.iload 7, 2) := by decide +kernel
theorem dX0_drawRow_41 : decode cX0_drawRow 41 = .ok (.ifCond .eq 7, 3) := by decide +kernel
theorem dX0_drawRow_44 : decode cX0_drawRow 44 = .ok (.iconst 1, 1) := by decide +kernel
theorem dX0_drawRow_45 : decode cX0_drawRow 45 = .ok (.goto 4, 3) := by decide +kernel
theorem dX0_drawRow_48 : decode cX0_drawRow 48 = .ok (.iconst 2, 1) := by decide +kernel
theorem dX0_drawRow_49 : decode cX0_drawRow 49 = .ok (.iastore, 1) := by decide +kernel
theorem dX0_drawRow_50 : decode cX0_drawRow 50 = .ok (.iload 4, 2) := by decide +kernel
theorem dX0_drawRow_52 : decode cX0_drawRow 52 = .ok (.iload 7, 2) := by decide +kernel
theorem dX0_drawRow_54 : decode cX0_drawRow 54 = .ok (.ifCond .eq 7, 3) := by decide +kernel
theorem dX0_drawRow_57 : decode cX0_drawRow 57 = .ok (.iconst 2, 1) := by decide +kernel
theorem dX0_drawRow_58 : decode cX0_drawRow 58 = .ok (.goto 4, 3) := by decide +kernel
theorem dX0_drawRow_61 : decode cX0_drawRow 61 = .ok (.iconst 3, 1) := by decide +kernel
theorem dX0_drawRow_62 : decode cX0_drawRow 62 = .ok (.iadd, 1) := by decide +kernel
theorem dX0_drawRow_63 : decode cX0_drawRow 63 = .ok (.istore 4, 2) := by decide +kernel
theorem dX0_drawRow_65 : decode cX0_drawRow 65 = .ok (.iinc 5 1, 3) := by decide +kernel
theorem dX0_drawRow_68 : decode cX0_drawRow 68 = .ok (.iload 5, 2) := by decide +kernel
theorem dX0_drawRow_70 : decode cX0_drawRow 70 = .ok (.iload_n 2, 1) := by decide +kernel
theorem dX0_drawRow_71 : decode cX0_drawRow 71 = .ok (.iload_n 3, 1) := by decide +kernel
theorem dX0_drawRow_72 : decode cX0_drawRow 72 = .ok (.iadd, 1) := by decide +kernel
theorem dX0_drawRow_73 : decode cX0_drawRow 73 = .ok (.if_icmp .ne 6, 3) := by decide +kernel
theorem dX0_drawRow_76 : decode cX0_drawRow 76 = .ok (.iconst 0, 1) := by decide +kernel
theorem dX0_drawRow_77 : decode cX0_drawRow 77 = .ok (.istore 5, 2) := by decide +kernel
theorem dX0_drawRow_79 : decode cX0_drawRow 79 = .ok (.iinc 6 1, 3) := by decide +kernel
theorem dX0_drawRow_82 : decode cX0_drawRow 82 = .ok (.goto (-73), 3) := by decide +kernel
theorem dX0_drawRow_85 : decode cX0_drawRow 85 = .ok (.iload 4, 2) := by decide +kernel
theorem dX0_drawRow_87 : decode cX0_drawRow 87 = .ok (.ireturn, 1) := by decide +kernel
theorem dX0_stitchAt_0 : decode cX0_stitchAt 0 = .ok (.iload_n 2, 1) := by decide +kernel
theorem dX0_stitchAt_1 : decode cX0_stitchAt 1 = .ok (.bipush 40, 2) := by decide +kernel
theorem dX0_stitchAt_3 : decode cX0_stitchAt 3 = .ok (.if_icmp .ge 17, 3) := by decide +kernel
theorem dX0_stitchAt_6 : decode cX0_stitchAt 6 = .ok (.aload_n 0, 1) := by decide +kernel
theorem dX0_stitchAt_7 : decode cX0_stitchAt 7 = .ok (.getfield 15, 3) := by decide +kernel
theorem dX0_stitchAt_10 : decode cX0_stitchAt 10 = .ok (.iload_n 1, 1) := by decide +kernel
theorem dX0_stitchAt_11 : decode cX0_stitchAt 11 = .ok (.bipush 40, 2) := by decide +kernel
theorem dX0_stitchAt_13 : decode cX0_stitchAt 13 = .ok (.imul, 1) := by decide +kernel
theorem dX0_stitchAt_14 : decode cX0_stitchAt 14 = .ok (.iload_n 2, 1) := by decide +kernel
theorem dX0_stitchAt_15 : decode cX0_stitchAt 15 = .ok (.iadd, 1) := by decide +kernel
theorem dX0_stitchAt_16 : decode cX0_stitchAt 16 = .ok (.iaload, 1) := by decide +kernel
theorem dX0_stitchAt_17 : decode cX0_stitchAt 17 = .ok (.goto 4, 3) := by decide +kernel
theorem dX0_stitchAt_20 : decode cX0_stitchAt 20 = .ok (.iconst 0, 1) := by decide +kernel
theorem dX0_stitchAt_21 : decode cX0_stitchAt 21 = .ok (.ireturn, 1) := by decide +kernel
theorem dX0_yarnOf_0 : decode cX0_yarnOf 0 = .ok (.aload_n 0, 1) := by decide +kernel
theorem dX0_yarnOf_1 : decode cX0_yarnOf 1 = .ok (.getfield 19, 3) := by decide +kernel
theorem dX0_yarnOf_4 : decode cX0_yarnOf 4 = .ok (.iload_n 1, 1) := by decide +kernel
theorem dX0_yarnOf_5 : decode cX0_yarnOf 5 = .ok (.iaload, 1) := by decide +kernel
theorem dX0_yarnOf_6 : decode cX0_yarnOf 6 = .ok (.ireturn, 1) := by decide +kernel
theorem dX0_yarnOfAllRows_0 : decode cX0_yarnOfAllRows 0 = .ok (.iconst 0, 1) := by decide +kernel
theorem dX0_yarnOfAllRows_1 : decode cX0_yarnOfAllRows 1 = .ok (.istore_n 1, 1) := by decide +kernel
theorem dX0_yarnOfAllRows_2 : decode cX0_yarnOfAllRows 2 = .ok (.iconst 0, 1) := by decide +kernel
theorem dX0_yarnOfAllRows_3 : decode cX0_yarnOfAllRows 3 = .ok (.istore_n 2, 1) := by decide +kernel
theorem dX0_yarnOfAllRows_4 : decode cX0_yarnOfAllRows 4 = .ok (.iload_n 2, 1) := by decide +kernel
theorem dX0_yarnOfAllRows_5 : decode cX0_yarnOfAllRows 5 = .ok (.aload_n 0, 1) := by decide +kernel
theorem dX0_yarnOfAllRows_6 : decode cX0_yarnOfAllRows 6 = .ok (.getfield 9, 3) := by decide +kernel
theorem dX0_yarnOfAllRows_9 : decode cX0_yarnOfAllRows 9 = .ok (.if_icmp .ge 18, 3) := by decide +kernel
theorem dX0_yarnOfAllRows_12 : decode cX0_yarnOfAllRows 12 = .ok (.iload_n 1, 1) := by decide +kernel
theorem dX0_yarnOfAllRows_13 : decode cX0_yarnOfAllRows 13 = .ok (.aload_n 0, 1) := by decide +kernel
theorem dX0_yarnOfAllRows_14 : decode cX0_yarnOfAllRows 14 = .ok (.getfield 19, 3) := by decide +kernel
theorem dX0_yarnOfAllRows_17 : decode cX0_yarnOfAllRows 17 = .ok (.iload_n 2, 1) := by decide +kernel
theorem dX0_yarnOfAllRows_18 : decode cX0_yarnOfAllRows 18 = .ok (.iaload, 1) := by decide +kernel
theorem dX0_yarnOfAllRows_19 : decode cX0_yarnOfAllRows 19 = .ok (.iadd, 1) := by decide +kernel
theorem dX0_yarnOfAllRows_20 : decode cX0_yarnOfAllRows 20 = .ok (.istore_n 1, 1) := by decide +kernel
theorem dX0_yarnOfAllRows_21 : decode cX0_yarnOfAllRows 21 = .ok (.iinc 2 1, 3) := by decide +kernel
theorem dX0_yarnOfAllRows_24 : decode cX0_yarnOfAllRows 24 = .ok (.goto (-20), 3) := by decide +kernel
theorem dX0_yarnOfAllRows_27 : decode cX0_yarnOfAllRows 27 = .ok (.iload_n 1, 1) := by decide +kernel
theorem dX0_yarnOfAllRows_28 : decode cX0_yarnOfAllRows 28 = .ok (.ireturn, 1) := by decide +kernel
theorem dX0_isSameAs_0 : decode cX0_isSameAs 0 = .ok (.aload_n 0, 1) := by decide +kernel
theorem dX0_isSameAs_1 : decode cX0_isSameAs 1 = .ok (.getfield 9, 3) := by decide +kernel
theorem dX0_isSameAs_4 : decode cX0_isSameAs 4 = .ok (.aload_n 1, 1) := by decide +kernel
theorem dX0_isSameAs_5 : decode cX0_isSameAs 5 = .ok (.getfield 9, 3) := by decide +kernel
theorem dX0_isSameAs_8 : decode cX0_isSameAs 8 = .ok (.if_icmp .eq 5, 3) := by decide +kernel
theorem dX0_isSameAs_11 : decode cX0_isSameAs 11 = .ok (.iconst 0, 1) := by decide +kernel
theorem dX0_isSameAs_12 : decode cX0_isSameAs 12 = .ok (.ireturn, 1) := by decide +kernel
theorem dX0_isSameAs_13 : decode cX0_isSameAs 13 = .ok (.iconst 0, 1) := by decide +kernel
theorem dX0_isSameAs_14 : decode cX0_isSameAs 14 = .ok (.istore_n 2, 1) := by decide +kernel
theorem dX0_isSameAs_15 : decode cX0_isSameAs 15 = .ok (.iload_n 2, 1) := by decide +kernel
theorem dX0_isSameAs_16 : decode cX0_isSameAs 16 = .ok (.aload_n 0, 1) := by decide +kernel
theorem dX0_isSameAs_17 : decode cX0_isSameAs 17 = .ok (.getfield 9, 3) := by decide +kernel
theorem dX0_isSameAs_20 : decode cX0_isSameAs 20 = .ok (.bipush 40, 2) := by decide +kernel
theorem dX0_isSameAs_22 : decode cX0_isSameAs 22 = .ok (.imul, 1) := by decide +kernel
theorem dX0_isSameAs_23 : decode cX0_isSameAs 23 = .ok (.if_icmp .ge 26, 3) := by decide +kernel
theorem dX0_isSameAs_26 : decode cX0_isSameAs 26 = .ok (.aload_n 0, 1) := by decide +kernel
theorem dX0_isSameAs_27 : decode cX0_isSameAs 27 = .ok (.getfield 15, 3) := by decide +kernel
theorem dX0_isSameAs_30 : decode cX0_isSameAs 30 = .ok (.iload_n 2, 1) := by decide +kernel
theorem dX0_isSameAs_31 : decode cX0_isSameAs 31 = .ok (.iaload, 1) := by decide +kernel
theorem dX0_isSameAs_32 : decode cX0_isSameAs 32 = .ok (.aload_n 1, 1) := by decide +kernel
theorem dX0_isSameAs_33 : decode cX0_isSameAs 33 = .ok (.getfield 15, 3) := by decide +kernel
theorem dX0_isSameAs_36 : decode cX0_isSameAs 36 = .ok (.iload_n 2, 1) := by decide +kernel
theorem dX0_isSameAs_37 : decode cX0_isSameAs 37 = .ok (.iaload, 1) := by decide +kernel
theorem dX0_isSameAs_38 : decode cX0_isSameAs 38 = .ok (.if_icmp .eq 5, 3) := by decide +kernel
theorem dX0_isSameAs_41 : decode cX0_isSameAs 41 = .ok (.iconst 0, 1) := by decide +kernel
theorem dX0_isSameAs_42 : decode cX0_isSameAs 42 = .ok (.ireturn, 1) := by decide +kernel
theorem dX0_isSameAs_43 : decode cX0_isSameAs 43 = .ok (.iinc 2 1, 3) := by decide +kernel
theorem dX0_isSameAs_46 : decode cX0_isSameAs 46 = .ok (.goto (-31), 3) := by decide +kernel
theorem dX0_isSameAs_49 : decode cX0_isSameAs 49 = .ok (.iconst 1, 1) := by decide +kernel
theorem dX0_isSameAs_50 : decode cX0_isSameAs 50 = .ok (.ireturn, 1) := by decide +kernel
theorem dX1_init_0 : decode cX1_init 0 = .ok (.aload_n 0, 1) := by decide +kernel
theorem dX1_init_1 : decode cX1_init 1 = .ok (.invokespecial 1, 3) := by decide +kernel
theorem dX1_init_4 : decode cX1_init 4 = .ok (.aload_n 0, 1) := by decide +kernel
theorem dX1_init_5 : decode cX1_init 5 = .ok (.iload_n 1, 1) := by decide +kernel
theorem dX1_init_6 : decode cX1_init 6 = .ok (.putfield 7, 3) := by decide +kernel
theorem dX1_init_9 : decode cX1_init 9 = .ok (.aload_n 0, 1) := by decide +kernel
theorem dX1_init_10 : decode cX1_init 10 = .ok (.iload_n 3, 1) := by decide +kernel
theorem dX1_init_11 : decode cX1_init 11 = .ok (.putfield 13, 3) := by decide +kernel
theorem dX1_init_14 : decode cX1_init 14 = .ok (.aload_n 0, 1) := by decide +kernel
theorem dX1_init_15 : decode cX1_init 15 = .ok (.iload_n 2, 1) := by decide +kernel
theorem dX1_init_16 : decode cX1_init 16 = .ok (.putfield 16, 3) := by decide +kernel
theorem dX1_init_19 : decode cX1_init 19 = .ok (.aload_n 0, 1) := by decide +kernel
theorem dX1_init_20 : decode cX1_init 20 = .ok (.iload 4, 2) := by decide +kernel
theorem dX1_init_22 : decode cX1_init 22 = .ok (.putfield 19, 3) := by decide +kernel
theorem dX1_init_25 : decode cX1_init 25 = .ok (.return_, 1) := by decide +kernel
set_option maxRecDepth 20000 in
theorem ggX2_init_X3_init : GoodIn wsX2_init wsX3_init := goodIn_r _ [22, 23, 2, 3, 24, 25, 26, 27, 28, 29, 30, 48, 49, 50, 51, 52, 53] (by decide +kernel) (by decide +kernel)
set_option maxRecDepth 20000 in
theorem gX2_init_X3_init : GoodIn wsX2_init (wsX3_init) := ggX2_init_X3_init
set_option maxRecDepth 20000 in
theorem ggX2_init_X0_init : GoodIn wsX2_init wsX0_init := goodIn_r _ [33, 34, 2, 3, 35, 24, 36, 37, 38, 54, 55, 56, 57] (by decide +kernel) (by decide +kernel)
set_option maxRecDepth 20000 in
theorem gX2_init_X0_init : GoodIn wsX2_init (wsX0_init) := ggX2_init_X0_init
theorem dX2_init_0 : decode cX2_init 0 = .ok (.aload_n 0, 1) := by decide +kernel
theorem dX2_init_1 : decode cX2_init 1 = .ok (.invokespecial 3, 3) := by decide +kernel
theorem dX2_init_4 : decode cX2_init 4 = .ok (.aload_n 0, 1) := by decide +kernel
theorem dX2_init_5 : decode cX2_init 5 = .ok (.iconst 5, 1) := by decide +kernel
theorem dX2_init_6 : decode cX2_init 6 = .ok (.newarray .boolean, 2) := by decide +kernel
theorem dX2_init_8 : decode cX2_init 8 = .ok (.putfield 9, 3) := by decide +kernel
theorem dX2_init_11 : decode cX2_init 11 = .ok (.aload_n 0, 1) := by decide +kernel
theorem dX2_init_12 : decode cX2_init 12 = .ok (.aconst_null, 1) := by decide +kernel
theorem dX2_init_13 : decode cX2_init 13 = .ok (.putfield 15, 3) := by decide +kernel
theorem dX2_init_16 : decode cX2_init 16 = .ok (.aload_n 0, 1) := by decide +kernel
theorem dX2_init_17 : decode cX2_init 17 = .ok (.iconst 0, 1) := by decide +kernel
theorem dX2_init_18 : decode cX2_init 18 = .ok (.putfield 19, 3) := by decide +kernel
theorem dX2_init_21 : decode cX2_init 21 = .ok (.aload_n 0, 1) := by decide +kernel
theorem dX2_init_22 : decode cX2_init 22 = .ok (.iconst 0, 1) := by decide +kernel
theorem dX2_init_23 : decode cX2_init 23 = .ok (.putfield 23, 3) := by decide +kernel
theorem dX2_init_26 : decode cX2_init 26 = .ok (.aload_n 0, 1) := by decide +kernel
theorem dX2_init_27 : decode cX2_init 27 = .ok (.iload_n 1, 1) := by decide +kernel
theorem dX2_init_28 : decode cX2_init 28 = .ok (.putfield 27, 3) := by decide +kernel
theorem dX2_init_31 : decode cX2_init 31 = .ok (.aload_n 0, 1) := by decide +kernel
theorem dX2_init_32 : decode cX2_init 32 = .ok (.iload_n 2, 1) := by decide +kernel
theorem dX2_init_33 : decode cX2_init 33 = .ok (.putfield 30, 3) := by decide +kernel
theorem dX2_init_36 : decode cX2_init 36 = .ok (.aload_n 0, 1) := by decide +kernel
theorem dX2_init_37 : decode cX2_init 37 = .ok (.iload 4, 2) := by decide +kernel
theorem dX2_init_39 : decode cX2_init 39 = .ok (.putfield 33, 3) := by decide +kernel
theorem dX2_init_42 : decode cX2_init 42 = .ok (.aload_n 0, 1) := by decide +kernel
theorem dX2_init_43 : decode cX2_init 43 = .ok (.new 36, 3) := by decide +kernel
theorem dX2_init_46 : decode cX2_init 46 = .ok (.dup, 1) := by decide +kernel
theorem dX2_init_47 : decode cX2_init 47 = .ok (.iload_n 3, 1) := by decide +kernel
theorem dX2_init_48 : decode cX2_init 48 = .ok (.invokespecial 38, 3) := by decide +kernel
theorem dX2_init_51 : decode cX2_init 51 = .ok (.putfield 41, 3) := by decide +kernel
theorem dX2_init_54 : decode cX2_init 54 = .ok (.aload_n 0, 1) := by decide +kernel
theorem dX2_init_55 : decode cX2_init 55 = .ok (.new 45, 3) := by decide +kernel
theorem dX2_init_58 : decode cX2_init 58 = .ok (.dup, 1) := by decide +kernel
theorem dX2_init_59 : decode cX2_init 59 = .ok (.iload_n 3, 1) := by decide +kernel
theorem dX2_init_60 : decode cX2_init 60 = .ok (.invokespecial 47, 3) := by decide +kernel
theorem dX2_init_63 : decode cX2_init 63 = .ok (.putfield 48, 3) := by decide +kernel
theorem dX2_init_66 : decode cX2_init 66 = .ok (.return_, 1) := by decide +kernel
theorem dX2_isPublished_0 : decode cX2_isPublished 0 = .ok (.aload_n 0, 1) := by decide +kernel
theorem dX2_isPublished_1 : decode cX2_isPublished 1 = .ok (.getfield 15, 3) := by decide +kernel
theorem dX2_isPublished_4 : decode cX2_isPublished 4 = .ok (.ifnull 7, 3) := by decide +kernel
theorem dX2_isPublished_7 : decode cX2_isPublished 7 = .ok (.iconst 1, 1) := by decide +kernel
theorem dX2_isPublished_8 : decode cX2_isPublished 8 = .ok (.goto 4, 3) := by decide +kernel
theorem dX2_isPublished_11 : decode cX2_isPublished 11 = .ok (.iconst 0, 1) := by decide +kernel
theorem dX2_isPublished_12 : decode cX2_isPublished 12 = .ok (.ireturn, 1) := by decide +kernel
theorem dX2_hasNoLines_0 : decode cX2_hasNoLines 0 = .ok (.aload_n 0, 1) := by decide +kernel
theorem dX2_hasNoLines_1 : decode cX2_hasNoLines 1 = .ok (.getfield 41, 3) := by decide +kernel
theorem dX2_hasNoLines_4 : decode cX2_hasNoLines 4 = .ok (.getfield 52, 3) := by decide +kernel
theorem dX2_hasNoLines_7 : decode cX2_hasNoLines 7 = .ok (.ifCond .ne 7, 3) := by decide +kernel
theorem dX2_hasNoLines_10 : decode cX2_hasNoLines 10 = .ok (.iconst 1, 1) := by decide +kernel
theorem dX2_hasNoLines_11 : decode cX2_hasNoLines 11 = .ok (.goto 4, 3) := by decide +kernel
theorem dX2_hasNoLines_14 : decode cX2_hasNoLines 14 = .ok (.iconst 0, 1) := by decide +kernel
theorem dX2_hasNoLines_15 : decode cX2_hasNoLines 15 = .ok (.ireturn, 1) := by decide +kernel
theorem dX2_takesLine_0 : decode cX2_takesLine 0 = .ok (.aload_n 0, 1) := by decide +kernel
theorem dX2_takesLine_1 : decode cX2_takesLine 1 = .ok (.getfield 41, 3) := by decide +kernel
theorem dX2_takesLine_4 : decode cX2_takesLine 4 = .ok (.getfield 52, 3) := by decide +kernel
theorem dX2_takesLine_7 : decode cX2_takesLine 7 = .ok (.bipush 6, 2) := by decide +kernel
theorem dX2_takesLine_9 : decode cX2_takesLine 9 = .ok (.if_icmp .ge 21, 3) := by decide +kernel
theorem dX2_takesLine_12 : decode cX2_takesLine 12 = .ok (.aload_n 0, 1) := by decide +kernel
theorem dX2_takesLine_13 : decode cX2_takesLine 13 = .ok (.getfield 48, 3) := by decide +kernel
theorem dX2_takesLine_16 : decode cX2_takesLine 16 = .ok (.getfield 55, 3) := by decide +kernel
theorem dX2_takesLine_19 : decode cX2_takesLine 19 = .ok (.iload_n 1, 1) := by decide +kernel
theorem dX2_takesLine_20 : decode cX2_takesLine 20 = .ok (.iadd, 1) := by decide +kernel
theorem dX2_takesLine_21 : decode cX2_takesLine 21 = .ok (.bipush 40, 2) := by decide +kernel
theorem dX2_takesLine_23 : decode cX2_takesLine 23 = .ok (.if_icmp .gt 7, 3) := by decide +kernel
theorem dX2_takesLine_26 : decode cX2_takesLine 26 = .ok (.iconst 1, 1) := by decide +kernel
theorem dX2_takesLine_27 : decode cX2_takesLine 27 = .ok (.goto 4, 3) := by decide +kernel
theorem dX2_takesLine_30 : decode cX2_takesLine 30 = .ok (.iconst 0, 1) := by decide +kernel
theorem dX2_takesLine_31 : decode cX2_takesLine 31 = .ok (.ireturn, 1) := by decide +kernel
set_option maxRecDepth 20000 in
theorem ggX2_addLine_X3_append : GoodIn wsX2_addLine wsX3_append := goodIn_r _ [7, 8, 9, 10, 11, 12, 48, 49, 50, 51, 52, 53] (by decide +kernel) (by decide +kernel)
set_option maxRecDepth 20000 in
theorem gX2_addLine_X3_append : GoodIn wsX2_addLine (wsV RX2 58 RX3 yX3_append wsX3_append) := goodIn_app (goodIn_of _ (by decide +kernel)) ggX2_addLine_X3_append
set_option maxRecDepth 20000 in
theorem ggX2_addLine_X0_drawLine : GoodIn wsX2_addLine wsX0_drawLine := goodIn_r _ [17, 18, 19, 20, 21, 22, 23, 16, 24, 25, 26, 27, 28, 29, 30, 31, 32, 33, 34, 35, 36, 37, 38, 54, 55, 56, 57] (by decide +kernel) (by decide +kernel)
set_option maxRecDepth 20000 in
theorem gX2_addLine_X0_drawLine : GoodIn wsX2_addLine (wsV RX2 62 RX0 yX0_drawLine wsX0_drawLine) := goodIn_app (goodIn_of _ (by decide +kernel)) ggX2_addLine_X0_drawLine
theorem dX2_addLine_0 : decode cX2_addLine 0 = .ok (.aload_n 0, 1) := by decide +kernel
theorem dX2_addLine_1 : decode cX2_addLine 1 = .ok (.getfield 41, 3) := by decide +kernel
theorem dX2_addLine_4 : decode cX2_addLine 4 = .ok (.iload_n 1, 1) := by decide +kernel
theorem dX2_addLine_5 : decode cX2_addLine 5 = .ok (.iload_n 2, 1) := by decide +kernel
theorem dX2_addLine_6 : decode cX2_addLine 6 = .ok (.iload_n 3, 1) := by decide +kernel
theorem dX2_addLine_7 : decode cX2_addLine 7 = .ok (.iload 4, 2) := by decide +kernel
theorem dX2_addLine_9 : decode cX2_addLine 9 = .ok (.invokevirtual 58, 3) := by decide +kernel
theorem dX2_addLine_12 : decode cX2_addLine 12 = .ok (.aload_n 0, 1) := by decide +kernel
theorem dX2_addLine_13 : decode cX2_addLine 13 = .ok (.getfield 48, 3) := by decide +kernel
theorem dX2_addLine_16 : decode cX2_addLine 16 = .ok (.iload_n 1, 1) := by decide +kernel
theorem dX2_addLine_17 : decode cX2_addLine 17 = .ok (.iload_n 2, 1) := by decide +kernel
theorem dX2_addLine_18 : decode cX2_addLine 18 = .ok (.iload_n 3, 1) := by decide +kernel
theorem dX2_addLine_19 : decode cX2_addLine 19 = .ok (.iload 4, 2) := by decide +kernel
theorem dX2_addLine_21 : decode cX2_addLine 21 = .ok (.invokevirtual 62, 3) := by decide +kernel
theorem dX2_addLine_24 : decode cX2_addLine 24 = .ok (.return_, 1) := by decide +kernel
set_option maxRecDepth 20000 in
theorem ggX2_addLinesFor_X3_timesFor : GoodIn wsX2_addLinesFor wsX3_timesFor := goodIn_r _ [5, 6, 7, 8, 9, 10, 11, 12, 13, 51, 52, 53, 54, 55, 56] (by decide +kernel) (by decide +kernel)
set_option maxRecDepth 20000 in
theorem gX2_addLinesFor_X3_timesFor : GoodIn wsX2_addLinesFor (wsV RX2 75 RX3 yX3_timesFor wsX3_timesFor) := goodIn_app (goodIn_of _ (by decide +kernel)) ggX2_addLinesFor_X3_timesFor
set_option maxRecDepth 20000 in
theorem ggX2_addLinesFor_X2_addLine : GoodIn wsX2_addLinesFor wsX2_addLine := goodIn_r _ [18, 19, 20, 21, 22, 23, 4, 24, 25, 26, 27, 28, 6, 29, 30, 31, 32, 33, 34, 35, 36, 37, 38, 39, 40, 41, 42, 12, 43, 44, 45, 46, 47, 8, 9, 10, 48, 49, 50, 57, 58, 59, 60, 61, 62, 63, 64, 65, 51, 52, 53, 54, 55, 56, 66, 67, 68, 69] (by decide +kernel) (by decide +kernel)
set_option maxRecDepth 20000 in
theorem gX2_addLinesFor_X2_addLine : GoodIn wsX2_addLinesFor (wsV RX2 79 RX2 yX2_addLine wsX2_addLine) := goodIn_app (goodIn_of _ (by decide +kernel)) ggX2_addLinesFor_X2_addLine
theorem dX2_addLinesFor_0 : decode cX2_addLinesFor 0 = .ok (.iconst 0, 1) := by decide +kernel
theorem dX2_addLinesFor_1 : decode cX2_addLinesFor 1 = .ok (.istore_n 3, 1) := by decide +kernel
theorem dX2_addLinesFor_2 : decode cX2_addLinesFor 2 = .ok (.iload_n 3, 1) := by decide +kernel
theorem dX2_addLinesFor_3 : decode cX2_addLinesFor 3 = .ok (.aload_n 2, 1) := by decide +kernel
theorem dX2_addLinesFor_4 : decode cX2_addLinesFor 4 = .ok (.getfield 52, 3) := by decide +kernel
theorem dX2_addLinesFor_7 : decode cX2_addLinesFor 7 = .ok (.if_icmp .ge 37, 3) := by decide +kernel
theorem dX2_addLinesFor_10 : decode cX2_addLinesFor 10 = .ok (.aload_n 0, 1) := by decide +kernel
theorem dX2_addLinesFor_11 : decode cX2_addLinesFor 11 = .ok (.aload_n 2, 1) := by decide +kernel
theorem dX2_addLinesFor_12 : decode cX2_addLinesFor 12 = .ok (.getfield 65, 3) := by decide +kernel
theorem dX2_addLinesFor_15 : decode cX2_addLinesFor 15 = .ok (.iload_n 3, 1) := by decide +kernel
theorem dX2_addLinesFor_16 : decode cX2_addLinesFor 16 = .ok (.iaload, 1) := by decide +kernel
theorem dX2_addLinesFor_17 : decode cX2_addLinesFor 17 = .ok (.aload_n 2, 1) := by decide +kernel
theorem dX2_addLinesFor_18 : decode cX2_addLinesFor 18 = .ok (.getfield 69, 3) := by decide +kernel
theorem dX2_addLinesFor_21 : decode cX2_addLinesFor 21 = .ok (.iload_n 3, 1) := by decide +kernel
theorem dX2_addLinesFor_22 : decode cX2_addLinesFor 22 = .ok (.iaload, 1) := by decide +kernel
theorem dX2_addLinesFor_23 : decode cX2_addLinesFor 23 = .ok (.aload_n 2, 1) := by decide +kernel
theorem dX2_addLinesFor_24 : decode cX2_addLinesFor 24 = .ok (.getfield 72, 3) := by decide +kernel
theorem dX2_addLinesFor_27 : decode cX2_addLinesFor 27 = .ok (.iload_n 3, 1) := by decide +kernel
theorem dX2_addLinesFor_28 : decode cX2_addLinesFor 28 = .ok (.iaload, 1) := by decide +kernel
theorem dX2_addLinesFor_29 : decode cX2_addLinesFor 29 = .ok (.aload_n 2, 1) := by decide +kernel
theorem dX2_addLinesFor_30 : decode cX2_addLinesFor 30 = .ok (.iload_n 1, 1) := by decide +kernel
theorem dX2_addLinesFor_31 : decode cX2_addLinesFor 31 = .ok (.iload_n 3, 1) := by decide +kernel
theorem dX2_addLinesFor_32 : decode cX2_addLinesFor 32 = .ok (.invokevirtual 75, 3) := by decide +kernel
theorem dX2_addLinesFor_35 : decode cX2_addLinesFor 35 = .ok (.invokevirtual 79, 3) := by decide +kernel
theorem dX2_addLinesFor_38 : decode cX2_addLinesFor 38 = .ok (.iinc 3 1, 3) := by decide +kernel
theorem dX2_addLinesFor_41 : decode cX2_addLinesFor 41 = .ok (.goto (-39), 3) := by decide +kernel
theorem dX2_addLinesFor_44 : decode cX2_addLinesFor 44 = .ok (.return_, 1) := by decide +kernel
theorem dX2_mayBeKnittedBy_0 : decode cX2_mayBeKnittedBy 0 = .ok (.iload_n 1, 1) := by decide +kernel
theorem dX2_mayBeKnittedBy_1 : decode cX2_mayBeKnittedBy 1 = .ok (.aload_n 0, 1) := by decide +kernel
theorem dX2_mayBeKnittedBy_2 : decode cX2_mayBeKnittedBy 2 = .ok (.getfield 30, 3) := by decide +kernel
theorem dX2_mayBeKnittedBy_5 : decode cX2_mayBeKnittedBy 5 = .ok (.if_icmp .eq 12, 3) := by decide +kernel
theorem dX2_mayBeKnittedBy_8 : decode cX2_mayBeKnittedBy 8 = .ok (.aload_n 0, 1) := by decide +kernel
theorem dX2_mayBeKnittedBy_9 : decode cX2_mayBeKnittedBy 9 = .ok (.getfield 9, 3) := by decide +kernel
theorem dX2_mayBeKnittedBy_12 : decode cX2_mayBeKnittedBy 12 = .ok (.iload_n 1, 1) := by decide +kernel
theorem dX2_mayBeKnittedBy_13 : decode cX2_mayBeKnittedBy 13 = .ok (.baload, 1) := by decide +kernel
theorem dX2_mayBeKnittedBy_14 : decode cX2_mayBeKnittedBy 14 = .ok (.ifCond .eq 7, 3) := by decide +kernel
theorem dX2_mayBeKnittedBy_17 : decode cX2_mayBeKnittedBy 17 = .ok (.iconst 1, 1) := by decide +kernel
theorem dX2_mayBeKnittedBy_18 : decode cX2_mayBeKnittedBy 18 = .ok (.goto 4, 3) := by decide +kernel
theorem dX2_mayBeKnittedBy_21 : decode cX2_mayBeKnittedBy 21 = .ok (.iconst 0, 1) := by decide +kernel
theorem dX2_mayBeKnittedBy_22 : decode cX2_mayBeKnittedBy 22 = .ok (.ireturn, 1) := by decide +kernel
theorem dX3_init_0 : decode cX3_init 0 = .ok (.aload_n 0, 1) := by decide +kernel
theorem dX3_init_1 : decode cX3_init 1 = .ok (.invokespecial 3, 3) := by decide +kernel
theorem dX3_init_4 : decode cX3_init 4 = .ok (.aload_n 0, 1) := by decide +kernel
theorem dX3_init_5 : decode cX3_init 5 = .ok (.bipush 6, 2) := by decide +kernel
theorem dX3_init_7 : decode cX3_init 7 = .ok (.newarray .int, 2) := by decide +kernel
theorem dX3_init_9 : decode cX3_init 9 = .ok (.putfield 9, 3) := by decide +kernel
theorem dX3_init_12 : decode cX3_init 12 = .ok (.aload_n 0, 1) := by decide +kernel
theorem dX3_init_13 : decode cX3_init 13 = .ok (.bipush 6, 2) := by decide +kernel
theorem dX3_init_15 : decode cX3_init 15 = .ok (.newarray .int, 2) := by decide +kernel
theorem dX3_init_17 : decode cX3_init 17 = .ok (.putfield 15, 3) := by decide +kernel
theorem dX3_init_20 : decode cX3_init 20 = .ok (.aload_n 0, 1) := by decide +kernel
theorem dX3_init_21 : decode cX3_init 21 = .ok (.bipush 6, 2) := by decide +kernel
theorem dX3_init_23 : decode cX3_init 23 = .ok (.newarray .int, 2) := by decide +kernel
theorem dX3_init_25 : decode cX3_init 25 = .ok (.putfield 18, 3) := by decide +kernel
theorem dX3_init_28 : decode cX3_init 28 = .ok (.aload_n 0, 1) := by decide +kernel
theorem dX3_init_29 : decode cX3_init 29 = .ok (.bipush 6, 2) := by decide +kernel
theorem dX3_init_31 : decode cX3_init 31 = .ok (.newarray .int, 2) := by decide +kernel
theorem dX3_init_33 : decode cX3_init 33 = .ok (.putfield 21, 3) := by decide +kernel
theorem dX3_init_36 : decode cX3_init 36 = .ok (.aload_n 0, 1) := by decide +kernel
theorem dX3_init_37 : decode cX3_init 37 = .ok (.iconst 0, 1) := by decide +kernel
theorem dX3_init_38 : decode cX3_init 38 = .ok (.putfield 24, 3) := by decide +kernel
theorem dX3_init_41 : decode cX3_init 41 = .ok (.aload_n 0, 1) := by decide +kernel
theorem dX3_init_42 : decode cX3_init 42 = .ok (.iload_n 1, 1) := by decide +kernel
theorem dX3_init_43 : decode cX3_init 43 = .ok (.putfield 28, 3) := by decide +kernel
theorem dX3_init_46 : decode cX3_init 46 = .ok (.return_, 1) := by decide +kernel
theorem dX3_append_0 : decode cX3_append 0 = .ok (.aload_n 0, 1) := by decide +kernel
theorem dX3_append_1 : decode cX3_append 1 = .ok (.getfield 24, 3) := by decide +kernel
theorem dX3_append_4 : decode cX3_append 4 = .ok (.bipush 6, 2) := by decide +kernel
theorem dX3_append_6 : decode cX3_append 6 = .ok (.if_icmp .ge 54, 3) := by decide +kernel
theorem dX3_append_9 : decode cX3_append 9 = .ok (.aload_n 0, 1) := by decide +kernel
theorem dX3_append_10 : decode cX3_append 10 = .ok (.getfield 9, 3) := by decide +kernel
theorem dX3_append_13 : decode cX3_append 13 = .ok (.aload_n 0, 1) := by decide +kernel
theorem dX3_append_14 : decode cX3_append 14 = .ok (.getfield 24, 3) := by decide +kernel
theorem dX3_append_17 : decode cX3_append 17 = .ok (.iload_n 1, 1) := by decide +kernel
theorem dX3_append_18 : decode cX3_append 18 = .ok (.iastore, 1) := by decide +kernel
theorem dX3_append_19 : decode cX3_append 19 = .ok (.aload_n 0, 1) := by decide +kernel
theorem dX3_append_20 : decode cX3_append 20 = .ok (.getfield 15, 3) := by decide +kernel
theorem dX3_append_23 : decode cX3_append 23 = .ok (.aload_n 0, 1) := by decide +kernel
theorem dX3_append_24 : decode cX3_append 24 = .ok (.getfield 24, 3) := by decide +kernel
theorem dX3_append_27 : decode cX3_append 27 = .ok (.iload_n 2, 1) := by decide +kernel
theorem dX3_append_28 : decode cX3_append 28 = .ok (.iastore, 1) := by decide +kernel
theorem dX3_append_29 : decode cX3_append 29 = .ok (.aload_n 0, 1) := by decide +kernel
theorem dX3_append_30 : decode cX3_append 30 = .ok (.getfield 18, 3) := by decide +kernel
theorem dX3_append_33 : decode cX3_append 33 = .ok (.aload_n 0, 1) := by decide +kernel
theorem dX3_append_34 : decode cX3_append 34 = .ok (.getfield 24, 3) := by decide +kernel
theorem dX3_append_37 : decode cX3_append 37 = .ok (.iload_n 3, 1) := by decide +kernel
theorem dX3_append_38 : decode cX3_append 38 = .ok (.iastore, 1) := by decide +kernel
theorem dX3_append_39 : decode cX3_append 39 = .ok (.aload_n 0, 1) := by decide +kernel
theorem dX3_append_40 : decode cX3_append 40 = .ok (.getfield 21, 3) := by decide +kernel
theorem dX3_append_43 : decode cX3_append 43 = .ok (.aload_n 0, 1) := by decide +kernel
theorem dX3_append_44 : decode cX3_append 44 = .ok (.getfield 24, 3) := by decide +kernel
theorem dX3_append_47 : decode cX3_append 47 = .ok (.iload 4, 2) := by decide +kernel
theorem dX3_append_49 : decode cX3_append 49 = .ok (.iastore, 1) := by decide +kernel
theorem dX3_append_50 : decode cX3_append 50 = .ok (.aload_n 0, 1) := by decide +kernel
theorem dX3_append_51 : decode cX3_append 51 = .ok (.dup, 1) := by decide +kernel
theorem dX3_append_52 : decode cX3_append 52 = .ok (.getfield 24, 3) := by decide +kernel
theorem dX3_append_55 : decode cX3_append 55 = .ok (.iconst 1, 1) := by decide +kernel
theorem dX3_append_56 : decode cX3_append 56 = .ok (.iadd, 1) := by decide +kernel
theorem dX3_append_57 : decode cX3_append 57 = .ok (.putfield 24, 3) := by decide +kernel
theorem dX3_append_60 : decode cX3_append 60 = .ok (.return_, 1) := by decide +kernel
set_option maxRecDepth 20000 in
theorem ggX3_timesFor_X5_forGauge : GoodIn wsX3_timesFor wsX5_forGauge := goodIn_r _ [8] (by decide +kernel) (by decide +kernel)
set_option maxRecDepth 20000 in
theorem gX3_timesFor_X5_forGauge_n31 : GoodIn wsX3_timesFor (wsX5_forGauge) := ggX3_timesFor_X5_forGauge
theorem dX3_timesFor_0 : decode cX3_timesFor 0 = .ok (.iconst 1, 1) := by decide +kernel
theorem dX3_timesFor_1 : decode cX3_timesFor 1 = .ok (.aload_n 0, 1) := by decide +kernel
theorem dX3_timesFor_2 : decode cX3_timesFor 2 = .ok (.getfield 21, 3) := by decide +kernel
theorem dX3_timesFor_5 : decode cX3_timesFor 5 = .ok (.iload_n 2, 1) := by decide +kernel
theorem dX3_timesFor_6 : decode cX3_timesFor 6 = .ok (.iaload, 1) := by decide +kernel
theorem dX3_timesFor_7 : decode cX3_timesFor 7 = .ok (.iload_n 1, 1) := by decide +kernel
theorem dX3_timesFor_8 : decode cX3_timesFor 8 = .ok (.invokestatic 31, 3) := by decide +kernel
theorem dX3_timesFor_11 : decode cX3_timesFor 11 = .ok (.invokestatic 35, 3) := by decide +kernel
theorem dX3_timesFor_14 : decode cX3_timesFor 14 = .ok (.ireturn, 1) := by decide +kernel
set_option maxRecDepth 20000 in
theorem ggX3_rowsFor_X3_timesFor : GoodIn wsX3_rowsFor wsX3_timesFor := goodIn_r _ [6, 7, 8, 9, 10, 11, 12, 13, 14, 15, 16, 17, 18, 19, 20] (by decide +kernel) (by decide +kernel)
set_option maxRecDepth 20000 in
theorem gX3_rowsFor_X3_timesFor : GoodIn wsX3_rowsFor (wsV RX3 40 RX3 yX3_timesFor wsX3_timesFor) := goodIn_app (goodIn_of _ (by decide +kernel)) ggX3_rowsFor_X3_timesFor
theorem dX3_rowsFor_0 : decode cX3_rowsFor 0 = .ok (.iconst 0, 1) := by decide +kernel
theorem dX3_rowsFor_1 : decode cX3_rowsFor 1 = .ok (.istore_n 2, 1) := by decide +kernel
theorem dX3_rowsFor_2 : decode cX3_rowsFor 2 = .ok (.iconst 0, 1) := by decide +kernel
theorem dX3_rowsFor_3 : decode cX3_rowsFor 3 = .ok (.istore_n 3, 1) := by decide +kernel
theorem dX3_rowsFor_4 : decode cX3_rowsFor 4 = .ok (.iload_n 3, 1) := by decide +kernel
theorem dX3_rowsFor_5 : decode cX3_rowsFor 5 = .ok (.aload_n 0, 1) := by decide +kernel
theorem dX3_rowsFor_6 : decode cX3_rowsFor 6 = .ok (.getfield 24, 3) := by decide +kernel
theorem dX3_rowsFor_9 : decode cX3_rowsFor 9 = .ok (.if_icmp .ge 18, 3) := by decide +kernel
theorem dX3_rowsFor_12 : decode cX3_rowsFor 12 = .ok (.iload_n 2, 1) := by decide +kernel
theorem dX3_rowsFor_13 : decode cX3_rowsFor 13 = .ok (.aload_n 0, 1) := by decide +kernel
theorem dX3_rowsFor_14 : decode cX3_rowsFor 14 = .ok (.iload_n 1, 1) := by decide +kernel
theorem dX3_rowsFor_15 : decode cX3_rowsFor 15 = .ok (.iload_n 3, 1) := by decide +kernel
theorem dX3_rowsFor_16 : decode cX3_rowsFor 16 = .ok (.invokevirtual 40, 3) := by decide +kernel
theorem dX3_rowsFor_19 : decode cX3_rowsFor 19 = .ok (.iadd, 1) := by decide +kernel
theorem dX3_rowsFor_20 : decode cX3_rowsFor 20 = .ok (.istore_n 2, 1) := by decide +kernel
theorem dX3_rowsFor_21 : decode cX3_rowsFor 21 = .ok (.iinc 3 1, 3) := by decide +kernel
theorem dX3_rowsFor_24 : decode cX3_rowsFor 24 = .ok (.goto (-20), 3) := by decide +kernel
theorem dX3_rowsFor_27 : decode cX3_rowsFor 27 = .ok (.iload_n 2, 1) := by decide +kernel
theorem dX3_rowsFor_28 : decode cX3_rowsFor 28 = .ok (.ireturn, 1) := by decide +kernel
set_option maxRecDepth 20000 in
theorem ggX3_workTo_X3_workAlong : GoodIn wsX3_workTo wsX3_workAlong := goodIn_r _ [9, 10, 11, 25, 26, 27, 28, 29, 30] (by decide +kernel) (by decide +kernel)
set_option maxRecDepth 20000 in
theorem gX3_workTo_X3_workAlong : GoodIn wsX3_workTo (wsV RX3 43 RX3 yX3_workAlong wsX3_workAlong) := goodIn_app (goodIn_of _ (by decide +kernel)) ggX3_workTo_X3_workAlong
set_option maxRecDepth 20000 in
theorem ggX3_workTo_X5_widthAfter : GoodIn wsX3_workTo wsX5_widthAfter := goodIn_r _ [14, 15, 16, 13, 17, 18, 19, 20, 21, 22, 23, 24] (by decide +kernel) (by decide +kernel)
set_option maxRecDepth 20000 in
theorem gX3_workTo_X5_widthAfter_n46 : GoodIn wsX3_workTo (wsX5_widthAfter) := ggX3_workTo_X5_widthAfter
theorem dX3_workTo_0 : decode cX3_workTo 0 = .ok (.aload_n 0, 1) := by decide +kernel
theorem dX3_workTo_1 : decode cX3_workTo 1 = .ok (.getfield 28, 3) := by decide +kernel
theorem dX3_workTo_4 : decode cX3_workTo 4 = .ok (.istore_n 3, 1) := by decide +kernel
theorem dX3_workTo_5 : decode cX3_workTo 5 = .ok (.iconst 0, 1) := by decide +kernel
theorem dX3_workTo_6 : decode cX3_workTo 6 = .ok (.istore 4, 2) := by decide +kernel
theorem dX3_workTo_8 : decode cX3_workTo 8 = .ok (.iconst 0, 1) := by decide +kernel
theorem dX3_workTo_9 : decode cX3_workTo 9 = .ok (.istore 5, 2) := by decide +kernel
theorem dX3_workTo_11 : decode cX3_workTo 11 = .ok (.iload 5, 2) := by decide +kernel
theorem dX3_workTo_13 : decode cX3_workTo 13 = .ok (.aload_n 0, 1) := by decide +kernel
theorem dX3_workTo_14 : decode cX3_workTo 14 = .ok (.getfield 24, 3) := by decide +kernel
theorem dX3_workTo_17 : decode cX3_workTo 17 = .ok (.if_icmp .ge 68, 3) := by decide +kernel
theorem dX3_workTo_20 : decode cX3_workTo 20 = .ok (.iconst 0, 1) := by decide +kernel
theorem dX3_workTo_21 : decode cX3_workTo 21 = .ok (.istore 6, 2) := by decide +kernel
theorem dX3_workTo_23 : decode cX3_workTo 23 = .ok (.iload 6, 2) := by decide +kernel
theorem dX3_workTo_25 : decode cX3_workTo 25 = .ok (.aload_n 0, 1) := by decide +kernel
theorem dX3_workTo_26 : decode cX3_workTo 26 = .ok (.getfield 21, 3) := by decide +kernel
theorem dX3_workTo_29 : decode cX3_workTo 29 = .ok (.iload 5, 2) := by decide +kernel
theorem dX3_workTo_31 : decode cX3_workTo 31 = .ok (.iaload, 1) := by decide +kernel
theorem dX3_workTo_32 : decode cX3_workTo 32 = .ok (.if_icmp .ge 47, 3) := by decide +kernel
theorem dX3_workTo_35 : decode cX3_workTo 35 = .ok (.iload 4, 2) := by decide +kernel
theorem dX3_workTo_37 : decode cX3_workTo 37 = .ok (.iload_n 1, 1) := by decide +kernel
theorem dX3_workTo_38 : decode cX3_workTo 38 = .ok (.if_icmp .ne 20, 3) := by decide +kernel
theorem dX3_workTo_41 : decode cX3_workTo 41 = .ok (.iload_n 2, 1) := by decide +kernel
theorem dX3_workTo_42 : decode cX3_workTo 42 = .ok (.iload_n 3, 1) := by decide +kernel
theorem dX3_workTo_43 : decode cX3_workTo 43 = .ok (.if_icmp .ge 13, 3) := by decide +kernel
theorem dX3_workTo_46 : decode cX3_workTo 46 = .ok (.aload_n 0, 1) := by decide +kernel
theorem dX3_workTo_47 : decode cX3_workTo 47 = .ok (.iload 5, 2) := by decide +kernel
theorem dX3_workTo_49 : decode cX3_workTo 49 = .ok (.iload_n 2, 1) := by decide +kernel
theorem dX3_workTo_50 : decode cX3_workTo 50 = .ok (.invokevirtual 43, 3) := by decide +kernel
theorem dX3_workTo_53 : decode cX3_workTo 53 = .ok (.goto 4, 3) := by decide +kernel
theorem dX3_workTo_56 : decode cX3_workTo 56 = .ok (.iconst 0, 1) := by decide +kernel
theorem dX3_workTo_57 : decode cX3_workTo 57 = .ok (.ireturn, 1) := by decide +kernel
theorem dX3_workTo_58 : decode cX3_workTo 58 = .ok (.iload_n 3, 1) := by decide +kernel
theorem dX3_workTo_59 : decode cX3_workTo 59 = .ok (.aload_n 0, 1) := by decide +kernel
theorem dX3_workTo_60 : decode cX3_workTo 60 = .ok (.getfield 18, 3) := by decide +kernel
theorem dX3_workTo_63 : decode cX3_workTo 63 = .ok (.iload 5, 2) := by decide +kernel
theorem dX3_workTo_65 : decode cX3_workTo 65 = .ok (.iaload, 1) := by decide +kernel
theorem dX3_workTo_66 : decode cX3_workTo 66 = .ok (.invokestatic 46, 3) := by decide +kernel
theorem dX3_workTo_69 : decode cX3_workTo 69 = .ok (.istore_n 3, 1) := by decide +kernel
theorem dX3_workTo_70 : decode cX3_workTo 70 = .ok (.iinc 4 1, 3) := by decide +kernel
theorem dX3_workTo_73 : decode cX3_workTo 73 = .ok (.iinc 6 1, 3) := by decide +kernel
theorem dX3_workTo_76 : decode cX3_workTo 76 = .ok (.goto (-53), 3) := by decide +kernel
theorem dX3_workTo_79 : decode cX3_workTo 79 = .ok (.iinc 5 1, 3) := by decide +kernel
theorem dX3_workTo_82 : decode cX3_workTo 82 = .ok (.goto (-71), 3) := by decide +kernel
theorem dX3_workTo_85 : decode cX3_workTo 85 = .ok (.iconst 0, 1) := by decide +kernel
theorem dX3_workTo_86 : decode cX3_workTo 86 = .ok (.ireturn, 1) := by decide +kernel
theorem dX3_workAlong_0 : decode cX3_workAlong 0 = .ok (.aload_n 0, 1) := by decide +kernel
theorem dX3_workAlong_1 : decode cX3_workAlong 1 = .ok (.getfield 9, 3) := by decide +kernel
theorem dX3_workAlong_4 : decode cX3_workAlong 4 = .ok (.iload_n 1, 1) := by decide +kernel
theorem dX3_workAlong_5 : decode cX3_workAlong 5 = .ok (.iaload, 1) := by decide +kernel
theorem dX3_workAlong_6 : decode cX3_workAlong 6 = .ok (.aload_n 0, 1) := by decide +kernel
theorem dX3_workAlong_7 : decode cX3_workAlong 7 = .ok (.getfield 15, 3) := by decide +kernel
theorem dX3_workAlong_10 : decode cX3_workAlong 10 = .ok (.iload_n 1, 1) := by decide +kernel
theorem dX3_workAlong_11 : decode cX3_workAlong 11 = .ok (.iaload, 1) := by decide +kernel
theorem dX3_workAlong_12 : decode cX3_workAlong 12 = .ok (.iadd, 1) := by decide +kernel
theorem dX3_workAlong_13 : decode cX3_workAlong 13 = .ok (.iconst 1, 1) := by decide +kernel
theorem dX3_workAlong_14 : decode cX3_workAlong 14 = .ok (.isub, 1) := by decide +kernel
theorem dX3_workAlong_15 : decode cX3_workAlong 15 = .ok (.istore_n 3, 1) := by decide +kernel
theorem dX3_workAlong_16 : decode cX3_workAlong 16 = .ok (.iconst 0, 1) := by decide +kernel
theorem dX3_workAlong_17 : decode cX3_workAlong 17 = .ok (.istore 4, 2) := by decide +kernel
theorem dX3_workAlong_19 : decode cX3_workAlong 19 = .ok (.iconst 0, 1) := by decide +kernel
theorem dX3_workAlong_20 : decode cX3_workAlong 20 = .ok (.istore 5, 2) := by decide +kernel
theorem dX3_workAlong_22 : decode cX3_workAlong 22 = .ok (.iload 5, 2) := by decide +kernel
theorem dX3_workAlong_24 : decode cX3_workAlong 24 = .ok (.iload_n 2, 1) := by decide +kernel
theorem dX3_workAlong_25 : decode cX3_workAlong 25 = .ok (.if_icmp .ge 25, 3) := by decide +kernel
theorem dX3_workAlong_28 : decode cX3_workAlong 28 = .ok (.iload 4, 2) := by decide +kernel
theorem dX3_workAlong_30 : decode cX3_workAlong 30 = .ok (.iload_n 3, 1) := by decide +kernel
theorem dX3_workAlong_31 : decode cX3_workAlong 31 = .ok (.if_icmp .ge 10, 3) := by decide +kernel
theorem dX3_workAlong_34 : decode cX3_workAlong 34 = .ok (.iload 4, 2) := by decide +kernel
theorem dX3_workAlong_36 : decode cX3_workAlong 36 = .ok (.iconst 1, 1) := by decide +kernel
theorem dX3_workAlong_37 : decode cX3_workAlong 37 = .ok (.iadd, 1) := by decide +kernel
theorem dX3_workAlong_38 : decode cX3_workAlong 38 = .ok (.goto 4, 3) := by decide +kernel
theorem dX3_workAlong_41 : decode cX3_workAlong 41 = .ok (.iconst 0, 1) := by decide +kernel
theorem dX3_workAlong_42 : decode cX3_workAlong 42 = .ok (.istore 4, 2) := by decide +kernel
theorem dX3_workAlong_44 : decode cX3_workAlong 44 = .ok (.iinc 5 1, 3) := by decide +kernel
theorem dX3_workAlong_47 : decode cX3_workAlong 47 = .ok (.goto (-25), 3) := by decide +kernel
theorem dX3_workAlong_50 : decode cX3_workAlong 50 = .ok (.iload 4, 2) := by decide +kernel
theorem dX3_workAlong_52 : decode cX3_workAlong 52 = .ok (.aload_n 0, 1) := by decide +kernel
theorem dX3_workAlong_53 : decode cX3_workAlong 53 = .ok (.getfield 9, 3) := by decide +kernel
theorem dX3_workAlong_56 : decode cX3_workAlong 56 = .ok (.iload_n 1, 1) := by decide +kernel
theorem dX3_workAlong_57 : decode cX3_workAlong 57 = .ok (.iaload, 1) := by decide +kernel
theorem dX3_workAlong_58 : decode cX3_workAlong 58 = .ok (.if_icmp .ge 7, 3) := by decide +kernel
theorem dX3_workAlong_61 : decode cX3_workAlong 61 = .ok (.iconst 1, 1) := by decide +kernel
theorem dX3_workAlong_62 : decode cX3_workAlong 62 = .ok (.goto 4, 3) := by decide +kernel
theorem dX3_workAlong_65 : decode cX3_workAlong 65 = .ok (.iconst 2, 1) := by decide +kernel
theorem dX3_workAlong_66 : decode cX3_workAlong 66 = .ok (.ireturn, 1) := by decide +kernel
theorem dX4_init_0 : decode cX4_init 0 = .ok (.aload_n 0, 1) := by decide +kernel
theorem dX4_init_1 : decode cX4_init 1 = .ok (.invokespecial 1, 3) := by decide +kernel
theorem dX4_init_4 : decode cX4_init 4 = .ok (.aload_n 0, 1) := by decide +kernel
theorem dX4_init_5 : decode cX4_init 5 = .ok (.iconst 0, 1) := by decide +kernel
theorem dX4_init_6 : decode cX4_init 6 = .ok (.putfield 7, 3) := by decide +kernel
theorem dX4_init_9 : decode cX4_init 9 = .ok (.aload_n 0, 1) := by decide +kernel
theorem dX4_init_10 : decode cX4_init 10 = .ok (.iload_n 1, 1) := by decide +kernel
theorem dX4_init_11 : decode cX4_init 11 = .ok (.putfield 13, 3) := by decide +kernel
theorem dX4_init_14 : decode cX4_init 14 = .ok (.aload_n 0, 1) := by decide +kernel
theorem dX4_init_15 : decode cX4_init 15 = .ok (.aload_n 2, 1) := by decide +kernel
theorem dX4_init_16 : decode cX4_init 16 = .ok (.putfield 16, 3) := by decide +kernel
theorem dX4_init_19 : decode cX4_init 19 = .ok (.aload_n 0, 1) := by decide +kernel
theorem dX4_init_20 : decode cX4_init 20 = .ok (.aload_n 3, 1) := by decide +kernel
theorem dX4_init_21 : decode cX4_init 21 = .ok (.putfield 20, 3) := by decide +kernel
theorem dX4_init_24 : decode cX4_init 24 = .ok (.return_, 1) := by decide +kernel
set_option maxRecDepth 20000 in
theorem ggX4_knitUpTo_X4_canKnitRow : GoodIn wsX4_knitUpTo wsX4_canKnitRow := goodIn_r _ [8, 3, 9, 10, 11, 1, 12, 13, 2, 14, 15, 16, 7, 17, 18, 19, 20, 21, 22, 23, 24, 25, 26, 27, 28, 33, 34, 35, 36, 37, 38, 39, 40, 41, 42, 43, 44, 45, 29, 30, 31, 32] (by decide +kernel) (by decide +kernel)
set_option maxRecDepth 20000 in
theorem gX4_knitUpTo_X4_canKnitRow : GoodIn wsX4_knitUpTo (wsV RX4 24 RX4 yX4_canKnitRow wsX4_canKnitRow) := goodIn_app (goodIn_of _ (by decide +kernel)) ggX4_knitUpTo_X4_canKnitRow
set_option maxRecDepth 20000 in
theorem ggX4_knitUpTo_X4_yarnOfNextRow : GoodIn wsX4_knitUpTo wsX4_yarnOfNextRow := goodIn_r _ [17, 1, 18, 9, 10, 3, 19, 20, 21, 22, 23, 24, 25, 26, 27, 28, 29, 30, 31, 32, 33, 34, 35, 36, 37, 38, 39, 40, 41, 42, 43, 44, 45] (by decide +kernel) (by decide +kernel)
set_option maxRecDepth 20000 in
theorem gX4_knitUpTo_X4_yarnOfNextRow : GoodIn wsX4_knitUpTo (wsV RX4 33 RX4 yX4_yarnOfNextRow wsX4_yarnOfNextRow) := goodIn_app (goodIn_of _ (by decide +kernel)) ggX4_knitUpTo_X4_yarnOfNextRow
theorem dX4_knitUpTo_0 : decode cX4_knitUpTo 0 = .ok (.iconst 0, 1) := by decide +kernel
theorem dX4_knitUpTo_1 : decode cX4_knitUpTo 1 = .ok (.istore_n 2, 1) := by decide +kernel
theorem dX4_knitUpTo_2 : decode cX4_knitUpTo 2 = .ok (.iload_n 2, 1) := by decide +kernel
theorem dX4_knitUpTo_3 : decode cX4_knitUpTo 3 = .ok (.iload_n 1, 1) := by decide +kernel
theorem dX4_knitUpTo_4 : decode cX4_knitUpTo 4 = .ok (.if_icmp .ge 42, 3) := by decide +kernel
theorem dX4_knitUpTo_7 : decode cX4_knitUpTo 7 = .ok (.aload_n 0, 1) := by decide +kernel
theorem dX4_knitUpTo_8 : decode cX4_knitUpTo 8 = .ok (.invokevirtual 24, 3) := by decide +kernel
theorem dX4_knitUpTo_11 : decode cX4_knitUpTo 11 = .ok (.ifCond .eq 35, 3) := by decide +kernel
theorem dX4_knitUpTo_14 : decode cX4_knitUpTo 14 = .ok (.aload_n 0, 1) := by decide +kernel
theorem dX4_knitUpTo_15 : decode cX4_knitUpTo 15 = .ok (.getfield 20, 3) := by decide +kernel
theorem dX4_knitUpTo_18 : decode cX4_knitUpTo 18 = .ok (.dup, 1) := by decide +kernel
theorem dX4_knitUpTo_19 : decode cX4_knitUpTo 19 = .ok (.getfield 28, 3) := by decide +kernel
theorem dX4_knitUpTo_22 : decode cX4_knitUpTo 22 = .ok (.aload_n 0, 1) := by decide +kernel
theorem dX4_knitUpTo_23 : decode cX4_knitUpTo 23 = .ok (.invokevirtual 33, 3) := by decide +kernel
theorem dX4_knitUpTo_26 : decode cX4_knitUpTo 26 = .ok (.isub, 1) := by decide +kernel
theorem dX4_knitUpTo_27 : decode cX4_knitUpTo 27 = .ok (.putfield 28, 3) := by decide +kernel
theorem dX4_knitUpTo_30 : decode cX4_knitUpTo 30 = .ok (.aload_n 0, 1) := by decide +kernel
theorem dX4_knitUpTo_31 : decode cX4_knitUpTo 31 = .ok (.dup, 1) := by decide +kernel
theorem dX4_knitUpTo_32 : decode cX4_knitUpTo 32 = .ok (.getfield 7, 3) := by decide +kernel
theorem dX4_knitUpTo_35 : decode cX4_knitUpTo 35 = .ok (.iconst 1, 1) := by decide +kernel
theorem dX4_knitUpTo_36 : decode cX4_knitUpTo 36 = .ok (.iadd, 1) := by decide +kernel
theorem dX4_knitUpTo_37 : decode cX4_knitUpTo 37 = .ok (.putfield 7, 3) := by decide +kernel
theorem dX4_knitUpTo_40 : decode cX4_knitUpTo 40 = .ok (.iinc 2 1, 3) := by decide +kernel
theorem dX4_knitUpTo_43 : decode cX4_knitUpTo 43 = .ok (.goto (-41), 3) := by decide +kernel
theorem dX4_knitUpTo_46 : decode cX4_knitUpTo 46 = .ok (.iload_n 2, 1) := by decide +kernel
theorem dX4_knitUpTo_47 : decode cX4_knitUpTo 47 = .ok (.ireturn, 1) := by decide +kernel
set_option maxRecDepth 20000 in
theorem ggX4_canKnitRow_X4_yarnOfNextRow : GoodIn wsX4_canKnitRow wsX4_yarnOfNextRow := goodIn_r _ [13, 5, 14, 2, 3, 1, 15, 16, 17, 18, 19, 20, 21, 22, 23, 24, 38, 39, 40, 41, 25, 26, 27, 28, 29, 30, 31, 32, 33, 34, 35, 36, 37] (by decide +kernel) (by decide +kernel)
set_option maxRecDepth 20000 in
theorem gX4_canKnitRow_X4_yarnOfNextRow : GoodIn wsX4_canKnitRow (wsV RX4 33 RX4 yX4_yarnOfNextRow wsX4_yarnOfNextRow) := goodIn_app (goodIn_of _ (by decide +kernel)) ggX4_canKnitRow_X4_yarnOfNextRow
theorem dX4_canKnitRow_0 : decode cX4_canKnitRow 0 = .ok (.aload_n 0, 1) := by decide +kernel
theorem dX4_canKnitRow_1 : decode cX4_canKnitRow 1 = .ok (.getfield 7, 3) := by decide +kernel
theorem dX4_canKnitRow_4 : decode cX4_canKnitRow 4 = .ok (.aload_n 0, 1) := by decide +kernel
theorem dX4_canKnitRow_5 : decode cX4_canKnitRow 5 = .ok (.getfield 16, 3) := by decide +kernel
theorem dX4_canKnitRow_8 : decode cX4_canKnitRow 8 = .ok (.getfield 37, 3) := by decide +kernel
theorem dX4_canKnitRow_11 : decode cX4_canKnitRow 11 = .ok (.getfield 43, 3) := by decide +kernel
theorem dX4_canKnitRow_14 : decode cX4_canKnitRow 14 = .ok (.if_icmp .ge 35, 3) := by decide +kernel
theorem dX4_canKnitRow_17 : decode cX4_canKnitRow 17 = .ok (.aload_n 0, 1) := by decide +kernel
theorem dX4_canKnitRow_18 : decode cX4_canKnitRow 18 = .ok (.getfield 20, 3) := by decide +kernel
theorem dX4_canKnitRow_21 : decode cX4_canKnitRow 21 = .ok (.getfield 48, 3) := by decide +kernel
theorem dX4_canKnitRow_24 : decode cX4_canKnitRow 24 = .ok (.aload_n 0, 1) := by decide +kernel
theorem dX4_canKnitRow_25 : decode cX4_canKnitRow 25 = .ok (.getfield 13, 3) := by decide +kernel
theorem dX4_canKnitRow_28 : decode cX4_canKnitRow 28 = .ok (.if_icmp .ne 21, 3) := by decide +kernel
theorem dX4_canKnitRow_31 : decode cX4_canKnitRow 31 = .ok (.aload_n 0, 1) := by decide +kernel
theorem dX4_canKnitRow_32 : decode cX4_canKnitRow 32 = .ok (.getfield 20, 3) := by decide +kernel
theorem dX4_canKnitRow_35 : decode cX4_canKnitRow 35 = .ok (.getfield 28, 3) := by decide +kernel
theorem dX4_canKnitRow_38 : decode cX4_canKnitRow 38 = .ok (.aload_n 0, 1) := by decide +kernel
theorem dX4_canKnitRow_39 : decode cX4_canKnitRow 39 = .ok (.invokevirtual 33, 3) := by decide +kernel
theorem dX4_canKnitRow_42 : decode cX4_canKnitRow 42 = .ok (.if_icmp .lt 7, 3) := by decide +kernel
theorem dX4_canKnitRow_45 : decode cX4_canKnitRow 45 = .ok (.iconst 1, 1) := by decide +kernel
theorem dX4_canKnitRow_46 : decode cX4_canKnitRow 46 = .ok (.goto 4, 3) := by decide +kernel
theorem dX4_canKnitRow_49 : decode cX4_canKnitRow 49 = .ok (.iconst 0, 1) := by decide +kernel
theorem dX4_canKnitRow_50 : decode cX4_canKnitRow 50 = .ok (.ireturn, 1) := by decide +kernel
set_option maxRecDepth 20000 in
theorem ggX4_yarnOfNextRow_X0_yarnOf : GoodIn wsX4_yarnOfNextRow wsX0_yarnOf := goodIn_r _ [10, 11, 29, 30, 31, 32] (by decide +kernel) (by decide +kernel)
set_option maxRecDepth 20000 in
theorem gX4_yarnOfNextRow_X0_yarnOf : GoodIn wsX4_yarnOfNextRow (wsV RX4 52 RX0 yX0_yarnOf wsX0_yarnOf) := goodIn_app (goodIn_of _ (by decide +kernel)) ggX4_yarnOfNextRow_X0_yarnOf
theorem dX4_yarnOfNextRow_0 : decode cX4_yarnOfNextRow 0 = .ok (.aload_n 0, 1) := by decide +kernel
theorem dX4_yarnOfNextRow_1 : decode cX4_yarnOfNextRow 1 = .ok (.getfield 20, 3) := by decide +kernel
theorem dX4_yarnOfNextRow_4 : decode cX4_yarnOfNextRow 4 = .ok (.getfield 49, 3) := by decide +kernel
theorem dX4_yarnOfNextRow_7 : decode cX4_yarnOfNextRow 7 = .ok (.aload_n 0, 1) := by decide +kernel
theorem dX4_yarnOfNextRow_8 : decode cX4_yarnOfNextRow 8 = .ok (.getfield 16, 3) := by decide +kernel
theorem dX4_yarnOfNextRow_11 : decode cX4_yarnOfNextRow 11 = .ok (.getfield 37, 3) := by decide +kernel
theorem dX4_yarnOfNextRow_14 : decode cX4_yarnOfNextRow 14 = .ok (.aload_n 0, 1) := by decide +kernel
theorem dX4_yarnOfNextRow_15 : decode cX4_yarnOfNextRow 15 = .ok (.getfield 7, 3) := by decide +kernel
theorem dX4_yarnOfNextRow_18 : decode cX4_yarnOfNextRow 18 = .ok (.invokevirtual 52, 3) := by decide +kernel
theorem dX4_yarnOfNextRow_21 : decode cX4_yarnOfNextRow 21 = .ok (.imul, 1) := by decide +kernel
theorem dX4_yarnOfNextRow_22 : decode cX4_yarnOfNextRow 22 = .ok (.ireturn, 1) := by decide +kernel
set_option maxRecDepth 20000 in
theorem ggX5_init_Jx4a65c_init_da8c8 : GoodIn wsX5_init wsJx4a65c_init_da8c8 := goodIn_r _ [15, 16, 17, 18, 19, 20, 21, 22, 23, 24, 25, 26, 27, 2, 3, 28, 29, 30] (by decide +kernel) (by decide +kernel)
set_option maxRecDepth 20000 in
theorem gX5_init_Jx4a65c_init_da8c8 : GoodIn wsX5_init (wsJx4a65c_init_da8c8) := ggX5_init_Jx4a65c_init_da8c8
theorem dX5_init_0 : decode cX5_init 0 = .ok (.aload_n 0, 1) := by decide +kernel
theorem dX5_init_1 : decode cX5_init 1 = .ok (.invokespecial 1, 3) := by decide +kernel
theorem dX5_init_4 : decode cX5_init 4 = .ok (.aload_n 0, 1) := by decide +kernel
theorem dX5_init_5 : decode cX5_init 5 = .ok (.new 7, 3) := by decide +kernel
theorem dX5_init_8 : decode cX5_init 8 = .ok (.dup, 1) := by decide +kernel
theorem dX5_init_9 : decode cX5_init 9 = .ok (.invokespecial 9, 3) := by decide +kernel
theorem dX5_init_12 : decode cX5_init 12 = .ok (.putfield 10, 3) := by decide +kernel
theorem dX5_init_15 : decode cX5_init 15 = .ok (.aload_n 0, 1) := by decide +kernel
theorem dX5_init_16 : decode cX5_init 16 = .ok (.new 7, 3) := by decide +kernel
theorem dX5_init_19 : decode cX5_init 19 = .ok (.dup, 1) := by decide +kernel
theorem dX5_init_20 : decode cX5_init 20 = .ok (.invokespecial 9, 3) := by decide +kernel
theorem dX5_init_23 : decode cX5_init 23 = .ok (.putfield 16, 3) := by decide +kernel
theorem dX5_init_26 : decode cX5_init 26 = .ok (.aload_n 0, 1) := by decide +kernel
theorem dX5_init_27 : decode cX5_init 27 = .ok (.new 7, 3) := by decide +kernel
theorem dX5_init_30 : decode cX5_init 30 = .ok (.dup, 1) := by decide +kernel
theorem dX5_init_31 : decode cX5_init 31 = .ok (.invokespecial 9, 3) := by decide +kernel
theorem dX5_init_34 : decode cX5_init 34 = .ok (.putfield 19, 3) := by decide +kernel
theorem dX5_init_37 : decode cX5_init 37 = .ok (.aload_n 0, 1) := by decide +kernel
theorem dX5_init_38 : decode cX5_init 38 = .ok (.new 7, 3) := by decide +kernel
theorem dX5_init_41 : decode cX5_init 41 = .ok (.dup, 1) := by decide +kernel
theorem dX5_init_42 : decode cX5_init 42 = .ok (.invokespecial 9, 3) := by decide +kernel
theorem dX5_init_45 : decode cX5_init 45 = .ok (.putfield 22, 3) := by decide +kernel
theorem dX5_init_48 : decode cX5_init 48 = .ok (.aload_n 0, 1) := by decide +kernel
theorem dX5_init_49 : decode cX5_init 49 = .ok (.iconst 5, 1) := by decide +kernel
theorem dX5_init_50 : decode cX5_init 50 = .ok (.newarray .int, 2) := by decide +kernel
theorem dX5_init_52 : decode cX5_init 52 = .ok (.putfield 25, 3) := by decide +kernel
theorem dX5_init_55 : decode cX5_init 55 = .ok (.return_, 1) := by decide +kernel
set_option maxRecDepth 20000 in
theorem ggX5_begin_X5_checkPerson : GoodIn wsX5_begin wsX5_checkPerson := goodIn_ca (goodIn_r _ [5, 6, 7] (by decide +kernel) (by decide +kernel)) (goodIn_sub (fun _ h => List.mem_cons_of_mem _ (List.mem_append_left _ (List.mem_append_left _ (List.mem_append_right _ h)))) (by decide +kernel))
set_option maxRecDepth 20000 in
theorem gX5_begin_X5_checkPerson : GoodIn wsX5_begin (va_wsS RX5 29 yX5_checkPerson wsX5_checkPerson) := goodIn_app (goodIn_of _ (by decide +kernel)) ggX5_begin_X5_checkPerson
set_option maxRecDepth 20000 in
theorem ggX5_begin_X5_checkRange : GoodIn wsX5_begin wsX5_checkRange := goodIn_ca (goodIn_r _ [10, 11, 12] (by decide +kernel) (by decide +kernel)) (goodIn_sub (fun _ h => List.mem_cons_of_mem _ (List.mem_append_left _ (List.mem_append_right _ h))) (by decide +kernel))
set_option maxRecDepth 20000 in
theorem gX5_begin_X5_checkRange : GoodIn wsX5_begin (va_wsS RX5 33 yX5_checkRange wsX5_checkRange) := goodIn_app (goodIn_of _ (by decide +kernel)) ggX5_begin_X5_checkRange
set_option maxRecDepth 20000 in
theorem ggX5_begin_X5_checkRoomForPattern : GoodIn wsX5_begin wsX5_checkRoomForPattern := goodIn_ca (goodIn_r _ [16, 17, 18, 19, 20, 21, 22, 23, 24, 25, 137, 138, 139, 140, 141, 142, 143, 144] (by decide +kernel) (by decide +kernel)) (goodIn_sub (fun _ h => List.mem_cons_of_mem _ (List.mem_append_right _ h)) (by decide +kernel))
set_option maxRecDepth 20000 in
theorem gX5_begin_X5_checkRoomForPattern : GoodIn wsX5_begin (wsV RX5 37 RX5 yX5_checkRoomForPattern wsX5_checkRoomForPattern) := goodIn_app (goodIn_of _ (by decide +kernel)) ggX5_begin_X5_checkRoomForPattern
set_option maxRecDepth 20000 in
theorem ggX5_begin_X5_addPattern : GoodIn wsX5_begin wsX5_addPattern := goodIn_r _ [29, 30, 31, 32, 19, 20, 21, 22, 23, 24, 25, 33, 34, 35, 36, 37, 38, 39, 40, 41, 42, 43, 44, 45, 46, 47, 48, 49, 50, 51, 52, 53, 54, 55, 56, 57, 58, 59, 60, 61, 62, 63, 64, 65, 66, 67, 68, 69, 70, 71, 72, 73, 74, 75, 76, 77, 78, 79, 80, 81, 82, 83, 84, 85, 86, 87, 88, 89, 90, 91, 92, 93, 94, 95, 96, 97, 98, 99, 100, 101, 102, 103, 104, 105, 106, 107, 108, 109, 110, 111, 112, 113, 114, 115, 116, 117, 118, 119, 120, 121, 122, 123, 124, 125, 126, 127, 128, 129, 130, 131, 132, 133, 134, 135, 136, 137, 138, 139, 140, 141, 142, 143, 144, 145, 146, 147, 148, 149, 150, 151, 152, 153, 154] (by decide +kernel) (by decide +kernel)
set_option maxRecDepth 20000 in
theorem gX5_begin_X5_addPattern : GoodIn wsX5_begin (wsV RX5 40 RX5 yX5_addPattern wsX5_addPattern) := goodIn_app (goodIn_of _ (by decide +kernel)) ggX5_begin_X5_addPattern
theorem dX5_begin_0 : decode cX5_begin 0 = .ok (.iload_n 1, 1) := by decide +kernel
theorem dX5_begin_1 : decode cX5_begin 1 = .ok (.invokestatic 29, 3) := by decide +kernel
theorem dX5_begin_4 : decode cX5_begin 4 = .ok (.iload_n 2, 1) := by decide +kernel
theorem dX5_begin_5 : decode cX5_begin 5 = .ok (.iconst 1, 1) := by decide +kernel
theorem dX5_begin_6 : decode cX5_begin 6 = .ok (.bipush 20, 2) := by decide +kernel
theorem dX5_begin_8 : decode cX5_begin 8 = .ok (.invokestatic 33, 3) := by decide +kernel
theorem dX5_begin_11 : decode cX5_begin 11 = .ok (.iload_n 3, 1) := by decide +kernel
theorem dX5_begin_12 : decode cX5_begin 12 = .ok (.iconst 0, 1) := by decide +kernel
theorem dX5_begin_13 : decode cX5_begin 13 = .ok (.sipush 1000, 3) := by decide +kernel
theorem dX5_begin_16 : decode cX5_begin 16 = .ok (.invokestatic 33, 3) := by decide +kernel
theorem dX5_begin_19 : decode cX5_begin 19 = .ok (.aload_n 0, 1) := by decide +kernel
theorem dX5_begin_20 : decode cX5_begin 20 = .ok (.invokevirtual 37, 3) := by decide +kernel
theorem dX5_begin_23 : decode cX5_begin 23 = .ok (.aload_n 0, 1) := by decide +kernel
theorem dX5_begin_24 : decode cX5_begin 24 = .ok (.iload_n 1, 1) := by decide +kernel
theorem dX5_begin_25 : decode cX5_begin 25 = .ok (.iload_n 2, 1) := by decide +kernel
theorem dX5_begin_26 : decode cX5_begin 26 = .ok (.iload_n 3, 1) := by decide +kernel
theorem dX5_begin_27 : decode cX5_begin 27 = .ok (.invokevirtual 40, 3) := by decide +kernel
theorem dX5_begin_30 : decode cX5_begin 30 = .ok (.getfield 44, 3) := by decide +kernel
theorem dX5_begin_33 : decode cX5_begin 33 = .ok (.ireturn, 1) := by decide +kernel
set_option maxRecDepth 20000 in
theorem ggX5_line_X5_patternAt : GoodIn wsX5_line wsX5_patternAt := goodIn_ca (goodIn_r _ [11, 12, 13, 14, 15, 16, 17, 18, 19, 20, 21, 22, 23, 24, 25, 26, 27, 28, 29, 30, 31, 32, 33, 34, 35, 36, 37, 38, 107, 108, 109, 110, 111, 112, 113, 114] (by decide +kernel) (by decide +kernel)) (goodIn_sub (fun _ h => List.mem_cons_of_mem _ (List.mem_append_right _ h)) (by decide +kernel))
set_option maxRecDepth 20000 in
theorem gX5_line_X5_patternAt : GoodIn wsX5_line (wsV RX5 50 RX5 yX5_patternAt wsX5_patternAt) := goodIn_app (goodIn_of _ (by decide +kernel)) ggX5_line_X5_patternAt
set_option maxRecDepth 20000 in
theorem ggX5_line_X5_checkRange : GoodIn wsX5_line wsX5_checkRange := goodIn_ca (goodIn_r _ [41, 1, 2] (by decide +kernel) (by decide +kernel)) (goodIn_sub (fun _ h => List.mem_cons_of_mem _ (List.mem_append_left _ (List.mem_append_left _ (List.mem_append_right _ h)))) (by decide +kernel))
set_option maxRecDepth 20000 in
theorem gX5_line_X5_checkRange : GoodIn wsX5_line (va_wsS RX5 33 yX5_checkRange wsX5_checkRange) := goodIn_app (goodIn_of _ (by decide +kernel)) ggX5_line_X5_checkRange
set_option maxRecDepth 20000 in
theorem ggX5_line_X2_isPublished : GoodIn wsX5_line wsX2_isPublished := goodIn_r _ [46, 47, 94, 95, 96, 97, 98, 99, 100, 101, 102] (by decide +kernel) (by decide +kernel)
set_option maxRecDepth 20000 in
theorem gX5_line_X2_isPublished : GoodIn wsX5_line (wsV RX5 61 RX2 yX2_isPublished wsX2_isPublished) := goodIn_app (goodIn_of _ (by decide +kernel)) ggX5_line_X2_isPublished
set_option maxRecDepth 20000 in
theorem ggX5_line_X2_takesLine : GoodIn wsX5_line wsX2_takesLine := goodIn_r _ [51, 52, 53, 54, 94, 95, 96, 97, 98, 99, 100, 101, 102, 115, 116, 117, 118, 119, 120, 103, 104, 105, 106] (by decide +kernel) (by decide +kernel)
set_option maxRecDepth 20000 in
theorem gX5_line_X2_takesLine : GoodIn wsX5_line (wsV RX5 65 RX2 yX2_takesLine wsX2_takesLine) := goodIn_app (goodIn_of _ (by decide +kernel)) ggX5_line_X2_takesLine
set_option maxRecDepth 20000 in
theorem ggX5_line_X2_addLine : GoodIn wsX5_line wsX2_addLine := goodIn_r _ [58, 52, 53, 59, 60, 61, 62, 63, 64, 65, 66, 67, 68, 69, 70, 71, 72, 73, 74, 75, 76, 77, 78, 79, 80, 81, 82, 10, 83, 84, 85, 86, 87, 88, 89, 90, 91, 92, 93, 94, 95, 96, 97, 98, 99, 100, 101, 102, 115, 116, 117, 118, 119, 120, 103, 104, 105, 106] (by decide +kernel) (by decide +kernel)
set_option maxRecDepth 20000 in
theorem gX5_line_X2_addLine : GoodIn wsX5_line (wsV RX5 74 RX2 yX2_addLine wsX2_addLine) := goodIn_app (goodIn_of _ (by decide +kernel)) ggX5_line_X2_addLine
theorem dX5_line_0 : decode cX5_line 0 = .ok (.aload_n 0, 1) := by decide +kernel
theorem dX5_line_1 : decode cX5_line 1 = .ok (.iload_n 1, 1) := by decide +kernel
theorem dX5_line_2 : decode cX5_line 2 = .ok (.invokevirtual 50, 3) := by decide +kernel
theorem dX5_line_5 : decode cX5_line 5 = .ok (.astore 6, 2) := by decide +kernel
theorem dX5_line_7 : decode cX5_line 7 = .ok (.iload_n 2, 1) := by decide +kernel
theorem dX5_line_8 : decode cX5_line 8 = .ok (.iconst 0, 1) := by decide +kernel
theorem dX5_line_9 : decode cX5_line 9 = .ok (.bipush 9, 2) := by decide +kernel
theorem dX5_line_11 : decode cX5_line 11 = .ok (.invokestatic 33, 3) := by decide +kernel
theorem dX5_line_14 : decode cX5_line 14 = .ok (.iload_n 3, 1) := by decide +kernel
theorem dX5_line_15 : decode cX5_line 15 = .ok (.iconst 0, 1) := by decide +kernel
theorem dX5_line_16 : decode cX5_line 16 = .ok (.bipush 9, 2) := by decide +kernel
theorem dX5_line_18 : decode cX5_line 18 = .ok (.invokestatic 33, 3) := by decide +kernel
theorem dX5_line_21 : decode cX5_line 21 = .ok (.iload 4, 2) := by decide +kernel
theorem dX5_line_23 : decode cX5_line 23 = .ok (.bipush (-3), 2) := by decide +kernel
theorem dX5_line_25 : decode cX5_line 25 = .ok (.iconst 3, 1) := by decide +kernel
theorem dX5_line_26 : decode cX5_line 26 = .ok (.invokestatic 33, 3) := by decide +kernel
theorem dX5_line_29 : decode cX5_line 29 = .ok (.iload 5, 2) := by decide +kernel
theorem dX5_line_31 : decode cX5_line 31 = .ok (.iconst 1, 1) := by decide +kernel
theorem dX5_line_32 : decode cX5_line 32 = .ok (.bipush 20, 2) := by decide +kernel
theorem dX5_line_34 : decode cX5_line 34 = .ok (.invokestatic 33, 3) := by decide +kernel
theorem dX5_line_37 : decode cX5_line 37 = .ok (.iload_n 2, 1) := by decide +kernel
theorem dX5_line_38 : decode cX5_line 38 = .ok (.ifCond .ne 17, 3) := by decide +kernel
theorem dX5_line_41 : decode cX5_line 41 = .ok (.iload_n 3, 1) := by decide +kernel
theorem dX5_line_42 : decode cX5_line 42 = .ok (.ifCond .ne 13, 3) := by decide +kernel
theorem dX5_line_45 : decode cX5_line 45 = .ok (.new 54, 3) := by decide +kernel
theorem dX5_line_48 : decode cX5_line 48 = .ok (.dup, 1) := by decide +kernel
theorem dX5_line_49 : decode cX5_line 49 = .ok (.ldc 56, 2) := by decide +kernel
theorem dX5_line_51 : decode cX5_line 51 = .ok (.invokespecial 58, 3) := by decide +kernel
theorem dX5_line_54 : decode cX5_line 54 = .ok (.athrow, 1) := by decide +kernel
theorem dX5_line_55 : decode cX5_line 55 = .ok (.aload 6, 2) := by decide +kernel
theorem dX5_line_57 : decode cX5_line 57 = .ok (.invokevirtual 61, 3) := by decide +kernel
theorem dX5_line_60 : decode cX5_line 60 = .ok (.ifCond .ne 13, 3) := by decide +kernel
theorem dX5_line_63 : decode cX5_line 63 = .ok (.aload 6, 2) := by decide +kernel
theorem dX5_line_65 : decode cX5_line 65 = .ok (.iload 5, 2) := by decide +kernel
theorem dX5_line_67 : decode cX5_line 67 = .ok (.invokevirtual 65, 3) := by decide +kernel
theorem dX5_line_70 : decode cX5_line 70 = .ok (.ifCond .ne 13, 3) := by decide +kernel
theorem dX5_line_73 : decode cX5_line 73 = .ok (.new 69, 3) := by decide +kernel
theorem dX5_line_76 : decode cX5_line 76 = .ok (.dup, 1) := by decide +kernel
theorem dX5_line_77 : decode cX5_line 77 = .ok (.ldc 71, 2) := by decide +kernel
theorem dX5_line_79 : decode cX5_line 79 = .ok (.invokespecial 73, 3) := by decide +kernel
theorem dX5_line_82 : decode cX5_line 82 = .ok (.athrow, 1) := by decide +kernel
theorem dX5_line_83 : decode cX5_line 83 = .ok (.aload 6, 2) := by decide +kernel
theorem dX5_line_85 : decode cX5_line 85 = .ok (.iload_n 2, 1) := by decide +kernel
theorem dX5_line_86 : decode cX5_line 86 = .ok (.iload_n 3, 1) := by decide +kernel
theorem dX5_line_87 : decode cX5_line 87 = .ok (.iload 4, 2) := by decide +kernel
theorem dX5_line_89 : decode cX5_line 89 = .ok (.iload 5, 2) := by decide +kernel
theorem dX5_line_91 : decode cX5_line 91 = .ok (.invokevirtual 74, 3) := by decide +kernel
theorem dX5_line_94 : decode cX5_line 94 = .ok (.aload 6, 2) := by decide +kernel
theorem dX5_line_96 : decode cX5_line 96 = .ok (.getfield 78, 3) := by decide +kernel
theorem dX5_line_99 : decode cX5_line 99 = .ok (.getfield 82, 3) := by decide +kernel
theorem dX5_line_102 : decode cX5_line 102 = .ok (.ireturn, 1) := by decide +kernel
set_option maxRecDepth 20000 in
theorem ggX5_anew_X5_patternAt : GoodIn wsX5_anew wsX5_patternAt := goodIn_ca (goodIn_r _ [12, 13, 14, 15, 16, 17, 18, 19, 20, 21, 22, 23, 24, 25, 26, 27, 28, 29, 30, 31, 32, 33, 34, 35, 36, 37, 38, 39, 212, 213, 214, 215, 216, 217, 218, 219] (by decide +kernel) (by decide +kernel)) (goodIn_sub (fun _ h => List.mem_cons_of_mem _ (List.mem_append_left _ (List.mem_append_right _ h))) (by decide +kernel))
set_option maxRecDepth 20000 in
theorem gX5_anew_X5_patternAt : GoodIn wsX5_anew (wsV RX5 50 RX5 yX5_patternAt wsX5_patternAt) := goodIn_app (goodIn_of _ (by decide +kernel)) ggX5_anew_X5_patternAt
set_option maxRecDepth 20000 in
theorem ggX5_anew_X5_checkGauge : GoodIn wsX5_anew wsX5_checkGauge := goodIn_ca (goodIn_r _ [42, 43, 44, 11, 45, 46, 47] (by decide +kernel) (by decide +kernel)) (goodIn_sub (fun _ h => List.mem_cons_of_mem _ (List.mem_append_right _ h)) (by decide +kernel))
set_option maxRecDepth 20000 in
theorem gX5_anew_X5_checkGauge : GoodIn wsX5_anew (va_wsS RX5 87 yX5_checkGauge wsX5_checkGauge) := goodIn_app (goodIn_of _ (by decide +kernel)) ggX5_anew_X5_checkGauge
set_option maxRecDepth 20000 in
theorem ggX5_anew_X2_hasNoLines : GoodIn wsX5_anew wsX2_hasNoLines := goodIn_r _ [52, 53, 197, 198, 199, 200, 201, 202, 203, 204, 205, 206, 207, 208, 209, 210, 211] (by decide +kernel) (by decide +kernel)
set_option maxRecDepth 20000 in
theorem gX5_anew_X2_hasNoLines : GoodIn wsX5_anew (wsV RX5 90 RX2 yX2_hasNoLines wsX2_hasNoLines) := goodIn_app (goodIn_of _ (by decide +kernel)) ggX5_anew_X2_hasNoLines
set_option maxRecDepth 20000 in
theorem ggX5_anew_X3_rowsFor : GoodIn wsX5_anew wsX3_rowsFor := goodIn_r _ [58, 59, 60, 61, 62, 57, 63, 64, 65, 66, 67, 68, 69, 11, 70, 206, 207, 208, 209, 210, 211] (by decide +kernel) (by decide +kernel)
set_option maxRecDepth 20000 in
theorem gX5_anew_X3_rowsFor : GoodIn wsX5_anew (wsV RX5 97 RX3 yX3_rowsFor wsX3_rowsFor) := goodIn_app (goodIn_of _ (by decide +kernel)) ggX5_anew_X3_rowsFor
set_option maxRecDepth 20000 in
theorem ggX5_anew_X5_checkRoomForPattern : GoodIn wsX5_anew wsX5_checkRoomForPattern := goodIn_ca (goodIn_r _ [74, 1, 2, 15, 17, 18, 19, 20, 21, 22, 212, 213, 214, 215, 216, 217, 218, 219] (by decide +kernel) (by decide +kernel)) (goodIn_sub (fun _ h => List.mem_cons_of_mem _ (List.mem_append_left _ (List.mem_append_left _ (List.mem_append_right _ h)))) (by decide +kernel))
set_option maxRecDepth 20000 in
theorem gX5_anew_X5_checkRoomForPattern : GoodIn wsX5_anew (wsV RX5 37 RX5 yX5_checkRoomForPattern wsX5_checkRoomForPattern) := goodIn_app (goodIn_of _ (by decide +kernel)) ggX5_anew_X5_checkRoomForPattern
set_option maxRecDepth 20000 in
theorem ggX5_anew_X5_forGauge : GoodIn wsX5_anew wsX5_forGauge := goodIn_r _ [70] (by decide +kernel) (by decide +kernel)
set_option maxRecDepth 20000 in
theorem gX5_anew_X5_forGauge : GoodIn wsX5_anew (va_wsS RX5 108 yX5_forGauge wsX5_forGauge) := goodIn_app (goodIn_of _ (by decide +kernel)) ggX5_anew_X5_forGauge
set_option maxRecDepth 20000 in
theorem ggX5_anew_X5_within : GoodIn wsX5_anew wsX5_within := goodIn_r _ [78, 79, 66, 67, 68, 80, 81, 82] (by decide +kernel) (by decide +kernel)
set_option maxRecDepth 20000 in
theorem gX5_anew_X5_within : GoodIn wsX5_anew (va_wsS RX5 112 yX5_within wsX5_within) := goodIn_app (goodIn_of _ (by decide +kernel)) ggX5_anew_X5_within
set_option maxRecDepth 20000 in
theorem ggX5_anew_X5_addPattern : GoodIn wsX5_anew wsX5_addPattern := goodIn_r _ [86, 87, 88, 51, 15, 17, 18, 19, 20, 21, 22, 89, 90, 91, 92, 93, 94, 95, 96, 97, 98, 99, 100, 101, 102, 103, 104, 57, 53, 105, 106, 107, 108, 109, 110, 111, 112, 113, 114, 115, 116, 64, 59, 117, 118, 119, 120, 121, 122, 123, 124, 125, 126, 127, 128, 129, 130, 131, 39, 132, 133, 134, 135, 136, 137, 138, 139, 140, 141, 142, 143, 144, 145, 66, 67, 68, 146, 147, 148, 149, 150, 151, 152, 153, 154, 155, 156, 157, 158, 159, 160, 161, 162, 163, 164, 165, 166, 167, 168, 169, 81, 82, 170, 171, 172, 173, 197, 198, 199, 200, 201, 202, 203, 204, 205, 212, 213, 214, 215, 216, 217, 218, 219, 206, 207, 208, 209, 210, 211, 220, 221, 222, 223] (by decide +kernel) (by decide +kernel)
set_option maxRecDepth 20000 in
theorem gX5_anew_X5_addPattern : GoodIn wsX5_anew (wsV RX5 40 RX5 yX5_addPattern wsX5_addPattern) := goodIn_app (goodIn_of _ (by decide +kernel)) ggX5_anew_X5_addPattern
set_option maxRecDepth 20000 in
theorem ggX5_anew_X2_addLinesFor : GoodIn wsX5_anew wsX2_addLinesFor := goodIn_r _ [177, 178, 61, 62, 57, 63, 64, 65, 66, 67, 68, 69, 11, 70, 179, 180, 181, 51, 182, 53, 108, 183, 184, 185, 186, 59, 114, 115, 116, 187, 188, 189, 107, 190, 122, 124, 125, 191, 192, 193, 194, 123, 195, 196, 76, 77, 78, 79, 80, 81, 82, 206, 207, 208, 209, 210, 211, 197, 198, 199, 200, 201, 202, 203, 204, 205, 220, 221, 222, 223] (by decide +kernel) (by decide +kernel)
set_option maxRecDepth 20000 in
theorem gX5_anew_X2_addLinesFor : GoodIn wsX5_anew (wsV RX5 122 RX2 yX2_addLinesFor wsX2_addLinesFor) := goodIn_app (goodIn_of _ (by decide +kernel)) ggX5_anew_X2_addLinesFor
theorem dX5_anew_0 : decode cX5_anew 0 = .ok (.aload_n 0, 1) := by decide +kernel
theorem dX5_anew_1 : decode cX5_anew 1 = .ok (.iload_n 1, 1) := by decide +kernel
theorem dX5_anew_2 : decode cX5_anew 2 = .ok (.invokevirtual 50, 3) := by decide +kernel
theorem dX5_anew_5 : decode cX5_anew 5 = .ok (.astore_n 3, 1) := by decide +kernel
theorem dX5_anew_6 : decode cX5_anew 6 = .ok (.iload_n 2, 1) := by decide +kernel
theorem dX5_anew_7 : decode cX5_anew 7 = .ok (.invokestatic 87, 3) := by decide +kernel
theorem dX5_anew_10 : decode cX5_anew 10 = .ok (.aload_n 3, 1) := by decide +kernel
theorem dX5_anew_11 : decode cX5_anew 11 = .ok (.invokevirtual 90, 3) := by decide +kernel
theorem dX5_anew_14 : decode cX5_anew 14 = .ok (.ifCond .ne 16, 3) := by decide +kernel
theorem dX5_anew_17 : decode cX5_anew 17 = .ok (.aload_n 3, 1) := by decide +kernel
theorem dX5_anew_18 : decode cX5_anew 18 = .ok (.getfield 93, 3) := by decide +kernel
theorem dX5_anew_21 : decode cX5_anew 21 = .ok (.iload_n 2, 1) := by decide +kernel
theorem dX5_anew_22 : decode cX5_anew 22 = .ok (.invokevirtual 97, 3) := by decide +kernel
theorem dX5_anew_25 : decode cX5_anew 25 = .ok (.bipush 40, 2) := by decide +kernel
theorem dX5_anew_27 : decode cX5_anew 27 = .ok (.if_icmp .le 13, 3) := by decide +kernel
theorem dX5_anew_30 : decode cX5_anew 30 = .ok (.new 69, 3) := by decide +kernel
theorem dX5_anew_33 : decode cX5_anew 33 = .ok (.dup, 1) := by decide +kernel
theorem dX5_anew_34 : decode cX5_anew 34 = .ok (.ldc 103, 2) := by decide +kernel
theorem dX5_anew_36 : decode cX5_anew 36 = .ok (.invokespecial 73, 3) := by decide +kernel
theorem dX5_anew_39 : decode cX5_anew 39 = .ok (.athrow, 1) := by decide +kernel
theorem dX5_anew_40 : decode cX5_anew 40 = .ok (.aload_n 0, 1) := by decide +kernel
theorem dX5_anew_41 : decode cX5_anew 41 = .ok (.invokevirtual 37, 3) := by decide +kernel
theorem dX5_anew_44 : decode cX5_anew 44 = .ok (.aload_n 3, 1) := by decide +kernel
theorem dX5_anew_45 : decode cX5_anew 45 = .ok (.getfield 93, 3) := by decide +kernel
theorem dX5_anew_48 : decode cX5_anew 48 = .ok (.getfield 105, 3) := by decide +kernel
theorem dX5_anew_51 : decode cX5_anew 51 = .ok (.iload_n 2, 1) := by decide +kernel
theorem dX5_anew_52 : decode cX5_anew 52 = .ok (.invokestatic 108, 3) := by decide +kernel
theorem dX5_anew_55 : decode cX5_anew 55 = .ok (.iconst 1, 1) := by decide +kernel
theorem dX5_anew_56 : decode cX5_anew 56 = .ok (.bipush 20, 2) := by decide +kernel
theorem dX5_anew_58 : decode cX5_anew 58 = .ok (.invokestatic 112, 3) := by decide +kernel
theorem dX5_anew_61 : decode cX5_anew 61 = .ok (.istore 4, 2) := by decide +kernel
theorem dX5_anew_63 : decode cX5_anew 63 = .ok (.aload_n 0, 1) := by decide +kernel
theorem dX5_anew_64 : decode cX5_anew 64 = .ok (.aload_n 3, 1) := by decide +kernel
theorem dX5_anew_65 : decode cX5_anew 65 = .ok (.getfield 116, 3) := by decide +kernel
theorem dX5_anew_68 : decode cX5_anew 68 = .ok (.iload 4, 2) := by decide +kernel
theorem dX5_anew_70 : decode cX5_anew 70 = .ok (.aload_n 3, 1) := by decide +kernel
theorem dX5_anew_71 : decode cX5_anew 71 = .ok (.getfield 119, 3) := by decide +kernel
theorem dX5_anew_74 : decode cX5_anew 74 = .ok (.invokevirtual 40, 3) := by decide +kernel
theorem dX5_anew_77 : decode cX5_anew 77 = .ok (.astore 5, 2) := by decide +kernel
theorem dX5_anew_79 : decode cX5_anew 79 = .ok (.aload 5, 2) := by decide +kernel
theorem dX5_anew_81 : decode cX5_anew 81 = .ok (.iload_n 2, 1) := by decide +kernel
theorem dX5_anew_82 : decode cX5_anew 82 = .ok (.aload_n 3, 1) := by decide +kernel
theorem dX5_anew_83 : decode cX5_anew 83 = .ok (.getfield 93, 3) := by decide +kernel
theorem dX5_anew_86 : decode cX5_anew 86 = .ok (.invokevirtual 122, 3) := by decide +kernel
theorem dX5_anew_89 : decode cX5_anew 89 = .ok (.aload 5, 2) := by decide +kernel
theorem dX5_anew_91 : decode cX5_anew 91 = .ok (.getfield 44, 3) := by decide +kernel
theorem dX5_anew_94 : decode cX5_anew 94 = .ok (.ireturn, 1) := by decide +kernel
set_option maxRecDepth 20000 in
theorem ggX5_publish_X5_patternAt : GoodIn wsX5_publish wsX5_patternAt := goodIn_ca (goodIn_r _ [10, 11, 12, 13, 14, 15, 16, 17, 18, 19, 20, 21, 22, 23, 24, 25, 26, 27, 28, 29, 30, 31, 32, 33, 34, 35, 36, 37, 123, 124, 125, 126, 127, 128, 129, 130] (by decide +kernel) (by decide +kernel)) (goodIn_sub (fun _ h => List.mem_cons_of_mem _ (List.mem_append_right _ h)) (by decide +kernel))
set_option maxRecDepth 20000 in
theorem gX5_publish_X5_patternAt : GoodIn wsX5_publish (wsV RX5 50 RX5 yX5_patternAt wsX5_patternAt) := goodIn_app (goodIn_of _ (by decide +kernel)) ggX5_publish_X5_patternAt
set_option maxRecDepth 20000 in
theorem ggX5_publish_X2_isPublished : GoodIn wsX5_publish wsX2_isPublished := goodIn_r _ [42, 43, 114, 115, 116, 117, 118, 119, 120, 121, 122] (by decide +kernel) (by decide +kernel)
set_option maxRecDepth 20000 in
theorem gX5_publish_X2_isPublished : GoodIn wsX5_publish (wsV RX5 61 RX2 yX2_isPublished wsX2_isPublished) := goodIn_app (goodIn_of _ (by decide +kernel)) ggX5_publish_X2_isPublished
set_option maxRecDepth 20000 in
theorem ggX5_publish_X2_hasNoLines : GoodIn wsX5_publish wsX2_hasNoLines := goodIn_r _ [47, 48, 114, 115, 116, 117, 118, 119, 120, 121, 122, 131, 132, 133, 134, 135, 136] (by decide +kernel) (by decide +kernel)
set_option maxRecDepth 20000 in
theorem gX5_publish_X2_hasNoLines : GoodIn wsX5_publish (wsV RX5 90 RX2 yX2_hasNoLines wsX2_hasNoLines) := goodIn_app (goodIn_of _ (by decide +kernel)) ggX5_publish_X2_hasNoLines
set_option maxRecDepth 20000 in
theorem ggX5_publish_X5_firstOfSameChart : GoodIn wsX5_publish wsX5_firstOfSameChart := goodIn_r _ [52, 4, 14, 53, 15, 16, 17, 18, 19, 20, 21, 22, 23, 24, 25, 26, 27, 28, 29, 30, 31, 32, 33, 34, 35, 36, 37, 54, 55, 56, 57, 58, 59, 60, 123, 124, 125, 126, 127, 114, 115, 116, 117, 118, 119, 120, 121, 122, 128, 129, 130, 137, 138, 139, 140] (by decide +kernel) (by decide +kernel)
set_option maxRecDepth 20000 in
theorem gX5_publish_X5_firstOfSameChart : GoodIn wsX5_publish (wsV RX5 128 RX5 yX5_firstOfSameChart wsX5_firstOfSameChart) := goodIn_app (goodIn_of _ (by decide +kernel)) ggX5_publish_X5_firstOfSameChart
set_option maxRecDepth 20000 in
theorem ggX5_publish_Jx4a65c_add_9ea2d : GoodIn wsX5_publish wsJx4a65c_add_9ea2d := goodIn_r _ [64, 65, 66, 37, 20, 67, 68, 69, 18, 70, 71, 72, 73, 74, 75, 76, 77, 78, 79, 80, 81, 82, 83, 84, 85, 86, 87, 88, 89, 90, 91, 92, 93, 94, 95, 96, 97, 98, 99, 100, 101, 102, 103, 104, 105, 106, 107, 108, 109, 110, 111, 112, 113, 128, 129, 130] (by decide +kernel) (by decide +kernel)
set_option maxRecDepth 20000 in
theorem gX5_publish_Jx4a65c_add_9ea2d : GoodIn wsX5_publish (wsV RX5 136 RJx4a65c yJx4a65c_add_9ea2d wsJx4a65c_add_9ea2d) := goodIn_app (goodIn_of _ (by decide +kernel)) ggX5_publish_Jx4a65c_add_9ea2d
theorem dX5_publish_0 : decode cX5_publish 0 = .ok (.aload_n 0, 1) := by decide +kernel
theorem dX5_publish_1 : decode cX5_publish 1 = .ok (.iload_n 1, 1) := by decide +kernel
theorem dX5_publish_2 : decode cX5_publish 2 = .ok (.invokevirtual 50, 3) := by decide +kernel
theorem dX5_publish_5 : decode cX5_publish 5 = .ok (.astore_n 2, 1) := by decide +kernel
theorem dX5_publish_6 : decode cX5_publish 6 = .ok (.aload_n 2, 1) := by decide +kernel
theorem dX5_publish_7 : decode cX5_publish 7 = .ok (.invokevirtual 61, 3) := by decide +kernel
theorem dX5_publish_10 : decode cX5_publish 10 = .ok (.ifCond .ne 10, 3) := by decide +kernel
theorem dX5_publish_13 : decode cX5_publish 13 = .ok (.aload_n 2, 1) := by decide +kernel
theorem dX5_publish_14 : decode cX5_publish 14 = .ok (.invokevirtual 90, 3) := by decide +kernel
theorem dX5_publish_17 : decode cX5_publish 17 = .ok (.ifCond .eq 13, 3) := by decide +kernel
theorem dX5_publish_20 : decode cX5_publish 20 = .ok (.new 69, 3) := by decide +kernel
theorem dX5_publish_23 : decode cX5_publish 23 = .ok (.dup, 1) := by decide +kernel
theorem dX5_publish_24 : decode cX5_publish 24 = .ok (.ldc 126, 2) := by decide +kernel
theorem dX5_publish_26 : decode cX5_publish 26 = .ok (.invokespecial 73, 3) := by decide +kernel
theorem dX5_publish_29 : decode cX5_publish 29 = .ok (.athrow, 1) := by decide +kernel
theorem dX5_publish_30 : decode cX5_publish 30 = .ok (.aload_n 0, 1) := by decide +kernel
theorem dX5_publish_31 : decode cX5_publish 31 = .ok (.aload_n 2, 1) := by decide +kernel
theorem dX5_publish_32 : decode cX5_publish 32 = .ok (.invokevirtual 128, 3) := by decide +kernel
theorem dX5_publish_35 : decode cX5_publish 35 = .ok (.astore_n 3, 1) := by decide +kernel
theorem dX5_publish_36 : decode cX5_publish 36 = .ok (.aload_n 2, 1) := by decide +kernel
theorem dX5_publish_37 : decode cX5_publish 37 = .ok (.aload_n 3, 1) := by decide +kernel
theorem dX5_publish_38 : decode cX5_publish 38 = .ok (.putfield 132, 3) := by decide +kernel
theorem dX5_publish_41 : decode cX5_publish 41 = .ok (.aload_n 0, 1) := by decide +kernel
theorem dX5_publish_42 : decode cX5_publish 42 = .ok (.getfield 16, 3) := by decide +kernel
theorem dX5_publish_45 : decode cX5_publish 45 = .ok (.aload_n 2, 1) := by decide +kernel
theorem dX5_publish_46 : decode cX5_publish 46 = .ok (.invokevirtual 136, 3) := by decide +kernel
theorem dX5_publish_49 : decode cX5_publish 49 = .ok (.pop, 1) := by decide +kernel
theorem dX5_publish_50 : decode cX5_publish 50 = .ok (.aload_n 3, 1) := by decide +kernel
theorem dX5_publish_51 : decode cX5_publish 51 = .ok (.getfield 44, 3) := by decide +kernel
theorem dX5_publish_54 : decode cX5_publish 54 = .ok (.ireturn, 1) := by decide +kernel
set_option maxRecDepth 20000 in
theorem ggX5_original_X5_patternAt : GoodIn wsX5_original wsX5_patternAt := goodIn_ca (goodIn_r _ [7, 8, 9, 10, 11, 12, 13, 14, 15, 16, 17, 18, 19, 20, 21, 22, 23, 24, 25, 26, 27, 28, 29, 30, 31, 32, 33, 34, 44, 45, 46, 47, 48, 49, 50, 51] (by decide +kernel) (by decide +kernel)) (goodIn_sub (fun _ h => List.mem_cons_of_mem _ (List.mem_append_right _ h)) (by decide +kernel))
set_option maxRecDepth 20000 in
theorem gX5_original_X5_patternAt : GoodIn wsX5_original (wsV RX5 50 RX5 yX5_patternAt wsX5_patternAt) := goodIn_app (goodIn_of _ (by decide +kernel)) ggX5_original_X5_patternAt
theorem dX5_original_0 : decode cX5_original 0 = .ok (.aload_n 0, 1) := by decide +kernel
theorem dX5_original_1 : decode cX5_original 1 = .ok (.iload_n 1, 1) := by decide +kernel
theorem dX5_original_2 : decode cX5_original 2 = .ok (.invokevirtual 50, 3) := by decide +kernel
theorem dX5_original_5 : decode cX5_original 5 = .ok (.getfield 132, 3) := by decide +kernel
theorem dX5_original_8 : decode cX5_original 8 = .ok (.astore_n 2, 1) := by decide +kernel
theorem dX5_original_9 : decode cX5_original 9 = .ok (.aload_n 2, 1) := by decide +kernel
theorem dX5_original_10 : decode cX5_original 10 = .ok (.ifnonnull 7, 3) := by decide +kernel
theorem dX5_original_13 : decode cX5_original 13 = .ok (.iconst (-1), 1) := by decide +kernel
theorem dX5_original_14 : decode cX5_original 14 = .ok (.goto 7, 3) := by decide +kernel
theorem dX5_original_17 : decode cX5_original 17 = .ok (.aload_n 2, 1) := by decide +kernel
theorem dX5_original_18 : decode cX5_original 18 = .ok (.getfield 44, 3) := by decide +kernel
theorem dX5_original_21 : decode cX5_original 21 = .ok (.ireturn, 1) := by decide +kernel
set_option maxRecDepth 20000 in
theorem ggX5_rows_X5_patternAt : GoodIn wsX5_rows wsX5_patternAt := goodIn_ca (goodIn_r _ [7, 8, 9, 10, 11, 12, 13, 14, 15, 16, 17, 18, 19, 20, 21, 22, 23, 24, 25, 26, 27, 28, 29, 30, 31, 32, 33, 34, 48, 49, 50, 51, 52, 53, 54, 55] (by decide +kernel) (by decide +kernel)) (goodIn_sub (fun _ h => List.mem_cons_of_mem _ (List.mem_append_right _ h)) (by decide +kernel))
set_option maxRecDepth 20000 in
theorem gX5_rows_X5_patternAt : GoodIn wsX5_rows (wsV RX5 50 RX5 yX5_patternAt wsX5_patternAt) := goodIn_app (goodIn_of _ (by decide +kernel)) ggX5_rows_X5_patternAt
theorem dX5_rows_0 : decode cX5_rows 0 = .ok (.aload_n 0, 1) := by decide +kernel
theorem dX5_rows_1 : decode cX5_rows 1 = .ok (.iload_n 1, 1) := by decide +kernel
theorem dX5_rows_2 : decode cX5_rows 2 = .ok (.invokevirtual 50, 3) := by decide +kernel
theorem dX5_rows_5 : decode cX5_rows 5 = .ok (.getfield 78, 3) := by decide +kernel
theorem dX5_rows_8 : decode cX5_rows 8 = .ok (.getfield 82, 3) := by decide +kernel
theorem dX5_rows_11 : decode cX5_rows 11 = .ok (.ireturn, 1) := by decide +kernel
set_option maxRecDepth 20000 in
theorem ggX5_stitch_X5_patternAt : GoodIn wsX5_stitch wsX5_patternAt := goodIn_ca (goodIn_r _ [6, 7, 8, 9, 10, 11, 12, 13, 14, 15, 16, 17, 18, 19, 20, 21, 22, 23, 24, 25, 26, 27, 28, 29, 30, 31, 32, 33, 53, 54, 55, 56, 57, 58, 59, 60] (by decide +kernel) (by decide +kernel)) (goodIn_sub (fun _ h => List.mem_cons_of_mem _ (List.mem_append_right _ h)) (by decide +kernel))
set_option maxRecDepth 20000 in
theorem gX5_stitch_X5_patternAt : GoodIn wsX5_stitch (wsV RX5 50 RX5 yX5_patternAt wsX5_patternAt) := goodIn_app (goodIn_of _ (by decide +kernel)) ggX5_stitch_X5_patternAt
set_option maxRecDepth 20000 in
theorem ggX5_stitch_X5_checkPlace : GoodIn wsX5_stitch wsX5_checkPlace := goodIn_ca (goodIn_r _ [36, 7, 8, 1, 37, 44, 45, 46, 47, 48, 49, 50, 51, 52, 61, 62, 63, 64] (by decide +kernel) (by decide +kernel)) (goodIn_sub (fun _ h => List.mem_cons_of_mem _ (List.mem_append_right _ h)) (by decide +kernel))
set_option maxRecDepth 20000 in
theorem gX5_stitch_X5_checkPlace : GoodIn wsX5_stitch (va_wsS RX5 140 yX5_checkPlace wsX5_checkPlace) := goodIn_app (goodIn_of _ (by decide +kernel)) ggX5_stitch_X5_checkPlace
set_option maxRecDepth 20000 in
theorem ggX5_stitch_X0_stitchAt : GoodIn wsX5_stitch wsX0_stitchAt := goodIn_r _ [42, 43, 61, 62, 63, 64] (by decide +kernel) (by decide +kernel)
set_option maxRecDepth 20000 in
theorem gX5_stitch_X0_stitchAt : GoodIn wsX5_stitch (wsV RX5 144 RX0 yX0_stitchAt wsX0_stitchAt) := goodIn_app (goodIn_of _ (by decide +kernel)) ggX5_stitch_X0_stitchAt
theorem dX5_stitch_0 : decode cX5_stitch 0 = .ok (.aload_n 0, 1) := by decide +kernel
theorem dX5_stitch_1 : decode cX5_stitch 1 = .ok (.iload_n 1, 1) := by decide +kernel
theorem dX5_stitch_2 : decode cX5_stitch 2 = .ok (.invokevirtual 50, 3) := by decide +kernel
theorem dX5_stitch_5 : decode cX5_stitch 5 = .ok (.astore 4, 2) := by decide +kernel
theorem dX5_stitch_7 : decode cX5_stitch 7 = .ok (.aload 4, 2) := by decide +kernel
theorem dX5_stitch_9 : decode cX5_stitch 9 = .ok (.iload_n 2, 1) := by decide +kernel
theorem dX5_stitch_10 : decode cX5_stitch 10 = .ok (.iload_n 3, 1) := by decide +kernel
theorem dX5_stitch_11 : decode cX5_stitch 11 = .ok (.invokestatic 140, 3) := by decide +kernel
theorem dX5_stitch_14 : decode cX5_stitch 14 = .ok (.aload 4, 2) := by decide +kernel
theorem dX5_stitch_16 : decode cX5_stitch 16 = .ok (.getfield 78, 3) := by decide +kernel
theorem dX5_stitch_19 : decode cX5_stitch 19 = .ok (.iload_n 2, 1) := by decide +kernel
theorem dX5_stitch_20 : decode cX5_stitch 20 = .ok (.iload_n 3, 1) := by decide +kernel
theorem dX5_stitch_21 : decode cX5_stitch 21 = .ok (.invokevirtual 144, 3) := by decide +kernel
theorem dX5_stitch_24 : decode cX5_stitch 24 = .ok (.ireturn, 1) := by decide +kernel
set_option maxRecDepth 20000 in
theorem ggX5_stitchByWork_X5_patternAt : GoodIn wsX5_stitchByWork wsX5_patternAt := goodIn_ca (goodIn_r _ [6, 7, 8, 9, 10, 11, 12, 13, 14, 15, 16, 17, 18, 19, 20, 21, 22, 23, 24, 25, 26, 27, 28, 29, 30, 31, 32, 33, 75, 76, 77, 78, 79, 80, 81, 82] (by decide +kernel) (by decide +kernel)) (goodIn_sub (fun _ h => List.mem_cons_of_mem _ (List.mem_append_right _ h)) (by decide +kernel))
set_option maxRecDepth 20000 in
theorem gX5_stitchByWork_X5_patternAt : GoodIn wsX5_stitchByWork (wsV RX5 50 RX5 yX5_patternAt wsX5_patternAt) := goodIn_app (goodIn_of _ (by decide +kernel)) ggX5_stitchByWork_X5_patternAt
set_option maxRecDepth 20000 in
theorem ggX5_stitchByWork_X5_checkPlace : GoodIn wsX5_stitchByWork wsX5_checkPlace := goodIn_ca (goodIn_r _ [36, 7, 8, 37, 38, 66, 67, 68, 69, 70, 71, 72, 73, 74, 83, 84, 85, 86] (by decide +kernel) (by decide +kernel)) (goodIn_sub (fun _ h => List.mem_cons_of_mem _ (List.mem_append_right _ h)) (by decide +kernel))
set_option maxRecDepth 20000 in
theorem gX5_stitchByWork_X5_checkPlace : GoodIn wsX5_stitchByWork (va_wsS RX5 140 yX5_checkPlace wsX5_checkPlace) := goodIn_app (goodIn_of _ (by decide +kernel)) ggX5_stitchByWork_X5_checkPlace
set_option maxRecDepth 20000 in
theorem ggX5_stitchByWork_X3_workTo : GoodIn wsX5_stitchByWork wsX3_workTo := goodIn_r _ [43, 44, 45, 46, 47, 48, 49, 50, 42, 51, 52, 53, 54, 5, 55, 56, 57, 58, 59, 60, 61, 62, 63, 64, 65, 87, 88, 89, 90, 91, 92] (by decide +kernel) (by decide +kernel)
set_option maxRecDepth 20000 in
theorem gX5_stitchByWork_X3_workTo : GoodIn wsX5_stitchByWork (wsV RX5 147 RX3 yX3_workTo wsX3_workTo) := goodIn_app (goodIn_of _ (by decide +kernel)) ggX5_stitchByWork_X3_workTo
theorem dX5_stitchByWork_0 : decode cX5_stitchByWork 0 = .ok (.aload_n 0, 1) := by decide +kernel
theorem dX5_stitchByWork_1 : decode cX5_stitchByWork 1 = .ok (.iload_n 1, 1) := by decide +kernel
theorem dX5_stitchByWork_2 : decode cX5_stitchByWork 2 = .ok (.invokevirtual 50, 3) := by decide +kernel
theorem dX5_stitchByWork_5 : decode cX5_stitchByWork 5 = .ok (.astore 4, 2) := by decide +kernel
theorem dX5_stitchByWork_7 : decode cX5_stitchByWork 7 = .ok (.aload 4, 2) := by decide +kernel
theorem dX5_stitchByWork_9 : decode cX5_stitchByWork 9 = .ok (.iload_n 2, 1) := by decide +kernel
theorem dX5_stitchByWork_10 : decode cX5_stitchByWork 10 = .ok (.iload_n 3, 1) := by decide +kernel
theorem dX5_stitchByWork_11 : decode cX5_stitchByWork 11 = .ok (.invokestatic 140, 3) := by decide +kernel
theorem dX5_stitchByWork_14 : decode cX5_stitchByWork 14 = .ok (.aload 4, 2) := by decide +kernel
theorem dX5_stitchByWork_16 : decode cX5_stitchByWork 16 = .ok (.getfield 93, 3) := by decide +kernel
theorem dX5_stitchByWork_19 : decode cX5_stitchByWork 19 = .ok (.iload_n 2, 1) := by decide +kernel
theorem dX5_stitchByWork_20 : decode cX5_stitchByWork 20 = .ok (.iload_n 3, 1) := by decide +kernel
theorem dX5_stitchByWork_21 : decode cX5_stitchByWork 21 = .ok (.invokevirtual 147, 3) := by decide +kernel
theorem dX5_stitchByWork_24 : decode cX5_stitchByWork 24 = .ok (.ireturn, 1) := by decide +kernel
set_option maxRecDepth 20000 in
theorem ggX5_need_X5_patternAt : GoodIn wsX5_need wsX5_patternAt := goodIn_ca (goodIn_r _ [6, 7, 8, 9, 10, 11, 12, 13, 14, 15, 16, 17, 18, 19, 20, 21, 22, 23, 24, 25, 26, 27, 28, 29, 30, 31, 32, 33, 58, 59, 60, 61, 62, 63, 64, 65] (by decide +kernel) (by decide +kernel)) (goodIn_sub (fun _ h => List.mem_cons_of_mem _ (List.mem_append_left _ (List.mem_append_right _ h))) (by decide +kernel))
set_option maxRecDepth 20000 in
theorem gX5_need_X5_patternAt : GoodIn wsX5_need (wsV RX5 50 RX5 yX5_patternAt wsX5_patternAt) := goodIn_app (goodIn_of _ (by decide +kernel)) ggX5_need_X5_patternAt
set_option maxRecDepth 20000 in
theorem ggX5_need_X5_checkGauge : GoodIn wsX5_need wsX5_checkGauge := goodIn_ca (goodIn_r _ [36, 37, 38, 5, 39, 40, 41] (by decide +kernel) (by decide +kernel)) (goodIn_sub (fun _ h => List.mem_cons_of_mem _ (List.mem_append_right _ h)) (by decide +kernel))
set_option maxRecDepth 20000 in
theorem gX5_need_X5_checkGauge : GoodIn wsX5_need (va_wsS RX5 87 yX5_checkGauge wsX5_checkGauge) := goodIn_app (goodIn_of _ (by decide +kernel)) ggX5_need_X5_checkGauge
set_option maxRecDepth 20000 in
theorem ggX5_need_X0_yarnOfAllRows : GoodIn wsX5_need wsX0_yarnOfAllRows := goodIn_r _ [46, 47, 48, 66, 67, 68, 69] (by decide +kernel) (by decide +kernel)
set_option maxRecDepth 20000 in
theorem gX5_need_X0_yarnOfAllRows : GoodIn wsX5_need (wsV RX5 150 RX0 yX0_yarnOfAllRows wsX0_yarnOfAllRows) := goodIn_app (goodIn_of _ (by decide +kernel)) ggX5_need_X0_yarnOfAllRows
theorem dX5_need_0 : decode cX5_need 0 = .ok (.aload_n 0, 1) := by decide +kernel
theorem dX5_need_1 : decode cX5_need 1 = .ok (.iload_n 1, 1) := by decide +kernel
theorem dX5_need_2 : decode cX5_need 2 = .ok (.invokevirtual 50, 3) := by decide +kernel
theorem dX5_need_5 : decode cX5_need 5 = .ok (.astore_n 3, 1) := by decide +kernel
theorem dX5_need_6 : decode cX5_need 6 = .ok (.iload_n 2, 1) := by decide +kernel
theorem dX5_need_7 : decode cX5_need 7 = .ok (.invokestatic 87, 3) := by decide +kernel
theorem dX5_need_10 : decode cX5_need 10 = .ok (.iload_n 2, 1) := by decide +kernel
theorem dX5_need_11 : decode cX5_need 11 = .ok (.aload_n 3, 1) := by decide +kernel
theorem dX5_need_12 : decode cX5_need 12 = .ok (.getfield 78, 3) := by decide +kernel
theorem dX5_need_15 : decode cX5_need 15 = .ok (.invokevirtual 150, 3) := by decide +kernel
theorem dX5_need_18 : decode cX5_need 18 = .ok (.imul, 1) := by decide +kernel
theorem dX5_need_19 : decode cX5_need 19 = .ok (.ireturn, 1) := by decide +kernel
set_option maxRecDepth 20000 in
theorem ggX5_buy_X5_patternAt : GoodIn wsX5_buy wsX5_patternAt := goodIn_ca (goodIn_r _ [13, 14, 15, 16, 17, 18, 19, 20, 21, 22, 23, 24, 25, 26, 27, 28, 29, 30, 31, 32, 33, 34, 35, 36, 37, 38, 39, 40, 65, 66, 67, 68, 69, 70, 71, 72] (by decide +kernel) (by decide +kernel)) (goodIn_sub (fun _ h => List.mem_cons_of_mem _ (List.mem_append_right _ h)) (by decide +kernel))
set_option maxRecDepth 20000 in
theorem gX5_buy_X5_patternAt : GoodIn wsX5_buy (wsV RX5 50 RX5 yX5_patternAt wsX5_patternAt) := goodIn_app (goodIn_of _ (by decide +kernel)) ggX5_buy_X5_patternAt
set_option maxRecDepth 20000 in
theorem ggX5_buy_X5_checkPerson : GoodIn wsX5_buy wsX5_checkPerson := goodIn_ca (goodIn_r _ [43, 14, 15] (by decide +kernel) (by decide +kernel)) (goodIn_sub (fun _ h => List.mem_cons_of_mem _ (List.mem_append_right _ h)) (by decide +kernel))
set_option maxRecDepth 20000 in
theorem gX5_buy_X5_checkPerson : GoodIn wsX5_buy (va_wsS RX5 29 yX5_checkPerson wsX5_checkPerson) := goodIn_app (goodIn_of _ (by decide +kernel)) ggX5_buy_X5_checkPerson
set_option maxRecDepth 20000 in
theorem ggX5_buy_X2_isPublished : GoodIn wsX5_buy wsX2_isPublished := goodIn_r _ [48, 49, 56, 57, 58, 59, 60, 61, 62, 63, 64] (by decide +kernel) (by decide +kernel)
set_option maxRecDepth 20000 in
theorem gX5_buy_X2_isPublished : GoodIn wsX5_buy (wsV RX5 61 RX2 yX2_isPublished wsX2_isPublished) := goodIn_app (goodIn_of _ (by decide +kernel)) ggX5_buy_X2_isPublished
set_option maxRecDepth 20000 in
theorem ggX5_buy_X2_mayBeKnittedBy : GoodIn wsX5_buy wsX2_mayBeKnittedBy := goodIn_r _ [53, 54, 55, 56, 57, 58, 59, 60, 61, 62, 63, 64] (by decide +kernel) (by decide +kernel)
set_option maxRecDepth 20000 in
theorem gX5_buy_X2_mayBeKnittedBy : GoodIn wsX5_buy (wsV RX5 158 RX2 yX2_mayBeKnittedBy wsX2_mayBeKnittedBy) := goodIn_app (goodIn_of _ (by decide +kernel)) ggX5_buy_X2_mayBeKnittedBy
theorem dX5_buy_0 : decode cX5_buy 0 = .ok (.aload_n 0, 1) := by decide +kernel
theorem dX5_buy_1 : decode cX5_buy 1 = .ok (.iload_n 1, 1) := by decide +kernel
theorem dX5_buy_2 : decode cX5_buy 2 = .ok (.invokevirtual 50, 3) := by decide +kernel
theorem dX5_buy_5 : decode cX5_buy 5 = .ok (.astore_n 3, 1) := by decide +kernel
theorem dX5_buy_6 : decode cX5_buy 6 = .ok (.iload_n 2, 1) := by decide +kernel
theorem dX5_buy_7 : decode cX5_buy 7 = .ok (.invokestatic 29, 3) := by decide +kernel
theorem dX5_buy_10 : decode cX5_buy 10 = .ok (.aload_n 3, 1) := by decide +kernel
theorem dX5_buy_11 : decode cX5_buy 11 = .ok (.invokevirtual 61, 3) := by decide +kernel
theorem dX5_buy_14 : decode cX5_buy 14 = .ok (.ifCond .eq 18, 3) := by decide +kernel
theorem dX5_buy_17 : decode cX5_buy 17 = .ok (.aload_n 3, 1) := by decide +kernel
theorem dX5_buy_18 : decode cX5_buy 18 = .ok (.getfield 154, 3) := by decide +kernel
theorem dX5_buy_21 : decode cX5_buy 21 = .ok (.ifCond .ne 11, 3) := by decide +kernel
theorem dX5_buy_24 : decode cX5_buy 24 = .ok (.aload_n 3, 1) := by decide +kernel
theorem dX5_buy_25 : decode cX5_buy 25 = .ok (.iload_n 2, 1) := by decide +kernel
theorem dX5_buy_26 : decode cX5_buy 26 = .ok (.invokevirtual 158, 3) := by decide +kernel
theorem dX5_buy_29 : decode cX5_buy 29 = .ok (.ifCond .eq 13, 3) := by decide +kernel
theorem dX5_buy_32 : decode cX5_buy 32 = .ok (.new 69, 3) := by decide +kernel
theorem dX5_buy_35 : decode cX5_buy 35 = .ok (.dup, 1) := by decide +kernel
theorem dX5_buy_36 : decode cX5_buy 36 = .ok (.ldc 161, 2) := by decide +kernel
theorem dX5_buy_38 : decode cX5_buy 38 = .ok (.invokespecial 73, 3) := by decide +kernel
theorem dX5_buy_41 : decode cX5_buy 41 = .ok (.athrow, 1) := by decide +kernel
theorem dX5_buy_42 : decode cX5_buy 42 = .ok (.aload_n 3, 1) := by decide +kernel
theorem dX5_buy_43 : decode cX5_buy 43 = .ok (.getfield 163, 3) := by decide +kernel
theorem dX5_buy_46 : decode cX5_buy 46 = .ok (.iload_n 2, 1) := by decide +kernel
theorem dX5_buy_47 : decode cX5_buy 47 = .ok (.iconst 1, 1) := by decide +kernel
theorem dX5_buy_48 : decode cX5_buy 48 = .ok (.bastore, 1) := by decide +kernel
theorem dX5_buy_49 : decode cX5_buy 49 = .ok (.aload_n 3, 1) := by decide +kernel
theorem dX5_buy_50 : decode cX5_buy 50 = .ok (.dup, 1) := by decide +kernel
theorem dX5_buy_51 : decode cX5_buy 51 = .ok (.getfield 167, 3) := by decide +kernel
theorem dX5_buy_54 : decode cX5_buy 54 = .ok (.aload_n 3, 1) := by decide +kernel
theorem dX5_buy_55 : decode cX5_buy 55 = .ok (.getfield 119, 3) := by decide +kernel
theorem dX5_buy_58 : decode cX5_buy 58 = .ok (.iadd, 1) := by decide +kernel
theorem dX5_buy_59 : decode cX5_buy 59 = .ok (.putfield 167, 3) := by decide +kernel
theorem dX5_buy_62 : decode cX5_buy 62 = .ok (.aload_n 0, 1) := by decide +kernel
theorem dX5_buy_63 : decode cX5_buy 63 = .ok (.getfield 25, 3) := by decide +kernel
theorem dX5_buy_66 : decode cX5_buy 66 = .ok (.iload_n 2, 1) := by decide +kernel
theorem dX5_buy_67 : decode cX5_buy 67 = .ok (.dup2, 1) := by decide +kernel
theorem dX5_buy_68 : decode cX5_buy 68 = .ok (.iaload, 1) := by decide +kernel
theorem dX5_buy_69 : decode cX5_buy 69 = .ok (.aload_n 3, 1) := by decide +kernel
theorem dX5_buy_70 : decode cX5_buy 70 = .ok (.getfield 119, 3) := by decide +kernel
theorem dX5_buy_73 : decode cX5_buy 73 = .ok (.isub, 1) := by decide +kernel
theorem dX5_buy_74 : decode cX5_buy 74 = .ok (.iastore, 1) := by decide +kernel
theorem dX5_buy_75 : decode cX5_buy 75 = .ok (.aload_n 0, 1) := by decide +kernel
theorem dX5_buy_76 : decode cX5_buy 76 = .ok (.getfield 25, 3) := by decide +kernel
theorem dX5_buy_79 : decode cX5_buy 79 = .ok (.aload_n 3, 1) := by decide +kernel
theorem dX5_buy_80 : decode cX5_buy 80 = .ok (.getfield 116, 3) := by decide +kernel
theorem dX5_buy_83 : decode cX5_buy 83 = .ok (.dup2, 1) := by decide +kernel
theorem dX5_buy_84 : decode cX5_buy 84 = .ok (.iaload, 1) := by decide +kernel
theorem dX5_buy_85 : decode cX5_buy 85 = .ok (.aload_n 3, 1) := by decide +kernel
theorem dX5_buy_86 : decode cX5_buy 86 = .ok (.getfield 119, 3) := by decide +kernel
theorem dX5_buy_89 : decode cX5_buy 89 = .ok (.iadd, 1) := by decide +kernel
theorem dX5_buy_90 : decode cX5_buy 90 = .ok (.iastore, 1) := by decide +kernel
theorem dX5_buy_91 : decode cX5_buy 91 = .ok (.aload_n 0, 1) := by decide +kernel
theorem dX5_buy_92 : decode cX5_buy 92 = .ok (.getfield 25, 3) := by decide +kernel
theorem dX5_buy_95 : decode cX5_buy 95 = .ok (.aload_n 3, 1) := by decide +kernel
theorem dX5_buy_96 : decode cX5_buy 96 = .ok (.getfield 116, 3) := by decide +kernel
theorem dX5_buy_99 : decode cX5_buy 99 = .ok (.iaload, 1) := by decide +kernel
theorem dX5_buy_100 : decode cX5_buy 100 = .ok (.ireturn, 1) := by decide +kernel
set_option maxRecDepth 20000 in
theorem ggX5_rule_X5_patternAt : GoodIn wsX5_rule wsX5_patternAt := goodIn_ca (goodIn_r _ [12, 13, 14, 15, 16, 17, 18, 19, 20, 21, 22, 23, 24, 25, 26, 27, 28, 29, 30, 31, 32, 33, 34, 35, 36, 37, 38, 39, 49, 50, 51, 52, 53, 54, 55, 56] (by decide +kernel) (by decide +kernel)) (goodIn_sub (fun _ h => List.mem_cons_of_mem _ (List.mem_append_right _ h)) (by decide +kernel))
set_option maxRecDepth 20000 in
theorem gX5_rule_X5_patternAt : GoodIn wsX5_rule (wsV RX5 50 RX5 yX5_patternAt wsX5_patternAt) := goodIn_app (goodIn_of _ (by decide +kernel)) ggX5_rule_X5_patternAt
theorem dX5_rule_0 : decode cX5_rule 0 = .ok (.aload_n 0, 1) := by decide +kernel
theorem dX5_rule_1 : decode cX5_rule 1 = .ok (.iload_n 1, 1) := by decide +kernel
theorem dX5_rule_2 : decode cX5_rule 2 = .ok (.invokevirtual 50, 3) := by decide +kernel
theorem dX5_rule_5 : decode cX5_rule 5 = .ok (.astore_n 2, 1) := by decide +kernel
theorem dX5_rule_6 : decode cX5_rule 6 = .ok (.aload_n 2, 1) := by decide +kernel
theorem dX5_rule_7 : decode cX5_rule 7 = .ok (.getfield 132, 3) := by decide +kernel
theorem dX5_rule_10 : decode cX5_rule 10 = .ok (.astore_n 3, 1) := by decide +kernel
theorem dX5_rule_11 : decode cX5_rule 11 = .ok (.aload_n 3, 1) := by decide +kernel
theorem dX5_rule_12 : decode cX5_rule 12 = .ok (.ifnull 21, 3) := by decide +kernel
theorem dX5_rule_15 : decode cX5_rule 15 = .ok (.aload_n 3, 1) := by decide +kernel
theorem dX5_rule_16 : decode cX5_rule 16 = .ok (.getfield 116, 3) := by decide +kernel
theorem dX5_rule_19 : decode cX5_rule 19 = .ok (.aload_n 2, 1) := by decide +kernel
theorem dX5_rule_20 : decode cX5_rule 20 = .ok (.getfield 116, 3) := by decide +kernel
theorem dX5_rule_23 : decode cX5_rule 23 = .ok (.if_icmp .eq 10, 3) := by decide +kernel
theorem dX5_rule_26 : decode cX5_rule 26 = .ok (.aload_n 2, 1) := by decide +kernel
theorem dX5_rule_27 : decode cX5_rule 27 = .ok (.getfield 154, 3) := by decide +kernel
theorem dX5_rule_30 : decode cX5_rule 30 = .ok (.ifCond .eq 13, 3) := by decide +kernel
theorem dX5_rule_33 : decode cX5_rule 33 = .ok (.new 69, 3) := by decide +kernel
theorem dX5_rule_36 : decode cX5_rule 36 = .ok (.dup, 1) := by decide +kernel
theorem dX5_rule_37 : decode cX5_rule 37 = .ok (.ldc 170, 2) := by decide +kernel
theorem dX5_rule_39 : decode cX5_rule 39 = .ok (.invokespecial 73, 3) := by decide +kernel
theorem dX5_rule_42 : decode cX5_rule 42 = .ok (.athrow, 1) := by decide +kernel
theorem dX5_rule_43 : decode cX5_rule 43 = .ok (.aload_n 2, 1) := by decide +kernel
theorem dX5_rule_44 : decode cX5_rule 44 = .ok (.iconst 1, 1) := by decide +kernel
theorem dX5_rule_45 : decode cX5_rule 45 = .ok (.putfield 154, 3) := by decide +kernel
theorem dX5_rule_48 : decode cX5_rule 48 = .ok (.aload_n 0, 1) := by decide +kernel
theorem dX5_rule_49 : decode cX5_rule 49 = .ok (.getfield 25, 3) := by decide +kernel
theorem dX5_rule_52 : decode cX5_rule 52 = .ok (.aload_n 2, 1) := by decide +kernel
theorem dX5_rule_53 : decode cX5_rule 53 = .ok (.getfield 116, 3) := by decide +kernel
theorem dX5_rule_56 : decode cX5_rule 56 = .ok (.dup2, 1) := by decide +kernel
theorem dX5_rule_57 : decode cX5_rule 57 = .ok (.iaload, 1) := by decide +kernel
theorem dX5_rule_58 : decode cX5_rule 58 = .ok (.aload_n 2, 1) := by decide +kernel
theorem dX5_rule_59 : decode cX5_rule 59 = .ok (.getfield 167, 3) := by decide +kernel
theorem dX5_rule_62 : decode cX5_rule 62 = .ok (.isub, 1) := by decide +kernel
theorem dX5_rule_63 : decode cX5_rule 63 = .ok (.iastore, 1) := by decide +kernel
theorem dX5_rule_64 : decode cX5_rule 64 = .ok (.aload_n 0, 1) := by decide +kernel
theorem dX5_rule_65 : decode cX5_rule 65 = .ok (.getfield 25, 3) := by decide +kernel
theorem dX5_rule_68 : decode cX5_rule 68 = .ok (.aload_n 3, 1) := by decide +kernel
theorem dX5_rule_69 : decode cX5_rule 69 = .ok (.getfield 116, 3) := by decide +kernel
theorem dX5_rule_72 : decode cX5_rule 72 = .ok (.dup2, 1) := by decide +kernel
theorem dX5_rule_73 : decode cX5_rule 73 = .ok (.iaload, 1) := by decide +kernel
theorem dX5_rule_74 : decode cX5_rule 74 = .ok (.aload_n 2, 1) := by decide +kernel
theorem dX5_rule_75 : decode cX5_rule 75 = .ok (.getfield 167, 3) := by decide +kernel
theorem dX5_rule_78 : decode cX5_rule 78 = .ok (.iadd, 1) := by decide +kernel
theorem dX5_rule_79 : decode cX5_rule 79 = .ok (.iastore, 1) := by decide +kernel
theorem dX5_rule_80 : decode cX5_rule 80 = .ok (.aload_n 2, 1) := by decide +kernel
theorem dX5_rule_81 : decode cX5_rule 81 = .ok (.getfield 167, 3) := by decide +kernel
theorem dX5_rule_84 : decode cX5_rule 84 = .ok (.ireturn, 1) := by decide +kernel
set_option maxRecDepth 20000 in
theorem ggX5_money_X5_checkPerson : GoodIn wsX5_money wsX5_checkPerson := goodIn_ca (goodIn_r _ [5, 6, 7] (by decide +kernel) (by decide +kernel)) (goodIn_sub (fun _ h => List.mem_cons_of_mem _ (List.mem_append_right _ h)) (by decide +kernel))
set_option maxRecDepth 20000 in
theorem gX5_money_X5_checkPerson : GoodIn wsX5_money (va_wsS RX5 29 yX5_checkPerson wsX5_checkPerson) := goodIn_app (goodIn_of _ (by decide +kernel)) ggX5_money_X5_checkPerson
theorem dX5_money_0 : decode cX5_money 0 = .ok (.iload_n 1, 1) := by decide +kernel
theorem dX5_money_1 : decode cX5_money 1 = .ok (.invokestatic 29, 3) := by decide +kernel
theorem dX5_money_4 : decode cX5_money 4 = .ok (.aload_n 0, 1) := by decide +kernel
theorem dX5_money_5 : decode cX5_money 5 = .ok (.getfield 25, 3) := by decide +kernel
theorem dX5_money_8 : decode cX5_money 8 = .ok (.iload_n 1, 1) := by decide +kernel
theorem dX5_money_9 : decode cX5_money 9 = .ok (.iaload, 1) := by decide +kernel
theorem dX5_money_10 : decode cX5_money 10 = .ok (.ireturn, 1) := by decide +kernel
set_option maxRecDepth 20000 in
theorem ggX5_lot_X5_checkPerson : GoodIn wsX5_lot wsX5_checkPerson := goodIn_ca (goodIn_r _ [11, 12, 13] (by decide +kernel) (by decide +kernel)) (goodIn_sub (fun _ h => List.mem_cons_of_mem _ (List.mem_append_left _ (List.mem_append_right _ h))) (by decide +kernel))
set_option maxRecDepth 20000 in
theorem gX5_lot_X5_checkPerson : GoodIn wsX5_lot (va_wsS RX5 29 yX5_checkPerson wsX5_checkPerson) := goodIn_app (goodIn_of _ (by decide +kernel)) ggX5_lot_X5_checkPerson
set_option maxRecDepth 20000 in
theorem ggX5_lot_X5_checkGauge : GoodIn wsX5_lot wsX5_checkGauge := goodIn_ca (goodIn_r _ [16, 17, 18, 10, 19, 20, 21] (by decide +kernel) (by decide +kernel)) (goodIn_sub (fun _ h => List.mem_cons_of_mem _ (List.mem_append_right _ h)) (by decide +kernel))
set_option maxRecDepth 20000 in
theorem gX5_lot_X5_checkGauge : GoodIn wsX5_lot (va_wsS RX5 87 yX5_checkGauge wsX5_checkGauge) := goodIn_app (goodIn_of _ (by decide +kernel)) ggX5_lot_X5_checkGauge
set_option maxRecDepth 20000 in
theorem ggX5_lot_X5_checkRange : GoodIn wsX5_lot wsX5_checkRange := goodIn_ca (goodIn_r _ [19, 20, 21] (by decide +kernel) (by decide +kernel)) (goodIn_sub (fun _ h => List.mem_cons_of_mem _ (List.mem_append_right _ h)) (by decide +kernel))
set_option maxRecDepth 20000 in
theorem gX5_lot_X5_checkRange : GoodIn wsX5_lot (va_wsS RX5 33 yX5_checkRange wsX5_checkRange) := goodIn_app (goodIn_of _ (by decide +kernel)) ggX5_lot_X5_checkRange
set_option maxRecDepth 20000 in
theorem ggX5_lot_Jx4a65c_size_8abf5 : GoodIn wsX5_lot wsJx4a65c_size_8abf5 := goodIn_r _ [26, 27, 101, 102, 103] (by decide +kernel) (by decide +kernel)
set_option maxRecDepth 20000 in
theorem gX5_lot_Jx4a65c_size_8abf5 : GoodIn wsX5_lot (wsV RX5 173 RJx4a65c yJx4a65c_size_8abf5 wsJx4a65c_size_8abf5) := goodIn_app (goodIn_of _ (by decide +kernel)) ggX5_lot_Jx4a65c_size_8abf5
set_option maxRecDepth 20000 in
theorem ggX5_lot_X1_init : GoodIn wsX5_lot wsX1_init := goodIn_r _ [30, 31, 32, 33, 34, 35, 36, 37, 97, 98, 99, 100] (by decide +kernel) (by decide +kernel)
set_option maxRecDepth 20000 in
theorem gX5_lot_X1_init : GoodIn wsX5_lot (wsX1_init) := ggX5_lot_X1_init
set_option maxRecDepth 20000 in
theorem ggX5_lot_Jx4a65c_add_9ea2d : GoodIn wsX5_lot wsJx4a65c_add_9ea2d := goodIn_r _ [41, 42, 43, 44, 27, 45, 46, 47, 25, 48, 49, 50, 51, 52, 53, 54, 55, 56, 57, 58, 59, 60, 61, 62, 63, 64, 65, 66, 67, 68, 69, 70, 71, 72, 73, 74, 75, 76, 77, 78, 79, 80, 81, 82, 83, 84, 85, 86, 87, 88, 89, 90, 91, 101, 102, 103] (by decide +kernel) (by decide +kernel)
set_option maxRecDepth 20000 in
theorem gX5_lot_Jx4a65c_add_9ea2d : GoodIn wsX5_lot (wsV RX5 136 RJx4a65c yJx4a65c_add_9ea2d wsJx4a65c_add_9ea2d) := goodIn_app (goodIn_of _ (by decide +kernel)) ggX5_lot_Jx4a65c_add_9ea2d
theorem dX5_lot_0 : decode cX5_lot 0 = .ok (.iload_n 1, 1) := by decide +kernel
theorem dX5_lot_1 : decode cX5_lot 1 = .ok (.invokestatic 29, 3) := by decide +kernel
theorem dX5_lot_4 : decode cX5_lot 4 = .ok (.iload_n 2, 1) := by decide +kernel
theorem dX5_lot_5 : decode cX5_lot 5 = .ok (.invokestatic 87, 3) := by decide +kernel
theorem dX5_lot_8 : decode cX5_lot 8 = .ok (.iload_n 3, 1) := by decide +kernel
theorem dX5_lot_9 : decode cX5_lot 9 = .ok (.iconst 1, 1) := by decide +kernel
theorem dX5_lot_10 : decode cX5_lot 10 = .ok (.ldc 172, 2) := by decide +kernel
theorem dX5_lot_12 : decode cX5_lot 12 = .ok (.invokestatic 33, 3) := by decide +kernel
theorem dX5_lot_15 : decode cX5_lot 15 = .ok (.aload_n 0, 1) := by decide +kernel
theorem dX5_lot_16 : decode cX5_lot 16 = .ok (.getfield 19, 3) := by decide +kernel
theorem dX5_lot_19 : decode cX5_lot 19 = .ok (.invokevirtual 173, 3) := by decide +kernel
theorem dX5_lot_22 : decode cX5_lot 22 = .ok (.istore 4, 2) := by decide +kernel
theorem dX5_lot_24 : decode cX5_lot 24 = .ok (.iload 4, 2) := by decide +kernel
theorem dX5_lot_26 : decode cX5_lot 26 = .ok (.bipush 20, 2) := by decide +kernel
theorem dX5_lot_28 : decode cX5_lot 28 = .ok (.if_icmp .lt 13, 3) := by decide +kernel
theorem dX5_lot_31 : decode cX5_lot 31 = .ok (.new 69, 3) := by decide +kernel
theorem dX5_lot_34 : decode cX5_lot 34 = .ok (.dup, 1) := by decide +kernel
theorem dX5_lot_35 : decode cX5_lot 35 = .ok (.ldc 176, 2) := by decide +kernel
theorem dX5_lot_37 : decode cX5_lot 37 = .ok (.invokespecial 73, 3) := by decide +kernel
theorem dX5_lot_40 : decode cX5_lot 40 = .ok (.athrow, 1) := by decide +kernel
theorem dX5_lot_41 : decode cX5_lot 41 = .ok (.aload_n 0, 1) := by decide +kernel
theorem dX5_lot_42 : decode cX5_lot 42 = .ok (.getfield 19, 3) := by decide +kernel
theorem dX5_lot_45 : decode cX5_lot 45 = .ok (.new 178, 3) := by decide +kernel
theorem dX5_lot_48 : decode cX5_lot 48 = .ok (.dup, 1) := by decide +kernel
theorem dX5_lot_49 : decode cX5_lot 49 = .ok (.iload 4, 2) := by decide +kernel
theorem dX5_lot_51 : decode cX5_lot 51 = .ok (.iload_n 1, 1) := by decide +kernel
theorem dX5_lot_52 : decode cX5_lot 52 = .ok (.iload_n 2, 1) := by decide +kernel
theorem dX5_lot_53 : decode cX5_lot 53 = .ok (.iload_n 3, 1) := by decide +kernel
theorem dX5_lot_54 : decode cX5_lot 54 = .ok (.invokespecial 180, 3) := by decide +kernel
theorem dX5_lot_57 : decode cX5_lot 57 = .ok (.invokevirtual 136, 3) := by decide +kernel
theorem dX5_lot_60 : decode cX5_lot 60 = .ok (.pop, 1) := by decide +kernel
theorem dX5_lot_61 : decode cX5_lot 61 = .ok (.iload 4, 2) := by decide +kernel
theorem dX5_lot_63 : decode cX5_lot 63 = .ok (.ireturn, 1) := by decide +kernel
set_option maxRecDepth 20000 in
theorem ggX5_swap_X5_lotAt : GoodIn wsX5_swap wsX5_lotAt := goodIn_ca (goodIn_r _ [8, 9, 10, 11, 12, 13, 14, 15, 16, 17, 18, 19, 20, 21, 22, 23, 24, 25, 26, 27, 28, 29, 30, 31, 32, 33, 34, 35, 40, 41, 42, 43, 44, 45, 46, 47] (by decide +kernel) (by decide +kernel)) (goodIn_sub (fun _ h => List.mem_cons_of_mem _ (List.mem_append_right _ h)) (by decide +kernel))
set_option maxRecDepth 20000 in
theorem gX5_swap_X5_lotAt : GoodIn wsX5_swap (wsV RX5 182 RX5 yX5_lotAt wsX5_lotAt) := goodIn_app (goodIn_of _ (by decide +kernel)) ggX5_swap_X5_lotAt
theorem dX5_swap_0 : decode cX5_swap 0 = .ok (.aload_n 0, 1) := by decide +kernel
theorem dX5_swap_1 : decode cX5_swap 1 = .ok (.iload_n 1, 1) := by decide +kernel
theorem dX5_swap_2 : decode cX5_swap 2 = .ok (.invokevirtual 182, 3) := by decide +kernel
theorem dX5_swap_5 : decode cX5_swap 5 = .ok (.astore_n 3, 1) := by decide +kernel
theorem dX5_swap_6 : decode cX5_swap 6 = .ok (.aload_n 0, 1) := by decide +kernel
theorem dX5_swap_7 : decode cX5_swap 7 = .ok (.iload_n 2, 1) := by decide +kernel
theorem dX5_swap_8 : decode cX5_swap 8 = .ok (.invokevirtual 182, 3) := by decide +kernel
theorem dX5_swap_11 : decode cX5_swap 11 = .ok (.astore 4, 2) := by decide +kernel
theorem dX5_swap_13 : decode cX5_swap 13 = .ok (.aload_n 3, 1) := by decide +kernel
theorem dX5_swap_14 : decode cX5_swap 14 = .ok (.getfield 186, 3) := by decide +kernel
theorem dX5_swap_17 : decode cX5_swap 17 = .ok (.aload 4, 2) := by decide +kernel
theorem dX5_swap_19 : decode cX5_swap 19 = .ok (.getfield 186, 3) := by decide +kernel
theorem dX5_swap_22 : decode cX5_swap 22 = .ok (.if_icmp .ne 13, 3) := by decide +kernel
theorem dX5_swap_25 : decode cX5_swap 25 = .ok (.new 69, 3) := by decide +kernel
theorem dX5_swap_28 : decode cX5_swap 28 = .ok (.dup, 1) := by decide +kernel
theorem dX5_swap_29 : decode cX5_swap 29 = .ok (.ldc 189, 2) := by decide +kernel
theorem dX5_swap_31 : decode cX5_swap 31 = .ok (.invokespecial 73, 3) := by decide +kernel
theorem dX5_swap_34 : decode cX5_swap 34 = .ok (.athrow, 1) := by decide +kernel
theorem dX5_swap_35 : decode cX5_swap 35 = .ok (.aload_n 3, 1) := by decide +kernel
theorem dX5_swap_36 : decode cX5_swap 36 = .ok (.getfield 186, 3) := by decide +kernel
theorem dX5_swap_39 : decode cX5_swap 39 = .ok (.istore 5, 2) := by decide +kernel
theorem dX5_swap_41 : decode cX5_swap 41 = .ok (.aload_n 3, 1) := by decide +kernel
theorem dX5_swap_42 : decode cX5_swap 42 = .ok (.aload 4, 2) := by decide +kernel
theorem dX5_swap_44 : decode cX5_swap 44 = .ok (.getfield 186, 3) := by decide +kernel
theorem dX5_swap_47 : decode cX5_swap 47 = .ok (.putfield 186, 3) := by decide +kernel
theorem dX5_swap_50 : decode cX5_swap 50 = .ok (.aload 4, 2) := by decide +kernel
theorem dX5_swap_52 : decode cX5_swap 52 = .ok (.iload 5, 2) := by decide +kernel
theorem dX5_swap_54 : decode cX5_swap 54 = .ok (.putfield 186, 3) := by decide +kernel
theorem dX5_swap_57 : decode cX5_swap 57 = .ok (.aload_n 3, 1) := by decide +kernel
theorem dX5_swap_58 : decode cX5_swap 58 = .ok (.getfield 186, 3) := by decide +kernel
theorem dX5_swap_61 : decode cX5_swap 61 = .ok (.ireturn, 1) := by decide +kernel
set_option maxRecDepth 20000 in
theorem ggX5_left_X5_lotAt : GoodIn wsX5_left wsX5_lotAt := goodIn_ca (goodIn_r _ [6, 7, 8, 9, 10, 11, 12, 13, 14, 15, 16, 17, 18, 19, 20, 21, 22, 23, 24, 25, 26, 27, 28, 29, 30, 31, 32, 33, 38, 39, 40, 41, 42, 43, 44, 45] (by decide +kernel) (by decide +kernel)) (goodIn_sub (fun _ h => List.mem_cons_of_mem _ (List.mem_append_right _ h)) (by decide +kernel))
set_option maxRecDepth 20000 in
theorem gX5_left_X5_lotAt : GoodIn wsX5_left (wsV RX5 182 RX5 yX5_lotAt wsX5_lotAt) := goodIn_app (goodIn_of _ (by decide +kernel)) ggX5_left_X5_lotAt
theorem dX5_left_0 : decode cX5_left 0 = .ok (.aload_n 0, 1) := by decide +kernel
theorem dX5_left_1 : decode cX5_left 1 = .ok (.iload_n 1, 1) := by decide +kernel
theorem dX5_left_2 : decode cX5_left 2 = .ok (.invokevirtual 182, 3) := by decide +kernel
theorem dX5_left_5 : decode cX5_left 5 = .ok (.getfield 191, 3) := by decide +kernel
theorem dX5_left_8 : decode cX5_left 8 = .ok (.ireturn, 1) := by decide +kernel
set_option maxRecDepth 20000 in
theorem ggX5_project_X5_checkPerson : GoodIn wsX5_project wsX5_checkPerson := goodIn_ca (goodIn_r _ [11, 12, 13] (by decide +kernel) (by decide +kernel)) (goodIn_sub (fun _ h => List.mem_cons_of_mem _ (List.mem_append_right _ h)) (by decide +kernel))
set_option maxRecDepth 20000 in
theorem gX5_project_X5_checkPerson : GoodIn wsX5_project (va_wsS RX5 29 yX5_checkPerson wsX5_checkPerson) := goodIn_app (goodIn_of _ (by decide +kernel)) ggX5_project_X5_checkPerson
set_option maxRecDepth 20000 in
theorem ggX5_project_X5_patternAt : GoodIn wsX5_project wsX5_patternAt := goodIn_ca (goodIn_r _ [17, 12, 13, 18, 19, 20, 21, 22, 23, 24, 25, 26, 27, 28, 29, 30, 31, 32, 33, 34, 35, 36, 37, 38, 39, 40, 41, 42, 124, 125, 126, 127, 128, 137, 138, 139] (by decide +kernel) (by decide +kernel)) (goodIn_sub (fun _ h => List.mem_cons_of_mem _ (List.mem_append_right _ h)) (by decide +kernel))
set_option maxRecDepth 20000 in
theorem gX5_project_X5_patternAt : GoodIn wsX5_project (wsV RX5 50 RX5 yX5_patternAt wsX5_patternAt) := goodIn_app (goodIn_of _ (by decide +kernel)) ggX5_project_X5_patternAt
set_option maxRecDepth 20000 in
theorem ggX5_project_X5_lotAt : GoodIn wsX5_project wsX5_lotAt := goodIn_ca (goodIn_r _ [46, 12, 13, 47, 48, 20, 21, 22, 23, 24, 25, 26, 27, 28, 29, 30, 31, 32, 33, 34, 35, 36, 37, 38, 39, 40, 41, 42, 124, 125, 126, 127, 128, 137, 138, 139] (by decide +kernel) (by decide +kernel)) (goodIn_sub (fun _ h => List.mem_cons_of_mem _ (List.mem_append_right _ h)) (by decide +kernel))
set_option maxRecDepth 20000 in
theorem gX5_project_X5_lotAt : GoodIn wsX5_project (wsV RX5 182 RX5 yX5_lotAt wsX5_lotAt) := goodIn_app (goodIn_of _ (by decide +kernel)) ggX5_project_X5_lotAt
set_option maxRecDepth 20000 in
theorem ggX5_project_Jx4a65c_size_8abf5 : GoodIn wsX5_project wsJx4a65c_size_8abf5 := goodIn_r _ [24, 25, 137, 138, 139] (by decide +kernel) (by decide +kernel)
set_option maxRecDepth 20000 in
theorem gX5_project_Jx4a65c_size_8abf5 : GoodIn wsX5_project (wsV RX5 173 RJx4a65c yJx4a65c_size_8abf5 wsJx4a65c_size_8abf5) := goodIn_app (goodIn_of _ (by decide +kernel)) ggX5_project_Jx4a65c_size_8abf5
set_option maxRecDepth 20000 in
theorem ggX5_project_X2_isPublished : GoodIn wsX5_project wsX2_isPublished := goodIn_r _ [53, 54, 140, 141, 142, 143, 144, 145, 146, 147, 148] (by decide +kernel) (by decide +kernel)
set_option maxRecDepth 20000 in
theorem gX5_project_X2_isPublished : GoodIn wsX5_project (wsV RX5 61 RX2 yX2_isPublished wsX2_isPublished) := goodIn_app (goodIn_of _ (by decide +kernel)) ggX5_project_X2_isPublished
set_option maxRecDepth 20000 in
theorem ggX5_project_X2_mayBeKnittedBy : GoodIn wsX5_project wsX2_mayBeKnittedBy := goodIn_r _ [58, 59, 60, 140, 141, 142, 143, 144, 145, 146, 147, 148] (by decide +kernel) (by decide +kernel)
set_option maxRecDepth 20000 in
theorem gX5_project_X2_mayBeKnittedBy : GoodIn wsX5_project (wsV RX5 158 RX2 yX2_mayBeKnittedBy wsX2_mayBeKnittedBy) := goodIn_app (goodIn_of _ (by decide +kernel)) ggX5_project_X2_mayBeKnittedBy
set_option maxRecDepth 20000 in
theorem ggX5_project_X4_init : GoodIn wsX5_project wsX4_init := goodIn_r _ [63, 64, 65, 66, 67, 68, 69, 70, 133, 134, 135, 136] (by decide +kernel) (by decide +kernel)
set_option maxRecDepth 20000 in
theorem gX5_project_X4_init : GoodIn wsX5_project (wsX4_init) := ggX5_project_X4_init
set_option maxRecDepth 20000 in
theorem ggX5_project_Jx4a65c_add_9ea2d : GoodIn wsX5_project wsJx4a65c_add_9ea2d := goodIn_r _ [74, 75, 76, 42, 25, 77, 78, 79, 23, 80, 81, 82, 83, 84, 85, 86, 87, 88, 89, 90, 91, 92, 93, 94, 95, 96, 97, 98, 99, 100, 101, 102, 103, 104, 105, 106, 107, 108, 109, 110, 111, 112, 113, 114, 115, 116, 117, 118, 119, 120, 121, 122, 123, 137, 138, 139] (by decide +kernel) (by decide +kernel)
set_option maxRecDepth 20000 in
theorem gX5_project_Jx4a65c_add_9ea2d : GoodIn wsX5_project (wsV RX5 136 RJx4a65c yJx4a65c_add_9ea2d wsJx4a65c_add_9ea2d) := goodIn_app (goodIn_of _ (by decide +kernel)) ggX5_project_Jx4a65c_add_9ea2d
theorem dX5_project_0 : decode cX5_project 0 = .ok (.iload_n 1, 1) := by decide +kernel
theorem dX5_project_1 : decode cX5_project 1 = .ok (.invokestatic 29, 3) := by decide +kernel
theorem dX5_project_4 : decode cX5_project 4 = .ok (.aload_n 0, 1) := by decide +kernel
theorem dX5_project_5 : decode cX5_project 5 = .ok (.iload_n 2, 1) := by decide +kernel
theorem dX5_project_6 : decode cX5_project 6 = .ok (.invokevirtual 50, 3) := by decide +kernel
theorem dX5_project_9 : decode cX5_project 9 = .ok (.astore 4, 2) := by decide +kernel
theorem dX5_project_11 : decode cX5_project 11 = .ok (.aload_n 0, 1) := by decide +kernel
theorem dX5_project_12 : decode cX5_project 12 = .ok (.iload_n 3, 1) := by decide +kernel
theorem dX5_project_13 : decode cX5_project 13 = .ok (.invokevirtual 182, 3) := by decide +kernel
theorem dX5_project_16 : decode cX5_project 16 = .ok (.astore 5, 2) := by decide +kernel
theorem dX5_project_18 : decode cX5_project 18 = .ok (.aload_n 0, 1) := by decide +kernel
theorem dX5_project_19 : decode cX5_project 19 = .ok (.getfield 22, 3) := by decide +kernel
theorem dX5_project_22 : decode cX5_project 22 = .ok (.invokevirtual 173, 3) := by decide +kernel
theorem dX5_project_25 : decode cX5_project 25 = .ok (.istore 6, 2) := by decide +kernel
theorem dX5_project_27 : decode cX5_project 27 = .ok (.aload 4, 2) := by decide +kernel
theorem dX5_project_29 : decode cX5_project 29 = .ok (.invokevirtual 61, 3) := by decide +kernel
theorem dX5_project_32 : decode cX5_project 32 = .ok (.ifCond .eq 28, 3) := by decide +kernel
theorem dX5_project_35 : decode cX5_project 35 = .ok (.aload 4, 2) := by decide +kernel
theorem dX5_project_37 : decode cX5_project 37 = .ok (.iload_n 1, 1) := by decide +kernel
theorem dX5_project_38 : decode cX5_project 38 = .ok (.invokevirtual 158, 3) := by decide +kernel
theorem dX5_project_41 : decode cX5_project 41 = .ok (.ifCond .eq 19, 3) := by decide +kernel
theorem dX5_project_44 : decode cX5_project 44 = .ok (.aload 5, 2) := by decide +kernel
theorem dX5_project_46 : decode cX5_project 46 = .ok (.getfield 186, 3) := by decide +kernel
theorem dX5_project_49 : decode cX5_project 49 = .ok (.iload_n 1, 1) := by decide +kernel
theorem dX5_project_50 : decode cX5_project 50 = .ok (.if_icmp .ne 10, 3) := by decide +kernel
theorem dX5_project_53 : decode cX5_project 53 = .ok (.iload 6, 2) := by decide +kernel
theorem dX5_project_55 : decode cX5_project 55 = .ok (.bipush 12, 2) := by decide +kernel
theorem dX5_project_57 : decode cX5_project 57 = .ok (.if_icmp .lt 13, 3) := by decide +kernel
theorem dX5_project_60 : decode cX5_project 60 = .ok (.new 69, 3) := by decide +kernel
theorem dX5_project_63 : decode cX5_project 63 = .ok (.dup, 1) := by decide +kernel
theorem dX5_project_64 : decode cX5_project 64 = .ok (.ldc 194, 2) := by decide +kernel
theorem dX5_project_66 : decode cX5_project 66 = .ok (.invokespecial 73, 3) := by decide +kernel
theorem dX5_project_69 : decode cX5_project 69 = .ok (.athrow, 1) := by decide +kernel
theorem dX5_project_70 : decode cX5_project 70 = .ok (.aload_n 0, 1) := by decide +kernel
theorem dX5_project_71 : decode cX5_project 71 = .ok (.getfield 22, 3) := by decide +kernel
theorem dX5_project_74 : decode cX5_project 74 = .ok (.new 196, 3) := by decide +kernel
theorem dX5_project_77 : decode cX5_project 77 = .ok (.dup, 1) := by decide +kernel
theorem dX5_project_78 : decode cX5_project 78 = .ok (.iload_n 1, 1) := by decide +kernel
theorem dX5_project_79 : decode cX5_project 79 = .ok (.aload 4, 2) := by decide +kernel
theorem dX5_project_81 : decode cX5_project 81 = .ok (.aload 5, 2) := by decide +kernel
theorem dX5_project_83 : decode cX5_project 83 = .ok (.invokespecial 198, 3) := by decide +kernel
theorem dX5_project_86 : decode cX5_project 86 = .ok (.invokevirtual 136, 3) := by decide +kernel
theorem dX5_project_89 : decode cX5_project 89 = .ok (.pop, 1) := by decide +kernel
theorem dX5_project_90 : decode cX5_project 90 = .ok (.iload 6, 2) := by decide +kernel
theorem dX5_project_92 : decode cX5_project 92 = .ok (.ireturn, 1) := by decide +kernel
set_option maxRecDepth 20000 in
theorem ggX5_take_X5_projectAt : GoodIn wsX5_take wsX5_projectAt := goodIn_ca (goodIn_r _ [11, 12, 13, 14, 15, 16, 17, 18, 19, 20, 21, 22, 23, 24, 25, 26, 27, 28, 29, 30, 31, 32, 33, 34, 35, 36, 37, 38, 53, 54, 55, 56, 57, 58, 59, 60] (by decide +kernel) (by decide +kernel)) (goodIn_sub (fun _ h => List.mem_cons_of_mem _ (List.mem_append_right _ h)) (by decide +kernel))
set_option maxRecDepth 20000 in
theorem gX5_take_X5_projectAt : GoodIn wsX5_take (wsV RX5 201 RX5 yX5_projectAt wsX5_projectAt) := goodIn_app (goodIn_of _ (by decide +kernel)) ggX5_take_X5_projectAt
set_option maxRecDepth 20000 in
theorem ggX5_take_X5_lotAt : GoodIn wsX5_take wsX5_lotAt := goodIn_ca (goodIn_r _ [42, 12, 13, 43, 44, 16, 17, 18, 19, 20, 21, 22, 23, 24, 25, 26, 27, 28, 29, 30, 31, 32, 33, 34, 35, 36, 37, 38, 53, 54, 55, 56, 57, 58, 59, 60] (by decide +kernel) (by decide +kernel)) (goodIn_sub (fun _ h => List.mem_cons_of_mem _ (List.mem_append_right _ h)) (by decide +kernel))
set_option maxRecDepth 20000 in
theorem gX5_take_X5_lotAt : GoodIn wsX5_take (wsV RX5 182 RX5 yX5_lotAt wsX5_lotAt) := goodIn_app (goodIn_of _ (by decide +kernel)) ggX5_take_X5_lotAt
theorem dX5_take_0 : decode cX5_take 0 = .ok (.aload_n 0, 1) := by decide +kernel
theorem dX5_take_1 : decode cX5_take 1 = .ok (.iload_n 1, 1) := by decide +kernel
theorem dX5_take_2 : decode cX5_take 2 = .ok (.invokevirtual 201, 3) := by decide +kernel
theorem dX5_take_5 : decode cX5_take 5 = .ok (.astore_n 3, 1) := by decide +kernel
theorem dX5_take_6 : decode cX5_take 6 = .ok (.aload_n 0, 1) := by decide +kernel
theorem dX5_take_7 : decode cX5_take 7 = .ok (.iload_n 2, 1) := by decide +kernel
theorem dX5_take_8 : decode cX5_take 8 = .ok (.invokevirtual 182, 3) := by decide +kernel
theorem dX5_take_11 : decode cX5_take 11 = .ok (.astore 4, 2) := by decide +kernel
theorem dX5_take_13 : decode cX5_take 13 = .ok (.aload 4, 2) := by decide +kernel
theorem dX5_take_15 : decode cX5_take 15 = .ok (.getfield 186, 3) := by decide +kernel
theorem dX5_take_18 : decode cX5_take 18 = .ok (.aload_n 3, 1) := by decide +kernel
theorem dX5_take_19 : decode cX5_take 19 = .ok (.getfield 205, 3) := by decide +kernel
theorem dX5_take_22 : decode cX5_take 22 = .ok (.if_icmp .eq 13, 3) := by decide +kernel
theorem dX5_take_25 : decode cX5_take 25 = .ok (.new 69, 3) := by decide +kernel
theorem dX5_take_28 : decode cX5_take 28 = .ok (.dup, 1) := by decide +kernel
theorem dX5_take_29 : decode cX5_take 29 = .ok (.ldc 206, 2) := by decide +kernel
theorem dX5_take_31 : decode cX5_take 31 = .ok (.invokespecial 73, 3) := by decide +kernel
theorem dX5_take_34 : decode cX5_take 34 = .ok (.athrow, 1) := by decide +kernel
theorem dX5_take_35 : decode cX5_take 35 = .ok (.aload_n 3, 1) := by decide +kernel
theorem dX5_take_36 : decode cX5_take 36 = .ok (.getfield 208, 3) := by decide +kernel
theorem dX5_take_39 : decode cX5_take 39 = .ok (.getfield 212, 3) := by decide +kernel
theorem dX5_take_42 : decode cX5_take 42 = .ok (.istore 5, 2) := by decide +kernel
theorem dX5_take_44 : decode cX5_take 44 = .ok (.aload_n 3, 1) := by decide +kernel
theorem dX5_take_45 : decode cX5_take 45 = .ok (.aload 4, 2) := by decide +kernel
theorem dX5_take_47 : decode cX5_take 47 = .ok (.putfield 208, 3) := by decide +kernel
theorem dX5_take_50 : decode cX5_take 50 = .ok (.iload 5, 2) := by decide +kernel
theorem dX5_take_52 : decode cX5_take 52 = .ok (.ireturn, 1) := by decide +kernel
set_option maxRecDepth 20000 in
theorem ggX5_knit_X5_projectAt : GoodIn wsX5_knit wsX5_projectAt := goodIn_ca (goodIn_r _ [5, 6, 7, 8, 9, 10, 11, 12, 13, 14, 15, 16, 17, 18, 19, 20, 21, 22, 23, 24, 25, 26, 27, 28, 29, 30, 31, 32, 66, 67, 68, 69, 70, 71, 72, 73] (by decide +kernel) (by decide +kernel)) (goodIn_sub (fun _ h => List.mem_cons_of_mem _ (List.mem_append_left _ (List.mem_append_right _ h))) (by decide +kernel))
set_option maxRecDepth 20000 in
theorem gX5_knit_X5_projectAt : GoodIn wsX5_knit (wsV RX5 201 RX5 yX5_projectAt wsX5_projectAt) := goodIn_app (goodIn_of _ (by decide +kernel)) ggX5_knit_X5_projectAt
set_option maxRecDepth 20000 in
theorem ggX5_knit_X5_checkRange : GoodIn wsX5_knit wsX5_checkRange := goodIn_ca (goodIn_r _ [35, 36, 37] (by decide +kernel) (by decide +kernel)) (goodIn_sub (fun _ h => List.mem_cons_of_mem _ (List.mem_append_right _ h)) (by decide +kernel))
set_option maxRecDepth 20000 in
theorem gX5_knit_X5_checkRange : GoodIn wsX5_knit (va_wsS RX5 33 yX5_checkRange wsX5_checkRange) := goodIn_app (goodIn_of _ (by decide +kernel)) ggX5_knit_X5_checkRange
set_option maxRecDepth 20000 in
theorem ggX5_knit_X4_knitUpTo : GoodIn wsX5_knit wsX4_knitUpTo := goodIn_r _ [42, 43, 44, 45, 46, 47, 48, 41, 49, 50, 51, 52, 53, 54, 55, 56, 57, 58, 59, 60, 61, 62, 63, 64, 65, 74, 75, 76, 77, 78, 79, 80, 81, 82, 83, 84, 85, 86, 87, 88, 89, 90, 91, 92, 93, 94] (by decide +kernel) (by decide +kernel)
set_option maxRecDepth 20000 in
theorem gX5_knit_X4_knitUpTo : GoodIn wsX5_knit (wsV RX5 213 RX4 yX4_knitUpTo wsX4_knitUpTo) := goodIn_app (goodIn_of _ (by decide +kernel)) ggX5_knit_X4_knitUpTo
theorem dX5_knit_0 : decode cX5_knit 0 = .ok (.aload_n 0, 1) := by decide +kernel
theorem dX5_knit_1 : decode cX5_knit 1 = .ok (.iload_n 1, 1) := by decide +kernel
theorem dX5_knit_2 : decode cX5_knit 2 = .ok (.invokevirtual 201, 3) := by decide +kernel
theorem dX5_knit_5 : decode cX5_knit 5 = .ok (.astore_n 3, 1) := by decide +kernel
theorem dX5_knit_6 : decode cX5_knit 6 = .ok (.iload_n 2, 1) := by decide +kernel
theorem dX5_knit_7 : decode cX5_knit 7 = .ok (.iconst 1, 1) := by decide +kernel
theorem dX5_knit_8 : decode cX5_knit 8 = .ok (.bipush 40, 2) := by decide +kernel
theorem dX5_knit_10 : decode cX5_knit 10 = .ok (.invokestatic 33, 3) := by decide +kernel
theorem dX5_knit_13 : decode cX5_knit 13 = .ok (.aload_n 3, 1) := by decide +kernel
theorem dX5_knit_14 : decode cX5_knit 14 = .ok (.iload_n 2, 1) := by decide +kernel
theorem dX5_knit_15 : decode cX5_knit 15 = .ok (.invokevirtual 213, 3) := by decide +kernel
theorem dX5_knit_18 : decode cX5_knit 18 = .ok (.ireturn, 1) := by decide +kernel
set_option maxRecDepth 20000 in
theorem ggX5_progress_X5_projectAt : GoodIn wsX5_progress wsX5_projectAt := goodIn_ca (goodIn_r _ [6, 7, 8, 9, 10, 11, 12, 13, 14, 15, 16, 17, 18, 19, 20, 21, 22, 23, 24, 25, 26, 27, 28, 29, 30, 31, 32, 33, 38, 39, 40, 41, 42, 43, 44, 45] (by decide +kernel) (by decide +kernel)) (goodIn_sub (fun _ h => List.mem_cons_of_mem _ (List.mem_append_right _ h)) (by decide +kernel))
set_option maxRecDepth 20000 in
theorem gX5_progress_X5_projectAt : GoodIn wsX5_progress (wsV RX5 201 RX5 yX5_projectAt wsX5_projectAt) := goodIn_app (goodIn_of _ (by decide +kernel)) ggX5_progress_X5_projectAt
theorem dX5_progress_0 : decode cX5_progress 0 = .ok (.aload_n 0, 1) := by decide +kernel
theorem dX5_progress_1 : decode cX5_progress 1 = .ok (.iload_n 1, 1) := by decide +kernel
theorem dX5_progress_2 : decode cX5_progress 2 = .ok (.invokevirtual 201, 3) := by decide +kernel
theorem dX5_progress_5 : decode cX5_progress 5 = .ok (.getfield 216, 3) := by decide +kernel
theorem dX5_progress_8 : decode cX5_progress 8 = .ok (.ireturn, 1) := by decide +kernel
set_option maxRecDepth 20000 in
theorem ggX5_patternAt_Jx4a65c_size_8abf5 : GoodIn wsX5_patternAt wsJx4a65c_size_8abf5 := goodIn_r _ [9, 10, 33, 34, 35] (by decide +kernel) (by decide +kernel)
set_option maxRecDepth 20000 in
theorem gX5_patternAt_Jx4a65c_size_8abf5 : GoodIn wsX5_patternAt (wsV RX5 173 RJx4a65c yJx4a65c_size_8abf5 wsJx4a65c_size_8abf5) := goodIn_app (goodIn_of _ (by decide +kernel)) ggX5_patternAt_Jx4a65c_size_8abf5
set_option maxRecDepth 20000 in
theorem ggX5_patternAt_Jx4a65c_get_915e3 : GoodIn wsX5_patternAt wsJx4a65c_get_915e3 := goodIn_r _ [14, 10, 15, 16, 17, 18, 19, 20, 21, 22, 23, 24, 25, 8, 26, 27, 33, 34, 35] (by decide +kernel) (by decide +kernel)
set_option maxRecDepth 20000 in
theorem gX5_patternAt_Jx4a65c_get_915e3 : GoodIn wsX5_patternAt (wsV RX5 224 RJx4a65c yJx4a65c_get_915e3 wsJx4a65c_get_915e3) := goodIn_app (goodIn_of _ (by decide +kernel)) ggX5_patternAt_Jx4a65c_get_915e3
theorem dX5_patternAt_0 : decode cX5_patternAt 0 = .ok (.iload_n 1, 1) := by decide +kernel
theorem dX5_patternAt_1 : decode cX5_patternAt 1 = .ok (.ifCond .lt 14, 3) := by decide +kernel
theorem dX5_patternAt_4 : decode cX5_patternAt 4 = .ok (.iload_n 1, 1) := by decide +kernel
theorem dX5_patternAt_5 : decode cX5_patternAt 5 = .ok (.aload_n 0, 1) := by decide +kernel
theorem dX5_patternAt_6 : decode cX5_patternAt 6 = .ok (.getfield 10, 3) := by decide +kernel
theorem dX5_patternAt_9 : decode cX5_patternAt 9 = .ok (.invokevirtual 173, 3) := by decide +kernel
theorem dX5_patternAt_12 : decode cX5_patternAt 12 = .ok (.if_icmp .lt 13, 3) := by decide +kernel
theorem dX5_patternAt_15 : decode cX5_patternAt 15 = .ok (.new 219, 3) := by decide +kernel
theorem dX5_patternAt_18 : decode cX5_patternAt 18 = .ok (.dup, 1) := by decide +kernel
theorem dX5_patternAt_19 : decode cX5_patternAt 19 = .ok (.ldc 221, 2) := by decide +kernel
theorem dX5_patternAt_21 : decode cX5_patternAt 21 = .ok (.invokespecial 223, 3) := by decide +kernel
theorem dX5_patternAt_24 : decode cX5_patternAt 24 = .ok (.athrow, 1) := by decide +kernel
theorem dX5_patternAt_25 : decode cX5_patternAt 25 = .ok (.aload_n 0, 1) := by decide +kernel
theorem dX5_patternAt_26 : decode cX5_patternAt 26 = .ok (.getfield 10, 3) := by decide +kernel
theorem dX5_patternAt_29 : decode cX5_patternAt 29 = .ok (.iload_n 1, 1) := by decide +kernel
theorem dX5_patternAt_30 : decode cX5_patternAt 30 = .ok (.invokevirtual 224, 3) := by decide +kernel
theorem dX5_patternAt_33 : decode cX5_patternAt 33 = .ok (.checkcast 45, 3) := by decide +kernel
theorem dX5_patternAt_36 : decode cX5_patternAt 36 = .ok (.areturn, 1) := by decide +kernel
set_option maxRecDepth 20000 in
theorem ggX5_lotAt_Jx4a65c_size_8abf5 : GoodIn wsX5_lotAt wsJx4a65c_size_8abf5 := goodIn_r _ [9, 10, 33, 34, 35] (by decide +kernel) (by decide +kernel)
set_option maxRecDepth 20000 in
theorem gX5_lotAt_Jx4a65c_size_8abf5 : GoodIn wsX5_lotAt (wsV RX5 173 RJx4a65c yJx4a65c_size_8abf5 wsJx4a65c_size_8abf5) := goodIn_app (goodIn_of _ (by decide +kernel)) ggX5_lotAt_Jx4a65c_size_8abf5
set_option maxRecDepth 20000 in
theorem ggX5_lotAt_Jx4a65c_get_915e3 : GoodIn wsX5_lotAt wsJx4a65c_get_915e3 := goodIn_r _ [14, 10, 15, 16, 17, 18, 19, 20, 21, 22, 23, 24, 25, 8, 26, 27, 33, 34, 35] (by decide +kernel) (by decide +kernel)
set_option maxRecDepth 20000 in
theorem gX5_lotAt_Jx4a65c_get_915e3 : GoodIn wsX5_lotAt (wsV RX5 224 RJx4a65c yJx4a65c_get_915e3 wsJx4a65c_get_915e3) := goodIn_app (goodIn_of _ (by decide +kernel)) ggX5_lotAt_Jx4a65c_get_915e3
theorem dX5_lotAt_0 : decode cX5_lotAt 0 = .ok (.iload_n 1, 1) := by decide +kernel
theorem dX5_lotAt_1 : decode cX5_lotAt 1 = .ok (.ifCond .lt 14, 3) := by decide +kernel
theorem dX5_lotAt_4 : decode cX5_lotAt 4 = .ok (.iload_n 1, 1) := by decide +kernel
theorem dX5_lotAt_5 : decode cX5_lotAt 5 = .ok (.aload_n 0, 1) := by decide +kernel
theorem dX5_lotAt_6 : decode cX5_lotAt 6 = .ok (.getfield 19, 3) := by decide +kernel
theorem dX5_lotAt_9 : decode cX5_lotAt 9 = .ok (.invokevirtual 173, 3) := by decide +kernel
theorem dX5_lotAt_12 : decode cX5_lotAt 12 = .ok (.if_icmp .lt 13, 3) := by decide +kernel
theorem dX5_lotAt_15 : decode cX5_lotAt 15 = .ok (.new 219, 3) := by decide +kernel
theorem dX5_lotAt_18 : decode cX5_lotAt 18 = .ok (.dup, 1) := by decide +kernel
theorem dX5_lotAt_19 : decode cX5_lotAt 19 = .ok (.ldc 228, 2) := by decide +kernel
theorem dX5_lotAt_21 : decode cX5_lotAt 21 = .ok (.invokespecial 223, 3) := by decide +kernel
theorem dX5_lotAt_24 : decode cX5_lotAt 24 = .ok (.athrow, 1) := by decide +kernel
theorem dX5_lotAt_25 : decode cX5_lotAt 25 = .ok (.aload_n 0, 1) := by decide +kernel
theorem dX5_lotAt_26 : decode cX5_lotAt 26 = .ok (.getfield 19, 3) := by decide +kernel
theorem dX5_lotAt_29 : decode cX5_lotAt 29 = .ok (.iload_n 1, 1) := by decide +kernel
theorem dX5_lotAt_30 : decode cX5_lotAt 30 = .ok (.invokevirtual 224, 3) := by decide +kernel
theorem dX5_lotAt_33 : decode cX5_lotAt 33 = .ok (.checkcast 178, 3) := by decide +kernel
theorem dX5_lotAt_36 : decode cX5_lotAt 36 = .ok (.areturn, 1) := by decide +kernel
set_option maxRecDepth 20000 in
theorem ggX5_projectAt_Jx4a65c_size_8abf5 : GoodIn wsX5_projectAt wsJx4a65c_size_8abf5 := goodIn_r _ [9, 10, 33, 34, 35] (by decide +kernel) (by decide +kernel)
set_option maxRecDepth 20000 in
theorem gX5_projectAt_Jx4a65c_size_8abf5 : GoodIn wsX5_projectAt (wsV RX5 173 RJx4a65c yJx4a65c_size_8abf5 wsJx4a65c_size_8abf5) := goodIn_app (goodIn_of _ (by decide +kernel)) ggX5_projectAt_Jx4a65c_size_8abf5
set_option maxRecDepth 20000 in
theorem ggX5_projectAt_Jx4a65c_get_915e3 : GoodIn wsX5_projectAt wsJx4a65c_get_915e3 := goodIn_r _ [14, 10, 15, 16, 17, 18, 19, 20, 21, 22, 23, 24, 25, 8, 26, 27, 33, 34, 35] (by decide +kernel) (by decide +kernel)
set_option maxRecDepth 20000 in
theorem gX5_projectAt_Jx4a65c_get_915e3 : GoodIn wsX5_projectAt (wsV RX5 224 RJx4a65c yJx4a65c_get_915e3 wsJx4a65c_get_915e3) := goodIn_app (goodIn_of _ (by decide +kernel)) ggX5_projectAt_Jx4a65c_get_915e3
theorem dX5_projectAt_0 : decode cX5_projectAt 0 = .ok (.iload_n 1, 1) := by decide +kernel
theorem dX5_projectAt_1 : decode cX5_projectAt 1 = .ok (.ifCond .lt 14, 3) := by decide +kernel
theorem dX5_projectAt_4 : decode cX5_projectAt 4 = .ok (.iload_n 1, 1) := by decide +kernel
theorem dX5_projectAt_5 : decode cX5_projectAt 5 = .ok (.aload_n 0, 1) := by decide +kernel
theorem dX5_projectAt_6 : decode cX5_projectAt 6 = .ok (.getfield 22, 3) := by decide +kernel
theorem dX5_projectAt_9 : decode cX5_projectAt 9 = .ok (.invokevirtual 173, 3) := by decide +kernel
theorem dX5_projectAt_12 : decode cX5_projectAt 12 = .ok (.if_icmp .lt 13, 3) := by decide +kernel
theorem dX5_projectAt_15 : decode cX5_projectAt 15 = .ok (.new 219, 3) := by decide +kernel
theorem dX5_projectAt_18 : decode cX5_projectAt 18 = .ok (.dup, 1) := by decide +kernel
theorem dX5_projectAt_19 : decode cX5_projectAt 19 = .ok (.ldc 230, 2) := by decide +kernel
theorem dX5_projectAt_21 : decode cX5_projectAt 21 = .ok (.invokespecial 223, 3) := by decide +kernel
theorem dX5_projectAt_24 : decode cX5_projectAt 24 = .ok (.athrow, 1) := by decide +kernel
theorem dX5_projectAt_25 : decode cX5_projectAt 25 = .ok (.aload_n 0, 1) := by decide +kernel
theorem dX5_projectAt_26 : decode cX5_projectAt 26 = .ok (.getfield 22, 3) := by decide +kernel
theorem dX5_projectAt_29 : decode cX5_projectAt 29 = .ok (.iload_n 1, 1) := by decide +kernel
theorem dX5_projectAt_30 : decode cX5_projectAt 30 = .ok (.invokevirtual 224, 3) := by decide +kernel
theorem dX5_projectAt_33 : decode cX5_projectAt 33 = .ok (.checkcast 196, 3) := by decide +kernel
theorem dX5_projectAt_36 : decode cX5_projectAt 36 = .ok (.areturn, 1) := by decide +kernel
set_option maxRecDepth 20000 in
theorem ggX5_checkRoomForPattern_Jx4a65c_size_8abf5 : GoodIn wsX5_checkRoomForPattern wsJx4a65c_size_8abf5 := goodIn_r _ [8, 9, 15, 16, 17] (by decide +kernel) (by decide +kernel)
set_option maxRecDepth 20000 in
theorem gX5_checkRoomForPattern_Jx4a65c_size_8abf5 : GoodIn wsX5_checkRoomForPattern (wsV RX5 173 RJx4a65c yJx4a65c_size_8abf5 wsJx4a65c_size_8abf5) := goodIn_app (goodIn_of _ (by decide +kernel)) ggX5_checkRoomForPattern_Jx4a65c_size_8abf5
theorem dX5_checkRoomForPattern_0 : decode cX5_checkRoomForPattern 0 = .ok (.aload_n 0, 1) := by decide +kernel
theorem dX5_checkRoomForPattern_1 : decode cX5_checkRoomForPattern 1 = .ok (.getfield 10, 3) := by decide +kernel
theorem dX5_checkRoomForPattern_4 : decode cX5_checkRoomForPattern 4 = .ok (.invokevirtual 173, 3) := by decide +kernel
theorem dX5_checkRoomForPattern_7 : decode cX5_checkRoomForPattern 7 = .ok (.bipush 16, 2) := by decide +kernel
theorem dX5_checkRoomForPattern_9 : decode cX5_checkRoomForPattern 9 = .ok (.if_icmp .lt 13, 3) := by decide +kernel
theorem dX5_checkRoomForPattern_12 : decode cX5_checkRoomForPattern 12 = .ok (.new 69, 3) := by decide +kernel
theorem dX5_checkRoomForPattern_15 : decode cX5_checkRoomForPattern 15 = .ok (.dup, 1) := by decide +kernel
theorem dX5_checkRoomForPattern_16 : decode cX5_checkRoomForPattern 16 = .ok (.ldc 232, 2) := by decide +kernel
theorem dX5_checkRoomForPattern_18 : decode cX5_checkRoomForPattern 18 = .ok (.invokespecial 73, 3) := by decide +kernel
theorem dX5_checkRoomForPattern_21 : decode cX5_checkRoomForPattern 21 = .ok (.athrow, 1) := by decide +kernel
theorem dX5_checkRoomForPattern_22 : decode cX5_checkRoomForPattern 22 = .ok (.return_, 1) := by decide +kernel
set_option maxRecDepth 20000 in
theorem ggX5_addPattern_Jx4a65c_size_8abf5 : GoodIn wsX5_addPattern wsJx4a65c_size_8abf5 := goodIn_r _ [9, 10, 120, 121, 122] (by decide +kernel) (by decide +kernel)
set_option maxRecDepth 20000 in
theorem gX5_addPattern_Jx4a65c_size_8abf5 : GoodIn wsX5_addPattern (wsV RX5 173 RJx4a65c yJx4a65c_size_8abf5 wsJx4a65c_size_8abf5) := goodIn_app (goodIn_of _ (by decide +kernel)) ggX5_addPattern_Jx4a65c_size_8abf5
set_option maxRecDepth 20000 in
theorem ggX5_addPattern_X2_init : GoodIn wsX5_addPattern wsX2_init := goodIn_r _ [13, 14, 15, 16, 17, 18, 19, 20, 21, 22, 23, 24, 25, 26, 27, 28, 29, 30, 31, 32, 33, 34, 35, 36, 37, 38, 39, 40, 41, 42, 43, 44, 45, 46, 47, 48, 49, 50, 51, 106, 107, 108, 109, 110, 111, 112, 113, 114, 123, 124, 125, 126, 127, 128, 129, 130, 131, 132] (by decide +kernel) (by decide +kernel)
set_option maxRecDepth 20000 in
theorem gX5_addPattern_X2_init : GoodIn wsX5_addPattern (wsX2_init) := ggX5_addPattern_X2_init
set_option maxRecDepth 20000 in
theorem ggX5_addPattern_Jx4a65c_add_9ea2d : GoodIn wsX5_addPattern wsJx4a65c_add_9ea2d := goodIn_r _ [55, 56, 57, 58, 10, 59, 60, 61, 8, 62, 63, 64, 65, 66, 67, 68, 69, 70, 71, 72, 73, 74, 75, 76, 77, 78, 79, 80, 81, 82, 83, 84, 85, 86, 87, 88, 89, 90, 91, 92, 93, 94, 95, 96, 97, 98, 99, 100, 101, 102, 103, 104, 105, 120, 121, 122] (by decide +kernel) (by decide +kernel)
set_option maxRecDepth 20000 in
theorem gX5_addPattern_Jx4a65c_add_9ea2d : GoodIn wsX5_addPattern (wsV RX5 136 RJx4a65c yJx4a65c_add_9ea2d wsJx4a65c_add_9ea2d) := goodIn_app (goodIn_of _ (by decide +kernel)) ggX5_addPattern_Jx4a65c_add_9ea2d
theorem dX5_addPattern_0 : decode cX5_addPattern 0 = .ok (.new 45, 3) := by decide +kernel
theorem dX5_addPattern_3 : decode cX5_addPattern 3 = .ok (.dup, 1) := by decide +kernel
theorem dX5_addPattern_4 : decode cX5_addPattern 4 = .ok (.aload_n 0, 1) := by decide +kernel
theorem dX5_addPattern_5 : decode cX5_addPattern 5 = .ok (.getfield 10, 3) := by decide +kernel
theorem dX5_addPattern_8 : decode cX5_addPattern 8 = .ok (.invokevirtual 173, 3) := by decide +kernel
theorem dX5_addPattern_11 : decode cX5_addPattern 11 = .ok (.iload_n 1, 1) := by decide +kernel
theorem dX5_addPattern_12 : decode cX5_addPattern 12 = .ok (.iload_n 2, 1) := by decide +kernel
theorem dX5_addPattern_13 : decode cX5_addPattern 13 = .ok (.iload_n 3, 1) := by decide +kernel
theorem dX5_addPattern_14 : decode cX5_addPattern 14 = .ok (.invokespecial 234, 3) := by decide +kernel
theorem dX5_addPattern_17 : decode cX5_addPattern 17 = .ok (.astore 4, 2) := by decide +kernel
theorem dX5_addPattern_19 : decode cX5_addPattern 19 = .ok (.aload_n 0, 1) := by decide +kernel
theorem dX5_addPattern_20 : decode cX5_addPattern 20 = .ok (.getfield 10, 3) := by decide +kernel
theorem dX5_addPattern_23 : decode cX5_addPattern 23 = .ok (.aload 4, 2) := by decide +kernel
theorem dX5_addPattern_25 : decode cX5_addPattern 25 = .ok (.invokevirtual 136, 3) := by decide +kernel
theorem dX5_addPattern_28 : decode cX5_addPattern 28 = .ok (.pop, 1) := by decide +kernel
theorem dX5_addPattern_29 : decode cX5_addPattern 29 = .ok (.aload 4, 2) := by decide +kernel
theorem dX5_addPattern_31 : decode cX5_addPattern 31 = .ok (.areturn, 1) := by decide +kernel
set_option maxRecDepth 20000 in
theorem ggX5_firstOfSameChart_Jx4a65c_size_8abf5 : GoodIn wsX5_firstOfSameChart wsJx4a65c_size_8abf5 := goodIn_r _ [8, 9, 48, 49, 50] (by decide +kernel) (by decide +kernel)
set_option maxRecDepth 20000 in
theorem gX5_firstOfSameChart_Jx4a65c_size_8abf5 : GoodIn wsX5_firstOfSameChart (wsV RX5 173 RJx4a65c yJx4a65c_size_8abf5 wsJx4a65c_size_8abf5) := goodIn_app (goodIn_of _ (by decide +kernel)) ggX5_firstOfSameChart_Jx4a65c_size_8abf5
set_option maxRecDepth 20000 in
theorem ggX5_firstOfSameChart_Jx4a65c_get_915e3 : GoodIn wsX5_firstOfSameChart wsJx4a65c_get_915e3 := goodIn_r _ [13, 9, 14, 15, 16, 17, 18, 19, 20, 21, 22, 23, 24, 7, 25, 26, 48, 49, 50] (by decide +kernel) (by decide +kernel)
set_option maxRecDepth 20000 in
theorem gX5_firstOfSameChart_Jx4a65c_get_915e3 : GoodIn wsX5_firstOfSameChart (wsV RX5 224 RJx4a65c yJx4a65c_get_915e3 wsJx4a65c_get_915e3) := goodIn_app (goodIn_of _ (by decide +kernel)) ggX5_firstOfSameChart_Jx4a65c_get_915e3
set_option maxRecDepth 20000 in
theorem ggX5_firstOfSameChart_X0_isSameAs : GoodIn wsX5_firstOfSameChart wsX0_isSameAs := goodIn_r _ [31, 32, 33, 51, 52, 53, 54] (by decide +kernel) (by decide +kernel)
set_option maxRecDepth 20000 in
theorem gX5_firstOfSameChart_X0_isSameAs : GoodIn wsX5_firstOfSameChart (wsV RX5 235 RX0 yX0_isSameAs wsX0_isSameAs) := goodIn_app (goodIn_of _ (by decide +kernel)) ggX5_firstOfSameChart_X0_isSameAs
theorem dX5_firstOfSameChart_0 : decode cX5_firstOfSameChart 0 = .ok (.iconst 0, 1) := by decide +kernel
theorem dX5_firstOfSameChart_1 : decode cX5_firstOfSameChart 1 = .ok (.istore_n 2, 1) := by decide +kernel
theorem dX5_firstOfSameChart_2 : decode cX5_firstOfSameChart 2 = .ok (.iload_n 2, 1) := by decide +kernel
theorem dX5_firstOfSameChart_3 : decode cX5_firstOfSameChart 3 = .ok (.aload_n 0, 1) := by decide +kernel
theorem dX5_firstOfSameChart_4 : decode cX5_firstOfSameChart 4 = .ok (.getfield 16, 3) := by decide +kernel
theorem dX5_firstOfSameChart_7 : decode cX5_firstOfSameChart 7 = .ok (.invokevirtual 173, 3) := by decide +kernel
theorem dX5_firstOfSameChart_10 : decode cX5_firstOfSameChart 10 = .ok (.if_icmp .ge 37, 3) := by decide +kernel
theorem dX5_firstOfSameChart_13 : decode cX5_firstOfSameChart 13 = .ok (.aload_n 0, 1) := by decide +kernel
theorem dX5_firstOfSameChart_14 : decode cX5_firstOfSameChart 14 = .ok (.getfield 16, 3) := by decide +kernel
theorem dX5_firstOfSameChart_17 : decode cX5_firstOfSameChart 17 = .ok (.iload_n 2, 1) := by decide +kernel
theorem dX5_firstOfSameChart_18 : decode cX5_firstOfSameChart 18 = .ok (.invokevirtual 224, 3) := by decide +kernel
theorem dX5_firstOfSameChart_21 : decode cX5_firstOfSameChart 21 = .ok (.checkcast 45, 3) := by decide +kernel
theorem dX5_firstOfSameChart_24 : decode cX5_firstOfSameChart 24 = .ok (.astore_n 3, 1) := by decide +kernel
theorem dX5_firstOfSameChart_25 : decode cX5_firstOfSameChart 25 = .ok (.aload_n 3, 1) := by decide +kernel
theorem dX5_firstOfSameChart_26 : decode cX5_firstOfSameChart 26 = .ok (.getfield 78, 3) := by decide +kernel
theorem dX5_firstOfSameChart_29 : decode cX5_firstOfSameChart 29 = .ok (.aload_n 1, 1) := by decide +kernel
theorem dX5_firstOfSameChart_30 : decode cX5_firstOfSameChart 30 = .ok (.getfield 78, 3) := by decide +kernel
theorem dX5_firstOfSameChart_33 : decode cX5_firstOfSameChart 33 = .ok (.invokevirtual 235, 3) := by decide +kernel
theorem dX5_firstOfSameChart_36 : decode cX5_firstOfSameChart 36 = .ok (.ifCond .eq 5, 3) := by decide +kernel
theorem dX5_firstOfSameChart_39 : decode cX5_firstOfSameChart 39 = .ok (.aload_n 3, 1) := by decide +kernel
theorem dX5_firstOfSameChart_40 : decode cX5_firstOfSameChart 40 = .ok (.areturn, 1) := by decide +kernel
theorem dX5_firstOfSameChart_41 : decode cX5_firstOfSameChart 41 = .ok (.iinc 2 1, 3) := by decide +kernel
theorem dX5_firstOfSameChart_44 : decode cX5_firstOfSameChart 44 = .ok (.goto (-42), 3) := by decide +kernel
theorem dX5_firstOfSameChart_47 : decode cX5_firstOfSameChart 47 = .ok (.aload_n 1, 1) := by decide +kernel
theorem dX5_firstOfSameChart_48 : decode cX5_firstOfSameChart 48 = .ok (.areturn, 1) := by decide +kernel
theorem dX5_checkPerson_0 : decode cX5_checkPerson 0 = .ok (.iload_n 0, 1) := by decide +kernel
theorem dX5_checkPerson_1 : decode cX5_checkPerson 1 = .ok (.ifCond .lt 8, 3) := by decide +kernel
theorem dX5_checkPerson_4 : decode cX5_checkPerson 4 = .ok (.iload_n 0, 1) := by decide +kernel
theorem dX5_checkPerson_5 : decode cX5_checkPerson 5 = .ok (.iconst 5, 1) := by decide +kernel
theorem dX5_checkPerson_6 : decode cX5_checkPerson 6 = .ok (.if_icmp .lt 13, 3) := by decide +kernel
theorem dX5_checkPerson_9 : decode cX5_checkPerson 9 = .ok (.new 219, 3) := by decide +kernel
theorem dX5_checkPerson_12 : decode cX5_checkPerson 12 = .ok (.dup, 1) := by decide +kernel
theorem dX5_checkPerson_13 : decode cX5_checkPerson 13 = .ok (.ldc 239, 2) := by decide +kernel
theorem dX5_checkPerson_15 : decode cX5_checkPerson 15 = .ok (.invokespecial 223, 3) := by decide +kernel
theorem dX5_checkPerson_18 : decode cX5_checkPerson 18 = .ok (.athrow, 1) := by decide +kernel
theorem dX5_checkPerson_19 : decode cX5_checkPerson 19 = .ok (.return_, 1) := by decide +kernel
theorem dX5_checkPlace_0 : decode cX5_checkPlace 0 = .ok (.iload_n 1, 1) := by decide +kernel
theorem dX5_checkPlace_1 : decode cX5_checkPlace 1 = .ok (.ifCond .lt 18, 3) := by decide +kernel
theorem dX5_checkPlace_4 : decode cX5_checkPlace 4 = .ok (.iload_n 1, 1) := by decide +kernel
theorem dX5_checkPlace_5 : decode cX5_checkPlace 5 = .ok (.aload_n 0, 1) := by decide +kernel
theorem dX5_checkPlace_6 : decode cX5_checkPlace 6 = .ok (.getfield 78, 3) := by decide +kernel
theorem dX5_checkPlace_9 : decode cX5_checkPlace 9 = .ok (.getfield 82, 3) := by decide +kernel
theorem dX5_checkPlace_12 : decode cX5_checkPlace 12 = .ok (.if_icmp .ge 7, 3) := by decide +kernel
theorem dX5_checkPlace_15 : decode cX5_checkPlace 15 = .ok (.iload_n 2, 1) := by decide +kernel
theorem dX5_checkPlace_16 : decode cX5_checkPlace 16 = .ok (.ifCond .ge 13, 3) := by decide +kernel
theorem dX5_checkPlace_19 : decode cX5_checkPlace 19 = .ok (.new 219, 3) := by decide +kernel
theorem dX5_checkPlace_22 : decode cX5_checkPlace 22 = .ok (.dup, 1) := by decide +kernel
theorem dX5_checkPlace_23 : decode cX5_checkPlace 23 = .ok (.ldc 241, 2) := by decide +kernel
theorem dX5_checkPlace_25 : decode cX5_checkPlace 25 = .ok (.invokespecial 223, 3) := by decide +kernel
theorem dX5_checkPlace_28 : decode cX5_checkPlace 28 = .ok (.athrow, 1) := by decide +kernel
theorem dX5_checkPlace_29 : decode cX5_checkPlace 29 = .ok (.return_, 1) := by decide +kernel
set_option maxRecDepth 20000 in
theorem ggX5_checkGauge_X5_checkRange : GoodIn wsX5_checkGauge wsX5_checkRange := goodIn_ca (goodIn_r _ [4, 5, 6] (by decide +kernel) (by decide +kernel)) (goodIn_sub (fun _ h => List.mem_cons_of_mem _ (List.mem_append_right _ h)) (by decide +kernel))
set_option maxRecDepth 20000 in
theorem gX5_checkGauge_X5_checkRange : GoodIn wsX5_checkGauge (va_wsS RX5 33 yX5_checkRange wsX5_checkRange) := goodIn_app (goodIn_of _ (by decide +kernel)) ggX5_checkGauge_X5_checkRange
theorem dX5_checkGauge_0 : decode cX5_checkGauge 0 = .ok (.iload_n 0, 1) := by decide +kernel
theorem dX5_checkGauge_1 : decode cX5_checkGauge 1 = .ok (.iconst 5, 1) := by decide +kernel
theorem dX5_checkGauge_2 : decode cX5_checkGauge 2 = .ok (.bipush 20, 2) := by decide +kernel
theorem dX5_checkGauge_4 : decode cX5_checkGauge 4 = .ok (.invokestatic 33, 3) := by decide +kernel
theorem dX5_checkGauge_7 : decode cX5_checkGauge 7 = .ok (.return_, 1) := by decide +kernel
theorem dX5_checkRange_0 : decode cX5_checkRange 0 = .ok (.iload_n 0, 1) := by decide +kernel
theorem dX5_checkRange_1 : decode cX5_checkRange 1 = .ok (.iload_n 1, 1) := by decide +kernel
theorem dX5_checkRange_2 : decode cX5_checkRange 2 = .ok (.if_icmp .lt 8, 3) := by decide +kernel
theorem dX5_checkRange_5 : decode cX5_checkRange 5 = .ok (.iload_n 0, 1) := by decide +kernel
theorem dX5_checkRange_6 : decode cX5_checkRange 6 = .ok (.iload_n 2, 1) := by decide +kernel
theorem dX5_checkRange_7 : decode cX5_checkRange 7 = .ok (.if_icmp .le 13, 3) := by decide +kernel
theorem dX5_checkRange_10 : decode cX5_checkRange 10 = .ok (.new 54, 3) := by decide +kernel
theorem dX5_checkRange_13 : decode cX5_checkRange 13 = .ok (.dup, 1) := by decide +kernel
theorem dX5_checkRange_14 : decode cX5_checkRange 14 = .ok (.ldc 243, 2) := by decide +kernel
theorem dX5_checkRange_16 : decode cX5_checkRange 16 = .ok (.invokespecial 58, 3) := by decide +kernel
theorem dX5_checkRange_19 : decode cX5_checkRange 19 = .ok (.athrow, 1) := by decide +kernel
theorem dX5_checkRange_20 : decode cX5_checkRange 20 = .ok (.return_, 1) := by decide +kernel
theorem dX5_within_0 : decode cX5_within 0 = .ok (.iload_n 0, 1) := by decide +kernel
theorem dX5_within_1 : decode cX5_within 1 = .ok (.iload_n 1, 1) := by decide +kernel
theorem dX5_within_2 : decode cX5_within 2 = .ok (.invokestatic 245, 3) := by decide +kernel
theorem dX5_within_5 : decode cX5_within 5 = .ok (.iload_n 2, 1) := by decide +kernel
theorem dX5_within_6 : decode cX5_within 6 = .ok (.invokestatic 250, 3) := by decide +kernel
theorem dX5_within_9 : decode cX5_within 9 = .ok (.ireturn, 1) := by decide +kernel
theorem dX5_forGauge_0 : decode cX5_forGauge 0 = .ok (.iload_n 0, 1) := by decide +kernel
theorem dX5_forGauge_1 : decode cX5_forGauge 1 = .ok (.iload_n 1, 1) := by decide +kernel
theorem dX5_forGauge_2 : decode cX5_forGauge 2 = .ok (.imul, 1) := by decide +kernel
theorem dX5_forGauge_3 : decode cX5_forGauge 3 = .ok (.bipush 10, 2) := by decide +kernel
theorem dX5_forGauge_5 : decode cX5_forGauge 5 = .ok (.idiv, 1) := by decide +kernel
theorem dX5_forGauge_6 : decode cX5_forGauge 6 = .ok (.ireturn, 1) := by decide +kernel
set_option maxRecDepth 20000 in
theorem ggX5_widthAfter_X5_within : GoodIn wsX5_widthAfter wsX5_within := goodIn_r _ [4, 5, 6, 7, 8, 9, 10, 11] (by decide +kernel) (by decide +kernel)
set_option maxRecDepth 20000 in
theorem gX5_widthAfter_X5_within : GoodIn wsX5_widthAfter (va_wsS RX5 112 yX5_within wsX5_within) := goodIn_app (goodIn_of _ (by decide +kernel)) ggX5_widthAfter_X5_within
theorem dX5_widthAfter_0 : decode cX5_widthAfter 0 = .ok (.iload_n 0, 1) := by decide +kernel
theorem dX5_widthAfter_1 : decode cX5_widthAfter 1 = .ok (.iload_n 1, 1) := by decide +kernel
theorem dX5_widthAfter_2 : decode cX5_widthAfter 2 = .ok (.iadd, 1) := by decide +kernel
theorem dX5_widthAfter_3 : decode cX5_widthAfter 3 = .ok (.iconst 1, 1) := by decide +kernel
theorem dX5_widthAfter_4 : decode cX5_widthAfter 4 = .ok (.bipush 40, 2) := by decide +kernel
theorem dX5_widthAfter_6 : decode cX5_widthAfter 6 = .ok (.invokestatic 112, 3) := by decide +kernel
theorem dX5_widthAfter_9 : decode cX5_widthAfter 9 = .ok (.ireturn, 1) := by decide +kernel
theorem dX6_init_0 : decode cX6_init 0 = .ok (.aload_n 0, 1) := by decide +kernel
theorem dX6_init_1 : decode cX6_init 1 = .ok (.invokespecial 1, 3) := by decide +kernel
theorem dX6_init_4 : decode cX6_init 4 = .ok (.aload_n 0, 1) := by decide +kernel
theorem dX6_init_5 : decode cX6_init 5 = .ok (.bipush 16, 2) := by decide +kernel
theorem dX6_init_7 : decode cX6_init 7 = .ok (.newarray .int, 2) := by decide +kernel
theorem dX6_init_9 : decode cX6_init 9 = .ok (.putfield 7, 3) := by decide +kernel
theorem dX6_init_12 : decode cX6_init 12 = .ok (.aload_n 0, 1) := by decide +kernel
theorem dX6_init_13 : decode cX6_init 13 = .ok (.bipush 16, 2) := by decide +kernel
theorem dX6_init_15 : decode cX6_init 15 = .ok (.newarray .int, 2) := by decide +kernel
theorem dX6_init_17 : decode cX6_init 17 = .ok (.putfield 13, 3) := by decide +kernel
theorem dX6_init_20 : decode cX6_init 20 = .ok (.aload_n 0, 1) := by decide +kernel
theorem dX6_init_21 : decode cX6_init 21 = .ok (.bipush 16, 2) := by decide +kernel
theorem dX6_init_23 : decode cX6_init 23 = .ok (.newarray .int, 2) := by decide +kernel
theorem dX6_init_25 : decode cX6_init 25 = .ok (.putfield 16, 3) := by decide +kernel
theorem dX6_init_28 : decode cX6_init 28 = .ok (.aload_n 0, 1) := by decide +kernel
theorem dX6_init_29 : decode cX6_init 29 = .ok (.bipush 16, 2) := by decide +kernel
theorem dX6_init_31 : decode cX6_init 31 = .ok (.newarray .int, 2) := by decide +kernel
theorem dX6_init_33 : decode cX6_init 33 = .ok (.putfield 19, 3) := by decide +kernel
theorem dX6_init_36 : decode cX6_init 36 = .ok (.aload_n 0, 1) := by decide +kernel
theorem dX6_init_37 : decode cX6_init 37 = .ok (.bipush 96, 2) := by decide +kernel
theorem dX6_init_39 : decode cX6_init 39 = .ok (.newarray .int, 2) := by decide +kernel
theorem dX6_init_41 : decode cX6_init 41 = .ok (.putfield 22, 3) := by decide +kernel
theorem dX6_init_44 : decode cX6_init 44 = .ok (.aload_n 0, 1) := by decide +kernel
theorem dX6_init_45 : decode cX6_init 45 = .ok (.bipush 96, 2) := by decide +kernel
theorem dX6_init_47 : decode cX6_init 47 = .ok (.newarray .int, 2) := by decide +kernel
theorem dX6_init_49 : decode cX6_init 49 = .ok (.putfield 25, 3) := by decide +kernel
theorem dX6_init_52 : decode cX6_init 52 = .ok (.aload_n 0, 1) := by decide +kernel
theorem dX6_init_53 : decode cX6_init 53 = .ok (.bipush 96, 2) := by decide +kernel
theorem dX6_init_55 : decode cX6_init 55 = .ok (.newarray .int, 2) := by decide +kernel
theorem dX6_init_57 : decode cX6_init 57 = .ok (.putfield 28, 3) := by decide +kernel
theorem dX6_init_60 : decode cX6_init 60 = .ok (.aload_n 0, 1) := by decide +kernel
theorem dX6_init_61 : decode cX6_init 61 = .ok (.bipush 96, 2) := by decide +kernel
theorem dX6_init_63 : decode cX6_init 63 = .ok (.newarray .int, 2) := by decide +kernel
theorem dX6_init_65 : decode cX6_init 65 = .ok (.putfield 31, 3) := by decide +kernel
theorem dX6_init_68 : decode cX6_init 68 = .ok (.aload_n 0, 1) := by decide +kernel
theorem dX6_init_69 : decode cX6_init 69 = .ok (.bipush 16, 2) := by decide +kernel
theorem dX6_init_71 : decode cX6_init 71 = .ok (.newarray .int, 2) := by decide +kernel
theorem dX6_init_73 : decode cX6_init 73 = .ok (.putfield 34, 3) := by decide +kernel
theorem dX6_init_76 : decode cX6_init 76 = .ok (.aload_n 0, 1) := by decide +kernel
theorem dX6_init_77 : decode cX6_init 77 = .ok (.bipush 16, 2) := by decide +kernel
theorem dX6_init_79 : decode cX6_init 79 = .ok (.newarray .boolean, 2) := by decide +kernel
theorem dX6_init_81 : decode cX6_init 81 = .ok (.putfield 37, 3) := by decide +kernel
theorem dX6_init_84 : decode cX6_init 84 = .ok (.aload_n 0, 1) := by decide +kernel
theorem dX6_init_85 : decode cX6_init 85 = .ok (.bipush 16, 2) := by decide +kernel
theorem dX6_init_87 : decode cX6_init 87 = .ok (.newarray .int, 2) := by decide +kernel
theorem dX6_init_89 : decode cX6_init 89 = .ok (.putfield 41, 3) := by decide +kernel
theorem dX6_init_92 : decode cX6_init 92 = .ok (.aload_n 0, 1) := by decide +kernel
theorem dX6_init_93 : decode cX6_init 93 = .ok (.iconst 5, 1) := by decide +kernel
theorem dX6_init_94 : decode cX6_init 94 = .ok (.newarray .int, 2) := by decide +kernel
theorem dX6_init_96 : decode cX6_init 96 = .ok (.putfield 44, 3) := by decide +kernel
theorem dX6_init_99 : decode cX6_init 99 = .ok (.aload_n 0, 1) := by decide +kernel
theorem dX6_init_100 : decode cX6_init 100 = .ok (.bipush 20, 2) := by decide +kernel
theorem dX6_init_102 : decode cX6_init 102 = .ok (.newarray .int, 2) := by decide +kernel
theorem dX6_init_104 : decode cX6_init 104 = .ok (.putfield 47, 3) := by decide +kernel
theorem dX6_init_107 : decode cX6_init 107 = .ok (.aload_n 0, 1) := by decide +kernel
theorem dX6_init_108 : decode cX6_init 108 = .ok (.bipush 20, 2) := by decide +kernel
theorem dX6_init_110 : decode cX6_init 110 = .ok (.newarray .int, 2) := by decide +kernel
theorem dX6_init_112 : decode cX6_init 112 = .ok (.putfield 50, 3) := by decide +kernel
theorem dX6_init_115 : decode cX6_init 115 = .ok (.aload_n 0, 1) := by decide +kernel
theorem dX6_init_116 : decode cX6_init 116 = .ok (.bipush 20, 2) := by decide +kernel
theorem dX6_init_118 : decode cX6_init 118 = .ok (.newarray .int, 2) := by decide +kernel
theorem dX6_init_120 : decode cX6_init 120 = .ok (.putfield 53, 3) := by decide +kernel
theorem dX6_init_123 : decode cX6_init 123 = .ok (.aload_n 0, 1) := by decide +kernel
theorem dX6_init_124 : decode cX6_init 124 = .ok (.bipush 12, 2) := by decide +kernel
theorem dX6_init_126 : decode cX6_init 126 = .ok (.newarray .int, 2) := by decide +kernel
theorem dX6_init_128 : decode cX6_init 128 = .ok (.putfield 56, 3) := by decide +kernel
theorem dX6_init_131 : decode cX6_init 131 = .ok (.aload_n 0, 1) := by decide +kernel
theorem dX6_init_132 : decode cX6_init 132 = .ok (.bipush 12, 2) := by decide +kernel
theorem dX6_init_134 : decode cX6_init 134 = .ok (.newarray .int, 2) := by decide +kernel
theorem dX6_init_136 : decode cX6_init 136 = .ok (.putfield 59, 3) := by decide +kernel
theorem dX6_init_139 : decode cX6_init 139 = .ok (.aload_n 0, 1) := by decide +kernel
theorem dX6_init_140 : decode cX6_init 140 = .ok (.bipush 12, 2) := by decide +kernel
theorem dX6_init_142 : decode cX6_init 142 = .ok (.newarray .int, 2) := by decide +kernel
theorem dX6_init_144 : decode cX6_init 144 = .ok (.putfield 62, 3) := by decide +kernel
theorem dX6_init_147 : decode cX6_init 147 = .ok (.aload_n 0, 1) := by decide +kernel
theorem dX6_init_148 : decode cX6_init 148 = .ok (.bipush 12, 2) := by decide +kernel
theorem dX6_init_150 : decode cX6_init 150 = .ok (.newarray .int, 2) := by decide +kernel
theorem dX6_init_152 : decode cX6_init 152 = .ok (.putfield 65, 3) := by decide +kernel
theorem dX6_init_155 : decode cX6_init 155 = .ok (.return_, 1) := by decide +kernel
theorem dX6_thrown_0 : decode cX6_thrown 0 = .ok (.aload_n 0, 1) := by decide +kernel
theorem dX6_thrown_1 : decode cX6_thrown 1 = .ok (.getfield 68, 3) := by decide +kernel
theorem dX6_thrown_4 : decode cX6_thrown 4 = .ok (.ireturn, 1) := by decide +kernel
theorem dX6_refused_0 : decode cX6_refused 0 = .ok (.aload_n 0, 1) := by decide +kernel
theorem dX6_refused_1 : decode cX6_refused 1 = .ok (.iload_n 1, 1) := by decide +kernel
theorem dX6_refused_2 : decode cX6_refused 2 = .ok (.putfield 68, 3) := by decide +kernel
theorem dX6_refused_5 : decode cX6_refused 5 = .ok (.iload_n 1, 1) := by decide +kernel
theorem dX6_refused_6 : decode cX6_refused 6 = .ok (.ifCond .eq 7, 3) := by decide +kernel
theorem dX6_refused_9 : decode cX6_refused 9 = .ok (.iconst 1, 1) := by decide +kernel
theorem dX6_refused_10 : decode cX6_refused 10 = .ok (.goto 4, 3) := by decide +kernel
theorem dX6_refused_13 : decode cX6_refused 13 = .ok (.iconst 0, 1) := by decide +kernel
theorem dX6_refused_14 : decode cX6_refused 14 = .ok (.ireturn, 1) := by decide +kernel
theorem dX6_in_0 : decode cX6_in 0 = .ok (.iload_n 0, 1) := by decide +kernel
theorem dX6_in_1 : decode cX6_in 1 = .ok (.iload_n 1, 1) := by decide +kernel
theorem dX6_in_2 : decode cX6_in 2 = .ok (.if_icmp .lt 12, 3) := by decide +kernel
theorem dX6_in_5 : decode cX6_in 5 = .ok (.iload_n 0, 1) := by decide +kernel
theorem dX6_in_6 : decode cX6_in 6 = .ok (.iload_n 2, 1) := by decide +kernel
theorem dX6_in_7 : decode cX6_in 7 = .ok (.if_icmp .gt 7, 3) := by decide +kernel
theorem dX6_in_10 : decode cX6_in 10 = .ok (.iconst 1, 1) := by decide +kernel
theorem dX6_in_11 : decode cX6_in 11 = .ok (.goto 4, 3) := by decide +kernel
theorem dX6_in_14 : decode cX6_in 14 = .ok (.iconst 0, 1) := by decide +kernel
theorem dX6_in_15 : decode cX6_in 15 = .ok (.ireturn, 1) := by decide +kernel
set_option maxRecDepth 20000 in
theorem ggX6_isPerson_X6_in : GoodIn wsX6_isPerson wsX6_in := goodIn_r _ [4] (by decide +kernel) (by decide +kernel)
set_option maxRecDepth 20000 in
theorem gX6_isPerson_X6_in : GoodIn wsX6_isPerson (va_wsS RX6 72 yX6_in wsX6_in) := goodIn_app (goodIn_of _ (by decide +kernel)) ggX6_isPerson_X6_in
theorem dX6_isPerson_0 : decode cX6_isPerson 0 = .ok (.iload_n 0, 1) := by decide +kernel
theorem dX6_isPerson_1 : decode cX6_isPerson 1 = .ok (.iconst 0, 1) := by decide +kernel
theorem dX6_isPerson_2 : decode cX6_isPerson 2 = .ok (.iconst 4, 1) := by decide +kernel
theorem dX6_isPerson_3 : decode cX6_isPerson 3 = .ok (.invokestatic 72, 3) := by decide +kernel
theorem dX6_isPerson_6 : decode cX6_isPerson 6 = .ok (.ireturn, 1) := by decide +kernel
set_option maxRecDepth 20000 in
theorem ggX6_isPattern_X6_in : GoodIn wsX6_isPattern wsX6_in := goodIn_r _ [5] (by decide +kernel) (by decide +kernel)
set_option maxRecDepth 20000 in
theorem gX6_isPattern_X6_in : GoodIn wsX6_isPattern (va_wsS RX6 72 yX6_in wsX6_in) := goodIn_app (goodIn_of _ (by decide +kernel)) ggX6_isPattern_X6_in
theorem dX6_isPattern_0 : decode cX6_isPattern 0 = .ok (.iload_n 1, 1) := by decide +kernel
theorem dX6_isPattern_1 : decode cX6_isPattern 1 = .ok (.iconst 0, 1) := by decide +kernel
theorem dX6_isPattern_2 : decode cX6_isPattern 2 = .ok (.aload_n 0, 1) := by decide +kernel
theorem dX6_isPattern_3 : decode cX6_isPattern 3 = .ok (.getfield 76, 3) := by decide +kernel
theorem dX6_isPattern_6 : decode cX6_isPattern 6 = .ok (.iconst 1, 1) := by decide +kernel
theorem dX6_isPattern_7 : decode cX6_isPattern 7 = .ok (.isub, 1) := by decide +kernel
theorem dX6_isPattern_8 : decode cX6_isPattern 8 = .ok (.invokestatic 72, 3) := by decide +kernel
theorem dX6_isPattern_11 : decode cX6_isPattern 11 = .ok (.ireturn, 1) := by decide +kernel
set_option maxRecDepth 20000 in
theorem ggX6_isLot_X6_in : GoodIn wsX6_isLot wsX6_in := goodIn_r _ [5] (by decide +kernel) (by decide +kernel)
set_option maxRecDepth 20000 in
theorem gX6_isLot_X6_in : GoodIn wsX6_isLot (va_wsS RX6 72 yX6_in wsX6_in) := goodIn_app (goodIn_of _ (by decide +kernel)) ggX6_isLot_X6_in
theorem dX6_isLot_0 : decode cX6_isLot 0 = .ok (.iload_n 1, 1) := by decide +kernel
theorem dX6_isLot_1 : decode cX6_isLot 1 = .ok (.iconst 0, 1) := by decide +kernel
theorem dX6_isLot_2 : decode cX6_isLot 2 = .ok (.aload_n 0, 1) := by decide +kernel
theorem dX6_isLot_3 : decode cX6_isLot 3 = .ok (.getfield 79, 3) := by decide +kernel
theorem dX6_isLot_6 : decode cX6_isLot 6 = .ok (.iconst 1, 1) := by decide +kernel
theorem dX6_isLot_7 : decode cX6_isLot 7 = .ok (.isub, 1) := by decide +kernel
theorem dX6_isLot_8 : decode cX6_isLot 8 = .ok (.invokestatic 72, 3) := by decide +kernel
theorem dX6_isLot_11 : decode cX6_isLot 11 = .ok (.ireturn, 1) := by decide +kernel
set_option maxRecDepth 20000 in
theorem ggX6_isProject_X6_in : GoodIn wsX6_isProject wsX6_in := goodIn_r _ [5] (by decide +kernel) (by decide +kernel)
set_option maxRecDepth 20000 in
theorem gX6_isProject_X6_in : GoodIn wsX6_isProject (va_wsS RX6 72 yX6_in wsX6_in) := goodIn_app (goodIn_of _ (by decide +kernel)) ggX6_isProject_X6_in
theorem dX6_isProject_0 : decode cX6_isProject 0 = .ok (.iload_n 1, 1) := by decide +kernel
theorem dX6_isProject_1 : decode cX6_isProject 1 = .ok (.iconst 0, 1) := by decide +kernel
theorem dX6_isProject_2 : decode cX6_isProject 2 = .ok (.aload_n 0, 1) := by decide +kernel
theorem dX6_isProject_3 : decode cX6_isProject 3 = .ok (.getfield 82, 3) := by decide +kernel
theorem dX6_isProject_6 : decode cX6_isProject 6 = .ok (.iconst 1, 1) := by decide +kernel
theorem dX6_isProject_7 : decode cX6_isProject 7 = .ok (.isub, 1) := by decide +kernel
theorem dX6_isProject_8 : decode cX6_isProject 8 = .ok (.invokestatic 72, 3) := by decide +kernel
theorem dX6_isProject_11 : decode cX6_isProject 11 = .ok (.ireturn, 1) := by decide +kernel
theorem dX6_added_0 : decode cX6_added 0 = .ok (.aload_n 0, 1) := by decide +kernel
theorem dX6_added_1 : decode cX6_added 1 = .ok (.getfield 7, 3) := by decide +kernel
theorem dX6_added_4 : decode cX6_added 4 = .ok (.aload_n 0, 1) := by decide +kernel
theorem dX6_added_5 : decode cX6_added 5 = .ok (.getfield 76, 3) := by decide +kernel
theorem dX6_added_8 : decode cX6_added 8 = .ok (.iload_n 1, 1) := by decide +kernel
theorem dX6_added_9 : decode cX6_added 9 = .ok (.iastore, 1) := by decide +kernel
theorem dX6_added_10 : decode cX6_added 10 = .ok (.aload_n 0, 1) := by decide +kernel
theorem dX6_added_11 : decode cX6_added 11 = .ok (.getfield 13, 3) := by decide +kernel
theorem dX6_added_14 : decode cX6_added 14 = .ok (.aload_n 0, 1) := by decide +kernel
theorem dX6_added_15 : decode cX6_added 15 = .ok (.getfield 76, 3) := by decide +kernel
theorem dX6_added_18 : decode cX6_added 18 = .ok (.iload_n 2, 1) := by decide +kernel
theorem dX6_added_19 : decode cX6_added 19 = .ok (.iastore, 1) := by decide +kernel
theorem dX6_added_20 : decode cX6_added 20 = .ok (.aload_n 0, 1) := by decide +kernel
theorem dX6_added_21 : decode cX6_added 21 = .ok (.getfield 16, 3) := by decide +kernel
theorem dX6_added_24 : decode cX6_added 24 = .ok (.aload_n 0, 1) := by decide +kernel
theorem dX6_added_25 : decode cX6_added 25 = .ok (.getfield 76, 3) := by decide +kernel
theorem dX6_added_28 : decode cX6_added 28 = .ok (.iload_n 3, 1) := by decide +kernel
theorem dX6_added_29 : decode cX6_added 29 = .ok (.iastore, 1) := by decide +kernel
theorem dX6_added_30 : decode cX6_added 30 = .ok (.aload_n 0, 1) := by decide +kernel
theorem dX6_added_31 : decode cX6_added 31 = .ok (.getfield 34, 3) := by decide +kernel
theorem dX6_added_34 : decode cX6_added 34 = .ok (.aload_n 0, 1) := by decide +kernel
theorem dX6_added_35 : decode cX6_added 35 = .ok (.getfield 76, 3) := by decide +kernel
theorem dX6_added_38 : decode cX6_added 38 = .ok (.bipush 99, 2) := by decide +kernel
theorem dX6_added_40 : decode cX6_added 40 = .ok (.iastore, 1) := by decide +kernel
theorem dX6_added_41 : decode cX6_added 41 = .ok (.aload_n 0, 1) := by decide +kernel
theorem dX6_added_42 : decode cX6_added 42 = .ok (.dup, 1) := by decide +kernel
theorem dX6_added_43 : decode cX6_added 43 = .ok (.getfield 76, 3) := by decide +kernel
theorem dX6_added_46 : decode cX6_added 46 = .ok (.iconst 1, 1) := by decide +kernel
theorem dX6_added_47 : decode cX6_added 47 = .ok (.iadd, 1) := by decide +kernel
theorem dX6_added_48 : decode cX6_added 48 = .ok (.putfield 76, 3) := by decide +kernel
theorem dX6_added_51 : decode cX6_added 51 = .ok (.aload_n 0, 1) := by decide +kernel
theorem dX6_added_52 : decode cX6_added 52 = .ok (.getfield 76, 3) := by decide +kernel
theorem dX6_added_55 : decode cX6_added 55 = .ok (.iconst 1, 1) := by decide +kernel
theorem dX6_added_56 : decode cX6_added 56 = .ok (.isub, 1) := by decide +kernel
theorem dX6_added_57 : decode cX6_added 57 = .ok (.ireturn, 1) := by decide +kernel
set_option maxRecDepth 20000 in
theorem ggX6_begin_X6_in : GoodIn wsX6_begin wsX6_in := goodIn_r _ [5] (by decide +kernel) (by decide +kernel)
set_option maxRecDepth 20000 in
theorem gX6_begin_X6_in : GoodIn wsX6_begin (va_wsS RX6 72 yX6_in wsX6_in) := goodIn_app (goodIn_of _ (by decide +kernel)) ggX6_begin_X6_in
set_option maxRecDepth 20000 in
theorem ggX6_begin_X6_isPerson : GoodIn wsX6_begin wsX6_isPerson := goodIn_r _ [8, 2, 3, 4, 5] (by decide +kernel) (by decide +kernel)
set_option maxRecDepth 20000 in
theorem gX6_begin_X6_isPerson : GoodIn wsX6_begin (va_wsS RX6 85 yX6_isPerson wsX6_isPerson) := goodIn_app (goodIn_of _ (by decide +kernel)) ggX6_begin_X6_isPerson
set_option maxRecDepth 20000 in
theorem ggX6_begin_X6_refused : GoodIn wsX6_begin wsX6_refused := goodIn_r _ [12, 13, 22, 23, 24, 25, 26, 27, 28, 29, 30, 31, 32, 33, 34, 35, 36, 37, 38, 39, 40, 41, 42, 43, 44, 45, 46, 47] (by decide +kernel) (by decide +kernel)
set_option maxRecDepth 20000 in
theorem gX6_begin_X6_refused : GoodIn wsX6_begin (wsV RX6 89 RX6 yX6_refused wsX6_refused) := goodIn_app (goodIn_of _ (by decide +kernel)) ggX6_begin_X6_refused
set_option maxRecDepth 20000 in
theorem ggX6_begin_X6_added : GoodIn wsX6_begin wsX6_added := goodIn_r _ [17, 18, 1, 19, 20, 21, 22, 23, 24, 25, 26, 27, 28, 29, 30, 31, 32, 33, 34, 35, 36, 37, 38, 39, 40, 41, 42, 43, 44, 45, 46, 47] (by decide +kernel) (by decide +kernel)
set_option maxRecDepth 20000 in
theorem gX6_begin_X6_added : GoodIn wsX6_begin (wsV RX6 92 RX6 yX6_added wsX6_added) := goodIn_app (goodIn_of _ (by decide +kernel)) ggX6_begin_X6_added
theorem dX6_begin_0 : decode cX6_begin 0 = .ok (.iload_n 2, 1) := by decide +kernel
theorem dX6_begin_1 : decode cX6_begin 1 = .ok (.iconst 1, 1) := by decide +kernel
theorem dX6_begin_2 : decode cX6_begin 2 = .ok (.bipush 20, 2) := by decide +kernel
theorem dX6_begin_4 : decode cX6_begin 4 = .ok (.invokestatic 72, 3) := by decide +kernel
theorem dX6_begin_7 : decode cX6_begin 7 = .ok (.ifCond .eq 18, 3) := by decide +kernel
theorem dX6_begin_10 : decode cX6_begin 10 = .ok (.iload_n 3, 1) := by decide +kernel
theorem dX6_begin_11 : decode cX6_begin 11 = .ok (.iconst 0, 1) := by decide +kernel
theorem dX6_begin_12 : decode cX6_begin 12 = .ok (.sipush 1000, 3) := by decide +kernel
theorem dX6_begin_15 : decode cX6_begin 15 = .ok (.invokestatic 72, 3) := by decide +kernel
theorem dX6_begin_18 : decode cX6_begin 18 = .ok (.ifCond .eq 7, 3) := by decide +kernel
theorem dX6_begin_21 : decode cX6_begin 21 = .ok (.iconst 1, 1) := by decide +kernel
theorem dX6_begin_22 : decode cX6_begin 22 = .ok (.goto 4, 3) := by decide +kernel
theorem dX6_begin_25 : decode cX6_begin 25 = .ok (.iconst 0, 1) := by decide +kernel
theorem dX6_begin_26 : decode cX6_begin 26 = .ok (.istore 4, 2) := by decide +kernel
theorem dX6_begin_28 : decode cX6_begin 28 = .ok (.aload_n 0, 1) := by decide +kernel
theorem dX6_begin_29 : decode cX6_begin 29 = .ok (.iload_n 1, 1) := by decide +kernel
theorem dX6_begin_30 : decode cX6_begin 30 = .ok (.invokestatic 85, 3) := by decide +kernel
theorem dX6_begin_33 : decode cX6_begin 33 = .ok (.ifCond .ne 7, 3) := by decide +kernel
theorem dX6_begin_36 : decode cX6_begin 36 = .ok (.iconst 1, 1) := by decide +kernel
theorem dX6_begin_37 : decode cX6_begin 37 = .ok (.goto 26, 3) := by decide +kernel
theorem dX6_begin_40 : decode cX6_begin 40 = .ok (.iload 4, 2) := by decide +kernel
theorem dX6_begin_42 : decode cX6_begin 42 = .ok (.ifCond .ne 7, 3) := by decide +kernel
theorem dX6_begin_45 : decode cX6_begin 45 = .ok (.iconst 2, 1) := by decide +kernel
theorem dX6_begin_46 : decode cX6_begin 46 = .ok (.goto 17, 3) := by decide +kernel
theorem dX6_begin_49 : decode cX6_begin 49 = .ok (.aload_n 0, 1) := by decide +kernel
theorem dX6_begin_50 : decode cX6_begin 50 = .ok (.getfield 76, 3) := by decide +kernel
theorem dX6_begin_53 : decode cX6_begin 53 = .ok (.bipush 16, 2) := by decide +kernel
theorem dX6_begin_55 : decode cX6_begin 55 = .ok (.if_icmp .ne 7, 3) := by decide +kernel
theorem dX6_begin_58 : decode cX6_begin 58 = .ok (.iconst 3, 1) := by decide +kernel
theorem dX6_begin_59 : decode cX6_begin 59 = .ok (.goto 4, 3) := by decide +kernel
theorem dX6_begin_62 : decode cX6_begin 62 = .ok (.iconst 0, 1) := by decide +kernel
theorem dX6_begin_63 : decode cX6_begin 63 = .ok (.invokevirtual 89, 3) := by decide +kernel
theorem dX6_begin_66 : decode cX6_begin 66 = .ok (.ifCond .eq 5, 3) := by decide +kernel
theorem dX6_begin_69 : decode cX6_begin 69 = .ok (.iconst 0, 1) := by decide +kernel
theorem dX6_begin_70 : decode cX6_begin 70 = .ok (.ireturn, 1) := by decide +kernel
theorem dX6_begin_71 : decode cX6_begin 71 = .ok (.aload_n 0, 1) := by decide +kernel
theorem dX6_begin_72 : decode cX6_begin 72 = .ok (.iload_n 1, 1) := by decide +kernel
theorem dX6_begin_73 : decode cX6_begin 73 = .ok (.iload_n 2, 1) := by decide +kernel
theorem dX6_begin_74 : decode cX6_begin 74 = .ok (.iload_n 3, 1) := by decide +kernel
theorem dX6_begin_75 : decode cX6_begin 75 = .ok (.invokevirtual 92, 3) := by decide +kernel
theorem dX6_begin_78 : decode cX6_begin 78 = .ok (.ireturn, 1) := by decide +kernel
theorem dX6_rowsOf_0 : decode cX6_rowsOf 0 = .ok (.iconst 0, 1) := by decide +kernel
theorem dX6_rowsOf_1 : decode cX6_rowsOf 1 = .ok (.istore_n 2, 1) := by decide +kernel
theorem dX6_rowsOf_2 : decode cX6_rowsOf 2 = .ok (.iconst 0, 1) := by decide +kernel
theorem dX6_rowsOf_3 : decode cX6_rowsOf 3 = .ok (.istore_n 3, 1) := by decide +kernel
theorem dX6_rowsOf_4 : decode cX6_rowsOf 4 = .ok (.iload_n 3, 1) := by decide +kernel
theorem dX6_rowsOf_5 : decode cX6_rowsOf 5 = .ok (.aload_n 0, 1) := by decide +kernel
theorem dX6_rowsOf_6 : decode cX6_rowsOf 6 = .ok (.getfield 19, 3) := by decide +kernel
theorem dX6_rowsOf_9 : decode cX6_rowsOf 9 = .ok (.iload_n 1, 1) := by decide +kernel
theorem dX6_rowsOf_10 : decode cX6_rowsOf 10 = .ok (.iaload, 1) := by decide +kernel
theorem dX6_rowsOf_11 : decode cX6_rowsOf 11 = .ok (.if_icmp .ge 23, 3) := by decide +kernel
theorem dX6_rowsOf_14 : decode cX6_rowsOf 14 = .ok (.iload_n 2, 1) := by decide +kernel
theorem dX6_rowsOf_15 : decode cX6_rowsOf 15 = .ok (.aload_n 0, 1) := by decide +kernel
theorem dX6_rowsOf_16 : decode cX6_rowsOf 16 = .ok (.getfield 31, 3) := by decide +kernel
theorem dX6_rowsOf_19 : decode cX6_rowsOf 19 = .ok (.bipush 6, 2) := by decide +kernel
theorem dX6_rowsOf_21 : decode cX6_rowsOf 21 = .ok (.iload_n 1, 1) := by decide +kernel
theorem dX6_rowsOf_22 : decode cX6_rowsOf 22 = .ok (.imul, 1) := by decide +kernel
theorem dX6_rowsOf_23 : decode cX6_rowsOf 23 = .ok (.iload_n 3, 1) := by decide +kernel
theorem dX6_rowsOf_24 : decode cX6_rowsOf 24 = .ok (.iadd, 1) := by decide +kernel
theorem dX6_rowsOf_25 : decode cX6_rowsOf 25 = .ok (.iaload, 1) := by decide +kernel
theorem dX6_rowsOf_26 : decode cX6_rowsOf 26 = .ok (.iadd, 1) := by decide +kernel
theorem dX6_rowsOf_27 : decode cX6_rowsOf 27 = .ok (.istore_n 2, 1) := by decide +kernel
theorem dX6_rowsOf_28 : decode cX6_rowsOf 28 = .ok (.iinc 3 1, 3) := by decide +kernel
theorem dX6_rowsOf_31 : decode cX6_rowsOf 31 = .ok (.goto (-27), 3) := by decide +kernel
theorem dX6_rowsOf_34 : decode cX6_rowsOf 34 = .ok (.iload_n 2, 1) := by decide +kernel
theorem dX6_rowsOf_35 : decode cX6_rowsOf 35 = .ok (.ireturn, 1) := by decide +kernel
theorem dX6_put_0 : decode cX6_put 0 = .ok (.bipush 6, 2) := by decide +kernel
theorem dX6_put_2 : decode cX6_put 2 = .ok (.iload_n 1, 1) := by decide +kernel
theorem dX6_put_3 : decode cX6_put 3 = .ok (.imul, 1) := by decide +kernel
theorem dX6_put_4 : decode cX6_put 4 = .ok (.aload_n 0, 1) := by decide +kernel
theorem dX6_put_5 : decode cX6_put 5 = .ok (.getfield 19, 3) := by decide +kernel
theorem dX6_put_8 : decode cX6_put 8 = .ok (.iload_n 1, 1) := by decide +kernel
theorem dX6_put_9 : decode cX6_put 9 = .ok (.iaload, 1) := by decide +kernel
theorem dX6_put_10 : decode cX6_put 10 = .ok (.iadd, 1) := by decide +kernel
theorem dX6_put_11 : decode cX6_put 11 = .ok (.istore 6, 2) := by decide +kernel
theorem dX6_put_13 : decode cX6_put 13 = .ok (.aload_n 0, 1) := by decide +kernel
theorem dX6_put_14 : decode cX6_put 14 = .ok (.getfield 22, 3) := by decide +kernel
theorem dX6_put_17 : decode cX6_put 17 = .ok (.iload 6, 2) := by decide +kernel
theorem dX6_put_19 : decode cX6_put 19 = .ok (.iload_n 2, 1) := by decide +kernel
theorem dX6_put_20 : decode cX6_put 20 = .ok (.iastore, 1) := by decide +kernel
theorem dX6_put_21 : decode cX6_put 21 = .ok (.aload_n 0, 1) := by decide +kernel
theorem dX6_put_22 : decode cX6_put 22 = .ok (.getfield 25, 3) := by decide +kernel
theorem dX6_put_25 : decode cX6_put 25 = .ok (.iload 6, 2) := by decide +kernel
theorem dX6_put_27 : decode cX6_put 27 = .ok (.iload_n 3, 1) := by decide +kernel
theorem dX6_put_28 : decode cX6_put 28 = .ok (.iastore, 1) := by decide +kernel
theorem dX6_put_29 : decode cX6_put 29 = .ok (.aload_n 0, 1) := by decide +kernel
theorem dX6_put_30 : decode cX6_put 30 = .ok (.getfield 28, 3) := by decide +kernel
theorem dX6_put_33 : decode cX6_put 33 = .ok (.iload 6, 2) := by decide +kernel
theorem dX6_put_35 : decode cX6_put 35 = .ok (.iload 4, 2) := by decide +kernel
theorem dX6_put_37 : decode cX6_put 37 = .ok (.iastore, 1) := by decide +kernel
theorem dX6_put_38 : decode cX6_put 38 = .ok (.aload_n 0, 1) := by decide +kernel
theorem dX6_put_39 : decode cX6_put 39 = .ok (.getfield 31, 3) := by decide +kernel
theorem dX6_put_42 : decode cX6_put 42 = .ok (.iload 6, 2) := by decide +kernel
theorem dX6_put_44 : decode cX6_put 44 = .ok (.iload 5, 2) := by decide +kernel
theorem dX6_put_46 : decode cX6_put 46 = .ok (.iastore, 1) := by decide +kernel
theorem dX6_put_47 : decode cX6_put 47 = .ok (.aload_n 0, 1) := by decide +kernel
theorem dX6_put_48 : decode cX6_put 48 = .ok (.getfield 19, 3) := by decide +kernel
theorem dX6_put_51 : decode cX6_put 51 = .ok (.iload_n 1, 1) := by decide +kernel
theorem dX6_put_52 : decode cX6_put 52 = .ok (.dup2, 1) := by decide +kernel
theorem dX6_put_53 : decode cX6_put 53 = .ok (.iaload, 1) := by decide +kernel
theorem dX6_put_54 : decode cX6_put 54 = .ok (.iconst 1, 1) := by decide +kernel
theorem dX6_put_55 : decode cX6_put 55 = .ok (.iadd, 1) := by decide +kernel
theorem dX6_put_56 : decode cX6_put 56 = .ok (.iastore, 1) := by decide +kernel
theorem dX6_put_57 : decode cX6_put 57 = .ok (.return_, 1) := by decide +kernel
theorem dX6_isPublished_0 : decode cX6_isPublished 0 = .ok (.aload_n 0, 1) := by decide +kernel
theorem dX6_isPublished_1 : decode cX6_isPublished 1 = .ok (.getfield 34, 3) := by decide +kernel
theorem dX6_isPublished_4 : decode cX6_isPublished 4 = .ok (.iload_n 1, 1) := by decide +kernel
theorem dX6_isPublished_5 : decode cX6_isPublished 5 = .ok (.iaload, 1) := by decide +kernel
theorem dX6_isPublished_6 : decode cX6_isPublished 6 = .ok (.bipush 99, 2) := by decide +kernel
theorem dX6_isPublished_8 : decode cX6_isPublished 8 = .ok (.if_icmp .eq 7, 3) := by decide +kernel
theorem dX6_isPublished_11 : decode cX6_isPublished 11 = .ok (.iconst 1, 1) := by decide +kernel
theorem dX6_isPublished_12 : decode cX6_isPublished 12 = .ok (.goto 4, 3) := by decide +kernel
theorem dX6_isPublished_15 : decode cX6_isPublished 15 = .ok (.iconst 0, 1) := by decide +kernel
theorem dX6_isPublished_16 : decode cX6_isPublished 16 = .ok (.ireturn, 1) := by decide +kernel
set_option maxRecDepth 20000 in
theorem ggX6_line_X6_in : GoodIn wsX6_line wsX6_in := goodIn_r _ [5] (by decide +kernel) (by decide +kernel)
set_option maxRecDepth 20000 in
theorem gX6_line_X6_in : GoodIn wsX6_line (va_wsS RX6 72 yX6_in wsX6_in) := goodIn_app (goodIn_of _ (by decide +kernel)) ggX6_line_X6_in
set_option maxRecDepth 20000 in
theorem ggX6_line_X6_isPattern : GoodIn wsX6_line wsX6_isPattern := goodIn_r _ [9, 10, 2, 3, 4, 5, 33, 34, 35, 36, 37, 38, 39, 40, 41, 42, 43, 44, 45, 46, 47, 48, 49, 50, 51, 52, 53, 54, 55, 56, 57, 58] (by decide +kernel) (by decide +kernel)
set_option maxRecDepth 20000 in
theorem gX6_line_X6_isPattern : GoodIn wsX6_line (wsV RX6 96 RX6 yX6_isPattern wsX6_isPattern) := goodIn_app (goodIn_of _ (by decide +kernel)) ggX6_line_X6_isPattern
set_option maxRecDepth 20000 in
theorem ggX6_line_X6_isPublished : GoodIn wsX6_line wsX6_isPublished := goodIn_r _ [14, 15, 33, 34, 35, 36, 37, 38, 39, 40, 41, 42, 43, 44, 45, 46, 47, 48, 49, 50, 51, 52, 53, 54, 55, 56, 57, 58] (by decide +kernel) (by decide +kernel)
set_option maxRecDepth 20000 in
theorem gX6_line_X6_isPublished : GoodIn wsX6_line (wsV RX6 99 RX6 yX6_isPublished wsX6_isPublished) := goodIn_app (goodIn_of _ (by decide +kernel)) ggX6_line_X6_isPublished
set_option maxRecDepth 20000 in
theorem ggX6_line_X6_rowsOf : GoodIn wsX6_line wsX6_rowsOf := goodIn_r _ [19, 1, 20, 33, 34, 35, 36, 37, 38, 39, 40, 41, 42, 43, 44, 45, 46, 47, 48, 49, 50, 51, 52, 53, 54, 55, 56, 57, 58] (by decide +kernel) (by decide +kernel)
set_option maxRecDepth 20000 in
theorem gX6_line_X6_rowsOf : GoodIn wsX6_line (wsV RX6 102 RX6 yX6_rowsOf wsX6_rowsOf) := goodIn_app (goodIn_of _ (by decide +kernel)) ggX6_line_X6_rowsOf
set_option maxRecDepth 20000 in
theorem ggX6_line_X6_refused : GoodIn wsX6_line wsX6_refused := goodIn_r _ [24, 25, 33, 34, 35, 36, 37, 38, 39, 40, 41, 42, 43, 44, 45, 46, 47, 48, 49, 50, 51, 52, 53, 54, 55, 56, 57, 58] (by decide +kernel) (by decide +kernel)
set_option maxRecDepth 20000 in
theorem gX6_line_X6_refused : GoodIn wsX6_line (wsV RX6 89 RX6 yX6_refused wsX6_refused) := goodIn_app (goodIn_of _ (by decide +kernel)) ggX6_line_X6_refused
set_option maxRecDepth 20000 in
theorem ggX6_line_X6_put : GoodIn wsX6_line wsX6_put := goodIn_r _ [29, 1, 30, 31, 32, 20, 33, 34, 35, 36, 37, 38, 39, 40, 41, 42, 43, 44, 45, 46, 47, 48, 49, 50, 51, 52, 53, 54, 55, 56, 57, 58] (by decide +kernel) (by decide +kernel)
set_option maxRecDepth 20000 in
theorem gX6_line_X6_put : GoodIn wsX6_line (wsV RX6 106 RX6 yX6_put wsX6_put) := goodIn_app (goodIn_of _ (by decide +kernel)) ggX6_line_X6_put
theorem dX6_line_0 : decode cX6_line 0 = .ok (.iload_n 2, 1) := by decide +kernel
theorem dX6_line_1 : decode cX6_line 1 = .ok (.iconst 0, 1) := by decide +kernel
theorem dX6_line_2 : decode cX6_line 2 = .ok (.bipush 9, 2) := by decide +kernel
theorem dX6_line_4 : decode cX6_line 4 = .ok (.invokestatic 72, 3) := by decide +kernel
theorem dX6_line_7 : decode cX6_line 7 = .ok (.ifCond .eq 45, 3) := by decide +kernel
theorem dX6_line_10 : decode cX6_line 10 = .ok (.iload_n 3, 1) := by decide +kernel
theorem dX6_line_11 : decode cX6_line 11 = .ok (.iconst 0, 1) := by decide +kernel
theorem dX6_line_12 : decode cX6_line 12 = .ok (.bipush 9, 2) := by decide +kernel
theorem dX6_line_14 : decode cX6_line 14 = .ok (.invokestatic 72, 3) := by decide +kernel
theorem dX6_line_17 : decode cX6_line 17 = .ok (.ifCond .eq 35, 3) := by decide +kernel
theorem dX6_line_20 : decode cX6_line 20 = .ok (.iload_n 2, 1) := by decide +kernel
theorem dX6_line_21 : decode cX6_line 21 = .ok (.iload_n 3, 1) := by decide +kernel
theorem dX6_line_22 : decode cX6_line 22 = .ok (.iadd, 1) := by decide +kernel
theorem dX6_line_23 : decode cX6_line 23 = .ok (.ifCond .le 29, 3) := by decide +kernel
theorem dX6_line_26 : decode cX6_line 26 = .ok (.iload 4, 2) := by decide +kernel
theorem dX6_line_28 : decode cX6_line 28 = .ok (.bipush (-3), 2) := by decide +kernel
theorem dX6_line_30 : decode cX6_line 30 = .ok (.iconst 3, 1) := by decide +kernel
theorem dX6_line_31 : decode cX6_line 31 = .ok (.invokestatic 72, 3) := by decide +kernel
theorem dX6_line_34 : decode cX6_line 34 = .ok (.ifCond .eq 18, 3) := by decide +kernel
theorem dX6_line_37 : decode cX6_line 37 = .ok (.iload 5, 2) := by decide +kernel
theorem dX6_line_39 : decode cX6_line 39 = .ok (.iconst 1, 1) := by decide +kernel
theorem dX6_line_40 : decode cX6_line 40 = .ok (.bipush 20, 2) := by decide +kernel
theorem dX6_line_42 : decode cX6_line 42 = .ok (.invokestatic 72, 3) := by decide +kernel
theorem dX6_line_45 : decode cX6_line 45 = .ok (.ifCond .eq 7, 3) := by decide +kernel
theorem dX6_line_48 : decode cX6_line 48 = .ok (.iconst 1, 1) := by decide +kernel
theorem dX6_line_49 : decode cX6_line 49 = .ok (.goto 4, 3) := by decide +kernel
theorem dX6_line_52 : decode cX6_line 52 = .ok (.iconst 0, 1) := by decide +kernel
theorem dX6_line_53 : decode cX6_line 53 = .ok (.istore 6, 2) := by decide +kernel
theorem dX6_line_55 : decode cX6_line 55 = .ok (.aload_n 0, 1) := by decide +kernel
theorem dX6_line_56 : decode cX6_line 56 = .ok (.iload_n 1, 1) := by decide +kernel
theorem dX6_line_57 : decode cX6_line 57 = .ok (.invokevirtual 96, 3) := by decide +kernel
theorem dX6_line_60 : decode cX6_line 60 = .ok (.ifCond .eq 44, 3) := by decide +kernel
theorem dX6_line_63 : decode cX6_line 63 = .ok (.iload 6, 2) := by decide +kernel
theorem dX6_line_65 : decode cX6_line 65 = .ok (.ifCond .eq 39, 3) := by decide +kernel
theorem dX6_line_68 : decode cX6_line 68 = .ok (.aload_n 0, 1) := by decide +kernel
theorem dX6_line_69 : decode cX6_line 69 = .ok (.iload_n 1, 1) := by decide +kernel
theorem dX6_line_70 : decode cX6_line 70 = .ok (.invokevirtual 99, 3) := by decide +kernel
theorem dX6_line_73 : decode cX6_line 73 = .ok (.ifCond .ne 31, 3) := by decide +kernel
theorem dX6_line_76 : decode cX6_line 76 = .ok (.aload_n 0, 1) := by decide +kernel
theorem dX6_line_77 : decode cX6_line 77 = .ok (.getfield 19, 3) := by decide +kernel
theorem dX6_line_80 : decode cX6_line 80 = .ok (.iload_n 1, 1) := by decide +kernel
theorem dX6_line_81 : decode cX6_line 81 = .ok (.iaload, 1) := by decide +kernel
theorem dX6_line_82 : decode cX6_line 82 = .ok (.bipush 6, 2) := by decide +kernel
theorem dX6_line_84 : decode cX6_line 84 = .ok (.if_icmp .ge 20, 3) := by decide +kernel
theorem dX6_line_87 : decode cX6_line 87 = .ok (.aload_n 0, 1) := by decide +kernel
theorem dX6_line_88 : decode cX6_line 88 = .ok (.iload_n 1, 1) := by decide +kernel
theorem dX6_line_89 : decode cX6_line 89 = .ok (.invokevirtual 102, 3) := by decide +kernel
theorem dX6_line_92 : decode cX6_line 92 = .ok (.iload 5, 2) := by decide +kernel
theorem dX6_line_94 : decode cX6_line 94 = .ok (.iadd, 1) := by decide +kernel
theorem dX6_line_95 : decode cX6_line 95 = .ok (.bipush 40, 2) := by decide +kernel
theorem dX6_line_97 : decode cX6_line 97 = .ok (.if_icmp .gt 7, 3) := by decide +kernel
theorem dX6_line_100 : decode cX6_line 100 = .ok (.iconst 1, 1) := by decide +kernel
theorem dX6_line_101 : decode cX6_line 101 = .ok (.goto 4, 3) := by decide +kernel
theorem dX6_line_104 : decode cX6_line 104 = .ok (.iconst 0, 1) := by decide +kernel
theorem dX6_line_105 : decode cX6_line 105 = .ok (.istore 7, 2) := by decide +kernel
theorem dX6_line_107 : decode cX6_line 107 = .ok (.aload_n 0, 1) := by decide +kernel
theorem dX6_line_108 : decode cX6_line 108 = .ok (.aload_n 0, 1) := by decide +kernel
theorem dX6_line_109 : decode cX6_line 109 = .ok (.iload_n 1, 1) := by decide +kernel
theorem dX6_line_110 : decode cX6_line 110 = .ok (.invokevirtual 96, 3) := by decide +kernel
theorem dX6_line_113 : decode cX6_line 113 = .ok (.ifCond .ne 7, 3) := by decide +kernel
theorem dX6_line_116 : decode cX6_line 116 = .ok (.iconst 1, 1) := by decide +kernel
theorem dX6_line_117 : decode cX6_line 117 = .ok (.goto 22, 3) := by decide +kernel
theorem dX6_line_120 : decode cX6_line 120 = .ok (.iload 6, 2) := by decide +kernel
theorem dX6_line_122 : decode cX6_line 122 = .ok (.ifCond .ne 7, 3) := by decide +kernel
theorem dX6_line_125 : decode cX6_line 125 = .ok (.iconst 2, 1) := by decide +kernel
theorem dX6_line_126 : decode cX6_line 126 = .ok (.goto 13, 3) := by decide +kernel
theorem dX6_line_129 : decode cX6_line 129 = .ok (.iload 7, 2) := by decide +kernel
theorem dX6_line_131 : decode cX6_line 131 = .ok (.ifCond .eq 7, 3) := by decide +kernel
theorem dX6_line_134 : decode cX6_line 134 = .ok (.iconst 0, 1) := by decide +kernel
theorem dX6_line_135 : decode cX6_line 135 = .ok (.goto 4, 3) := by decide +kernel
theorem dX6_line_138 : decode cX6_line 138 = .ok (.iconst 3, 1) := by decide +kernel
theorem dX6_line_139 : decode cX6_line 139 = .ok (.invokevirtual 89, 3) := by decide +kernel
theorem dX6_line_142 : decode cX6_line 142 = .ok (.ifCond .eq 5, 3) := by decide +kernel
theorem dX6_line_145 : decode cX6_line 145 = .ok (.iconst 0, 1) := by decide +kernel
theorem dX6_line_146 : decode cX6_line 146 = .ok (.ireturn, 1) := by decide +kernel
theorem dX6_line_147 : decode cX6_line 147 = .ok (.aload_n 0, 1) := by decide +kernel
theorem dX6_line_148 : decode cX6_line 148 = .ok (.iload_n 1, 1) := by decide +kernel
theorem dX6_line_149 : decode cX6_line 149 = .ok (.iload_n 2, 1) := by decide +kernel
theorem dX6_line_150 : decode cX6_line 150 = .ok (.iload_n 3, 1) := by decide +kernel
theorem dX6_line_151 : decode cX6_line 151 = .ok (.iload 4, 2) := by decide +kernel
theorem dX6_line_153 : decode cX6_line 153 = .ok (.iload 5, 2) := by decide +kernel
theorem dX6_line_155 : decode cX6_line 155 = .ok (.invokevirtual 106, 3) := by decide +kernel
theorem dX6_line_158 : decode cX6_line 158 = .ok (.aload_n 0, 1) := by decide +kernel
theorem dX6_line_159 : decode cX6_line 159 = .ok (.iload_n 1, 1) := by decide +kernel
theorem dX6_line_160 : decode cX6_line 160 = .ok (.invokevirtual 102, 3) := by decide +kernel
theorem dX6_line_163 : decode cX6_line 163 = .ok (.ireturn, 1) := by decide +kernel
theorem dX6_oftenAnew_0 : decode cX6_oftenAnew 0 = .ok (.aload_n 0, 1) := by decide +kernel
theorem dX6_oftenAnew_1 : decode cX6_oftenAnew 1 = .ok (.getfield 31, 3) := by decide +kernel
theorem dX6_oftenAnew_4 : decode cX6_oftenAnew 4 = .ok (.iload_n 1, 1) := by decide +kernel
theorem dX6_oftenAnew_5 : decode cX6_oftenAnew 5 = .ok (.iaload, 1) := by decide +kernel
theorem dX6_oftenAnew_6 : decode cX6_oftenAnew 6 = .ok (.iload_n 2, 1) := by decide +kernel
theorem dX6_oftenAnew_7 : decode cX6_oftenAnew 7 = .ok (.imul, 1) := by decide +kernel
theorem dX6_oftenAnew_8 : decode cX6_oftenAnew 8 = .ok (.bipush 10, 2) := by decide +kernel
theorem dX6_oftenAnew_10 : decode cX6_oftenAnew 10 = .ok (.idiv, 1) := by decide +kernel
theorem dX6_oftenAnew_11 : decode cX6_oftenAnew 11 = .ok (.istore_n 3, 1) := by decide +kernel
theorem dX6_oftenAnew_12 : decode cX6_oftenAnew 12 = .ok (.iload_n 3, 1) := by decide +kernel
theorem dX6_oftenAnew_13 : decode cX6_oftenAnew 13 = .ok (.iconst 1, 1) := by decide +kernel
theorem dX6_oftenAnew_14 : decode cX6_oftenAnew 14 = .ok (.if_icmp .ge 7, 3) := by decide +kernel
theorem dX6_oftenAnew_17 : decode cX6_oftenAnew 17 = .ok (.iconst 1, 1) := by decide +kernel
theorem dX6_oftenAnew_18 : decode cX6_oftenAnew 18 = .ok (.goto 4, 3) := by decide +kernel
theorem dX6_oftenAnew_21 : decode cX6_oftenAnew 21 = .ok (.iload_n 3, 1) := by decide +kernel
theorem dX6_oftenAnew_22 : decode cX6_oftenAnew 22 = .ok (.ireturn, 1) := by decide +kernel
set_option maxRecDepth 20000 in
theorem ggX6_anew_X6_in : GoodIn wsX6_anew wsX6_in := goodIn_r _ [12] (by decide +kernel) (by decide +kernel)
set_option maxRecDepth 20000 in
theorem gX6_anew_X6_in : GoodIn wsX6_anew (va_wsS RX6 72 yX6_in wsX6_in) := goodIn_app (goodIn_of _ (by decide +kernel)) ggX6_anew_X6_in
set_option maxRecDepth 20000 in
theorem ggX6_anew_X6_isPattern : GoodIn wsX6_anew wsX6_isPattern := goodIn_r _ [16, 2, 9, 10, 11, 12, 36, 37, 38, 39, 40, 41, 42, 43, 44, 45, 46, 47, 48, 49, 50, 51, 52, 53, 54, 55, 56, 57, 58, 59, 60, 61] (by decide +kernel) (by decide +kernel)
set_option maxRecDepth 20000 in
theorem gX6_anew_X6_isPattern : GoodIn wsX6_anew (wsV RX6 96 RX6 yX6_isPattern wsX6_isPattern) := goodIn_app (goodIn_of _ (by decide +kernel)) ggX6_anew_X6_isPattern
set_option maxRecDepth 20000 in
theorem ggX6_anew_X6_oftenAnew : GoodIn wsX6_anew wsX6_oftenAnew := goodIn_r _ [20, 21, 36, 37, 38, 39, 40, 41, 42, 43, 44, 45, 46, 47, 48, 49, 50, 51, 52, 53, 54, 55, 56, 57, 58, 59, 60, 61] (by decide +kernel) (by decide +kernel)
set_option maxRecDepth 20000 in
theorem gX6_anew_X6_oftenAnew : GoodIn wsX6_anew (wsV RX6 110 RX6 yX6_oftenAnew wsX6_oftenAnew) := goodIn_app (goodIn_of _ (by decide +kernel)) ggX6_anew_X6_oftenAnew
set_option maxRecDepth 20000 in
theorem ggX6_anew_X6_refused : GoodIn wsX6_anew wsX6_refused := goodIn_r _ [25, 26, 36, 37, 38, 39, 40, 41, 42, 43, 44, 45, 46, 47, 48, 49, 50, 51, 52, 53, 54, 55, 56, 57, 58, 59, 60, 61] (by decide +kernel) (by decide +kernel)
set_option maxRecDepth 20000 in
theorem gX6_anew_X6_refused : GoodIn wsX6_anew (wsV RX6 89 RX6 yX6_refused wsX6_refused) := goodIn_app (goodIn_of _ (by decide +kernel)) ggX6_anew_X6_refused
set_option maxRecDepth 20000 in
theorem ggX6_anew_X6_added : GoodIn wsX6_anew wsX6_added := goodIn_r _ [30, 4, 2, 3, 5, 31, 36, 37, 38, 39, 40, 41, 42, 43, 44, 45, 46, 47, 48, 49, 50, 51, 52, 53, 54, 55, 56, 57, 58, 59, 60, 61] (by decide +kernel) (by decide +kernel)
set_option maxRecDepth 20000 in
theorem gX6_anew_X6_added : GoodIn wsX6_anew (wsV RX6 92 RX6 yX6_added wsX6_added) := goodIn_app (goodIn_of _ (by decide +kernel)) ggX6_anew_X6_added
set_option maxRecDepth 20000 in
theorem ggX6_anew_X6_put : GoodIn wsX6_anew wsX6_put := goodIn_r _ [35, 1, 6, 7, 8, 21, 36, 37, 38, 39, 40, 41, 42, 43, 44, 45, 46, 47, 48, 49, 50, 51, 52, 53, 54, 55, 56, 57, 58, 59, 60, 61] (by decide +kernel) (by decide +kernel)
set_option maxRecDepth 20000 in
theorem gX6_anew_X6_put : GoodIn wsX6_anew (wsV RX6 106 RX6 yX6_put wsX6_put) := goodIn_app (goodIn_of _ (by decide +kernel)) ggX6_anew_X6_put
theorem dX6_anew_0 : decode cX6_anew 0 = .ok (.iload_n 2, 1) := by decide +kernel
theorem dX6_anew_1 : decode cX6_anew 1 = .ok (.iconst 5, 1) := by decide +kernel
theorem dX6_anew_2 : decode cX6_anew 2 = .ok (.bipush 20, 2) := by decide +kernel
theorem dX6_anew_4 : decode cX6_anew 4 = .ok (.invokestatic 72, 3) := by decide +kernel
theorem dX6_anew_7 : decode cX6_anew 7 = .ok (.istore_n 3, 1) := by decide +kernel
theorem dX6_anew_8 : decode cX6_anew 8 = .ok (.iconst 0, 1) := by decide +kernel
theorem dX6_anew_9 : decode cX6_anew 9 = .ok (.istore 4, 2) := by decide +kernel
theorem dX6_anew_11 : decode cX6_anew 11 = .ok (.iconst 0, 1) := by decide +kernel
theorem dX6_anew_12 : decode cX6_anew 12 = .ok (.istore 5, 2) := by decide +kernel
theorem dX6_anew_14 : decode cX6_anew 14 = .ok (.aload_n 0, 1) := by decide +kernel
theorem dX6_anew_15 : decode cX6_anew 15 = .ok (.iload_n 1, 1) := by decide +kernel
theorem dX6_anew_16 : decode cX6_anew 16 = .ok (.invokevirtual 96, 3) := by decide +kernel
theorem dX6_anew_19 : decode cX6_anew 19 = .ok (.ifCond .eq 41, 3) := by decide +kernel
theorem dX6_anew_22 : decode cX6_anew 22 = .ok (.iload_n 3, 1) := by decide +kernel
theorem dX6_anew_23 : decode cX6_anew 23 = .ok (.ifCond .eq 37, 3) := by decide +kernel
theorem dX6_anew_26 : decode cX6_anew 26 = .ok (.iload 5, 2) := by decide +kernel
theorem dX6_anew_28 : decode cX6_anew 28 = .ok (.aload_n 0, 1) := by decide +kernel
theorem dX6_anew_29 : decode cX6_anew 29 = .ok (.getfield 19, 3) := by decide +kernel
theorem dX6_anew_32 : decode cX6_anew 32 = .ok (.iload_n 1, 1) := by decide +kernel
theorem dX6_anew_33 : decode cX6_anew 33 = .ok (.iaload, 1) := by decide +kernel
theorem dX6_anew_34 : decode cX6_anew 34 = .ok (.if_icmp .ge 26, 3) := by decide +kernel
theorem dX6_anew_37 : decode cX6_anew 37 = .ok (.iload 4, 2) := by decide +kernel
theorem dX6_anew_39 : decode cX6_anew 39 = .ok (.aload_n 0, 1) := by decide +kernel
theorem dX6_anew_40 : decode cX6_anew 40 = .ok (.bipush 6, 2) := by decide +kernel
theorem dX6_anew_42 : decode cX6_anew 42 = .ok (.iload_n 1, 1) := by decide +kernel
theorem dX6_anew_43 : decode cX6_anew 43 = .ok (.imul, 1) := by decide +kernel
theorem dX6_anew_44 : decode cX6_anew 44 = .ok (.iload 5, 2) := by decide +kernel
theorem dX6_anew_46 : decode cX6_anew 46 = .ok (.iadd, 1) := by decide +kernel
theorem dX6_anew_47 : decode cX6_anew 47 = .ok (.iload_n 2, 1) := by decide +kernel
theorem dX6_anew_48 : decode cX6_anew 48 = .ok (.invokevirtual 110, 3) := by decide +kernel
theorem dX6_anew_51 : decode cX6_anew 51 = .ok (.iadd, 1) := by decide +kernel
theorem dX6_anew_52 : decode cX6_anew 52 = .ok (.istore 4, 2) := by decide +kernel
theorem dX6_anew_54 : decode cX6_anew 54 = .ok (.iinc 5 1, 3) := by decide +kernel
theorem dX6_anew_57 : decode cX6_anew 57 = .ok (.goto (-43), 3) := by decide +kernel
theorem dX6_anew_60 : decode cX6_anew 60 = .ok (.iload 4, 2) := by decide +kernel
theorem dX6_anew_62 : decode cX6_anew 62 = .ok (.ifCond .le 23, 3) := by decide +kernel
theorem dX6_anew_65 : decode cX6_anew 65 = .ok (.iload 4, 2) := by decide +kernel
theorem dX6_anew_67 : decode cX6_anew 67 = .ok (.bipush 40, 2) := by decide +kernel
theorem dX6_anew_69 : decode cX6_anew 69 = .ok (.if_icmp .gt 16, 3) := by decide +kernel
theorem dX6_anew_72 : decode cX6_anew 72 = .ok (.aload_n 0, 1) := by decide +kernel
theorem dX6_anew_73 : decode cX6_anew 73 = .ok (.getfield 76, 3) := by decide +kernel
theorem dX6_anew_76 : decode cX6_anew 76 = .ok (.bipush 16, 2) := by decide +kernel
theorem dX6_anew_78 : decode cX6_anew 78 = .ok (.if_icmp .ge 7, 3) := by decide +kernel
theorem dX6_anew_81 : decode cX6_anew 81 = .ok (.iconst 1, 1) := by decide +kernel
theorem dX6_anew_82 : decode cX6_anew 82 = .ok (.goto 4, 3) := by decide +kernel
theorem dX6_anew_85 : decode cX6_anew 85 = .ok (.iconst 0, 1) := by decide +kernel
theorem dX6_anew_86 : decode cX6_anew 86 = .ok (.istore 5, 2) := by decide +kernel
theorem dX6_anew_88 : decode cX6_anew 88 = .ok (.aload_n 0, 1) := by decide +kernel
theorem dX6_anew_89 : decode cX6_anew 89 = .ok (.aload_n 0, 1) := by decide +kernel
theorem dX6_anew_90 : decode cX6_anew 90 = .ok (.iload_n 1, 1) := by decide +kernel
theorem dX6_anew_91 : decode cX6_anew 91 = .ok (.invokevirtual 96, 3) := by decide +kernel
theorem dX6_anew_94 : decode cX6_anew 94 = .ok (.ifCond .ne 7, 3) := by decide +kernel
theorem dX6_anew_97 : decode cX6_anew 97 = .ok (.iconst 1, 1) := by decide +kernel
theorem dX6_anew_98 : decode cX6_anew 98 = .ok (.goto 21, 3) := by decide +kernel
theorem dX6_anew_101 : decode cX6_anew 101 = .ok (.iload_n 3, 1) := by decide +kernel
theorem dX6_anew_102 : decode cX6_anew 102 = .ok (.ifCond .ne 7, 3) := by decide +kernel
theorem dX6_anew_105 : decode cX6_anew 105 = .ok (.iconst 2, 1) := by decide +kernel
theorem dX6_anew_106 : decode cX6_anew 106 = .ok (.goto 13, 3) := by decide +kernel
theorem dX6_anew_109 : decode cX6_anew 109 = .ok (.iload 5, 2) := by decide +kernel
theorem dX6_anew_111 : decode cX6_anew 111 = .ok (.ifCond .eq 7, 3) := by decide +kernel
theorem dX6_anew_114 : decode cX6_anew 114 = .ok (.iconst 0, 1) := by decide +kernel
theorem dX6_anew_115 : decode cX6_anew 115 = .ok (.goto 4, 3) := by decide +kernel
theorem dX6_anew_118 : decode cX6_anew 118 = .ok (.iconst 3, 1) := by decide +kernel
theorem dX6_anew_119 : decode cX6_anew 119 = .ok (.invokevirtual 89, 3) := by decide +kernel
theorem dX6_anew_122 : decode cX6_anew 122 = .ok (.ifCond .eq 5, 3) := by decide +kernel
theorem dX6_anew_125 : decode cX6_anew 125 = .ok (.iconst 0, 1) := by decide +kernel
theorem dX6_anew_126 : decode cX6_anew 126 = .ok (.ireturn, 1) := by decide +kernel
theorem dX6_anew_127 : decode cX6_anew 127 = .ok (.aload_n 0, 1) := by decide +kernel
theorem dX6_anew_128 : decode cX6_anew 128 = .ok (.getfield 13, 3) := by decide +kernel
theorem dX6_anew_131 : decode cX6_anew 131 = .ok (.iload_n 1, 1) := by decide +kernel
theorem dX6_anew_132 : decode cX6_anew 132 = .ok (.iaload, 1) := by decide +kernel
theorem dX6_anew_133 : decode cX6_anew 133 = .ok (.iload_n 2, 1) := by decide +kernel
theorem dX6_anew_134 : decode cX6_anew 134 = .ok (.imul, 1) := by decide +kernel
theorem dX6_anew_135 : decode cX6_anew 135 = .ok (.bipush 10, 2) := by decide +kernel
theorem dX6_anew_137 : decode cX6_anew 137 = .ok (.idiv, 1) := by decide +kernel
theorem dX6_anew_138 : decode cX6_anew 138 = .ok (.istore 6, 2) := by decide +kernel
theorem dX6_anew_140 : decode cX6_anew 140 = .ok (.aload_n 0, 1) := by decide +kernel
theorem dX6_anew_141 : decode cX6_anew 141 = .ok (.aload_n 0, 1) := by decide +kernel
theorem dX6_anew_142 : decode cX6_anew 142 = .ok (.getfield 7, 3) := by decide +kernel
theorem dX6_anew_145 : decode cX6_anew 145 = .ok (.iload_n 1, 1) := by decide +kernel
theorem dX6_anew_146 : decode cX6_anew 146 = .ok (.iaload, 1) := by decide +kernel
theorem dX6_anew_147 : decode cX6_anew 147 = .ok (.iload 6, 2) := by decide +kernel
theorem dX6_anew_149 : decode cX6_anew 149 = .ok (.iconst 1, 1) := by decide +kernel
theorem dX6_anew_150 : decode cX6_anew 150 = .ok (.if_icmp .ge 7, 3) := by decide +kernel
theorem dX6_anew_153 : decode cX6_anew 153 = .ok (.iconst 1, 1) := by decide +kernel
theorem dX6_anew_154 : decode cX6_anew 154 = .ok (.goto 17, 3) := by decide +kernel
theorem dX6_anew_157 : decode cX6_anew 157 = .ok (.iload 6, 2) := by decide +kernel
theorem dX6_anew_159 : decode cX6_anew 159 = .ok (.bipush 20, 2) := by decide +kernel
theorem dX6_anew_161 : decode cX6_anew 161 = .ok (.if_icmp .le 8, 3) := by decide +kernel
theorem dX6_anew_164 : decode cX6_anew 164 = .ok (.bipush 20, 2) := by decide +kernel
theorem dX6_anew_166 : decode cX6_anew 166 = .ok (.goto 5, 3) := by decide +kernel
theorem dX6_anew_169 : decode cX6_anew 169 = .ok (.iload 6, 2) := by decide +kernel
theorem dX6_anew_171 : decode cX6_anew 171 = .ok (.aload_n 0, 1) := by decide +kernel
theorem dX6_anew_172 : decode cX6_anew 172 = .ok (.getfield 16, 3) := by decide +kernel
theorem dX6_anew_175 : decode cX6_anew 175 = .ok (.iload_n 1, 1) := by decide +kernel
theorem dX6_anew_176 : decode cX6_anew 176 = .ok (.iaload, 1) := by decide +kernel
theorem dX6_anew_177 : decode cX6_anew 177 = .ok (.invokevirtual 92, 3) := by decide +kernel
theorem dX6_anew_180 : decode cX6_anew 180 = .ok (.istore 7, 2) := by decide +kernel
theorem dX6_anew_182 : decode cX6_anew 182 = .ok (.bipush 6, 2) := by decide +kernel
theorem dX6_anew_184 : decode cX6_anew 184 = .ok (.iload_n 1, 1) := by decide +kernel
theorem dX6_anew_185 : decode cX6_anew 185 = .ok (.imul, 1) := by decide +kernel
theorem dX6_anew_186 : decode cX6_anew 186 = .ok (.istore 8, 2) := by decide +kernel
theorem dX6_anew_188 : decode cX6_anew 188 = .ok (.iload 8, 2) := by decide +kernel
theorem dX6_anew_190 : decode cX6_anew 190 = .ok (.bipush 6, 2) := by decide +kernel
theorem dX6_anew_192 : decode cX6_anew 192 = .ok (.iload_n 1, 1) := by decide +kernel
theorem dX6_anew_193 : decode cX6_anew 193 = .ok (.imul, 1) := by decide +kernel
theorem dX6_anew_194 : decode cX6_anew 194 = .ok (.aload_n 0, 1) := by decide +kernel
theorem dX6_anew_195 : decode cX6_anew 195 = .ok (.getfield 19, 3) := by decide +kernel
theorem dX6_anew_198 : decode cX6_anew 198 = .ok (.iload_n 1, 1) := by decide +kernel
theorem dX6_anew_199 : decode cX6_anew 199 = .ok (.iaload, 1) := by decide +kernel
theorem dX6_anew_200 : decode cX6_anew 200 = .ok (.iadd, 1) := by decide +kernel
theorem dX6_anew_201 : decode cX6_anew 201 = .ok (.if_icmp .ge 43, 3) := by decide +kernel
theorem dX6_anew_204 : decode cX6_anew 204 = .ok (.aload_n 0, 1) := by decide +kernel
theorem dX6_anew_205 : decode cX6_anew 205 = .ok (.iload 7, 2) := by decide +kernel
theorem dX6_anew_207 : decode cX6_anew 207 = .ok (.aload_n 0, 1) := by decide +kernel
theorem dX6_anew_208 : decode cX6_anew 208 = .ok (.getfield 22, 3) := by decide +kernel
theorem dX6_anew_211 : decode cX6_anew 211 = .ok (.iload 8, 2) := by decide +kernel
theorem dX6_anew_213 : decode cX6_anew 213 = .ok (.iaload, 1) := by decide +kernel
theorem dX6_anew_214 : decode cX6_anew 214 = .ok (.aload_n 0, 1) := by decide +kernel
theorem dX6_anew_215 : decode cX6_anew 215 = .ok (.getfield 25, 3) := by decide +kernel
theorem dX6_anew_218 : decode cX6_anew 218 = .ok (.iload 8, 2) := by decide +kernel
theorem dX6_anew_220 : decode cX6_anew 220 = .ok (.iaload, 1) := by decide +kernel
theorem dX6_anew_221 : decode cX6_anew 221 = .ok (.aload_n 0, 1) := by decide +kernel
theorem dX6_anew_222 : decode cX6_anew 222 = .ok (.getfield 28, 3) := by decide +kernel
theorem dX6_anew_225 : decode cX6_anew 225 = .ok (.iload 8, 2) := by decide +kernel
theorem dX6_anew_227 : decode cX6_anew 227 = .ok (.iaload, 1) := by decide +kernel
theorem dX6_anew_228 : decode cX6_anew 228 = .ok (.aload_n 0, 1) := by decide +kernel
theorem dX6_anew_229 : decode cX6_anew 229 = .ok (.iload 8, 2) := by decide +kernel
theorem dX6_anew_231 : decode cX6_anew 231 = .ok (.iload_n 2, 1) := by decide +kernel
theorem dX6_anew_232 : decode cX6_anew 232 = .ok (.invokevirtual 110, 3) := by decide +kernel
theorem dX6_anew_235 : decode cX6_anew 235 = .ok (.invokevirtual 106, 3) := by decide +kernel
theorem dX6_anew_238 : decode cX6_anew 238 = .ok (.iinc 8 1, 3) := by decide +kernel
theorem dX6_anew_241 : decode cX6_anew 241 = .ok (.goto (-53), 3) := by decide +kernel
theorem dX6_anew_244 : decode cX6_anew 244 = .ok (.iload 7, 2) := by decide +kernel
theorem dX6_anew_246 : decode cX6_anew 246 = .ok (.ireturn, 1) := by decide +kernel
theorem dX6_goTo_0 : decode cX6_goTo 0 = .ok (.aload_n 0, 1) := by decide +kernel
theorem dX6_goTo_1 : decode cX6_goTo 1 = .ok (.bipush 6, 2) := by decide +kernel
theorem dX6_goTo_3 : decode cX6_goTo 3 = .ok (.iload_n 1, 1) := by decide +kernel
theorem dX6_goTo_4 : decode cX6_goTo 4 = .ok (.imul, 1) := by decide +kernel
theorem dX6_goTo_5 : decode cX6_goTo 5 = .ok (.putfield 114, 3) := by decide +kernel
theorem dX6_goTo_8 : decode cX6_goTo 8 = .ok (.aload_n 0, 1) := by decide +kernel
theorem dX6_goTo_9 : decode cX6_goTo 9 = .ok (.aload_n 0, 1) := by decide +kernel
theorem dX6_goTo_10 : decode cX6_goTo 10 = .ok (.getfield 13, 3) := by decide +kernel
theorem dX6_goTo_13 : decode cX6_goTo 13 = .ok (.iload_n 1, 1) := by decide +kernel
theorem dX6_goTo_14 : decode cX6_goTo 14 = .ok (.iaload, 1) := by decide +kernel
theorem dX6_goTo_15 : decode cX6_goTo 15 = .ok (.putfield 117, 3) := by decide +kernel
theorem dX6_goTo_18 : decode cX6_goTo 18 = .ok (.aload_n 0, 1) := by decide +kernel
theorem dX6_goTo_19 : decode cX6_goTo 19 = .ok (.getfield 31, 3) := by decide +kernel
theorem dX6_goTo_22 : decode cX6_goTo 22 = .ok (.aload_n 0, 1) := by decide +kernel
theorem dX6_goTo_23 : decode cX6_goTo 23 = .ok (.getfield 114, 3) := by decide +kernel
theorem dX6_goTo_26 : decode cX6_goTo 26 = .ok (.iaload, 1) := by decide +kernel
theorem dX6_goTo_27 : decode cX6_goTo 27 = .ok (.istore_n 3, 1) := by decide +kernel
theorem dX6_goTo_28 : decode cX6_goTo 28 = .ok (.iconst 0, 1) := by decide +kernel
theorem dX6_goTo_29 : decode cX6_goTo 29 = .ok (.istore 4, 2) := by decide +kernel
theorem dX6_goTo_31 : decode cX6_goTo 31 = .ok (.iload 4, 2) := by decide +kernel
theorem dX6_goTo_33 : decode cX6_goTo 33 = .ok (.iload_n 2, 1) := by decide +kernel
theorem dX6_goTo_34 : decode cX6_goTo 34 = .ok (.if_icmp .ge 92, 3) := by decide +kernel
theorem dX6_goTo_37 : decode cX6_goTo 37 = .ok (.aload_n 0, 1) := by decide +kernel
theorem dX6_goTo_38 : decode cX6_goTo 38 = .ok (.getfield 117, 3) := by decide +kernel
theorem dX6_goTo_41 : decode cX6_goTo 41 = .ok (.aload_n 0, 1) := by decide +kernel
theorem dX6_goTo_42 : decode cX6_goTo 42 = .ok (.getfield 28, 3) := by decide +kernel
theorem dX6_goTo_45 : decode cX6_goTo 45 = .ok (.aload_n 0, 1) := by decide +kernel
theorem dX6_goTo_46 : decode cX6_goTo 46 = .ok (.getfield 114, 3) := by decide +kernel
theorem dX6_goTo_49 : decode cX6_goTo 49 = .ok (.iaload, 1) := by decide +kernel
theorem dX6_goTo_50 : decode cX6_goTo 50 = .ok (.iadd, 1) := by decide +kernel
theorem dX6_goTo_51 : decode cX6_goTo 51 = .ok (.istore 5, 2) := by decide +kernel
theorem dX6_goTo_53 : decode cX6_goTo 53 = .ok (.aload_n 0, 1) := by decide +kernel
theorem dX6_goTo_54 : decode cX6_goTo 54 = .ok (.iload 5, 2) := by decide +kernel
theorem dX6_goTo_56 : decode cX6_goTo 56 = .ok (.iconst 1, 1) := by decide +kernel
theorem dX6_goTo_57 : decode cX6_goTo 57 = .ok (.if_icmp .ge 7, 3) := by decide +kernel
theorem dX6_goTo_60 : decode cX6_goTo 60 = .ok (.iconst 1, 1) := by decide +kernel
theorem dX6_goTo_61 : decode cX6_goTo 61 = .ok (.goto 17, 3) := by decide +kernel
theorem dX6_goTo_64 : decode cX6_goTo 64 = .ok (.iload 5, 2) := by decide +kernel
theorem dX6_goTo_66 : decode cX6_goTo 66 = .ok (.bipush 40, 2) := by decide +kernel
theorem dX6_goTo_68 : decode cX6_goTo 68 = .ok (.if_icmp .le 8, 3) := by decide +kernel
theorem dX6_goTo_71 : decode cX6_goTo 71 = .ok (.bipush 40, 2) := by decide +kernel
theorem dX6_goTo_73 : decode cX6_goTo 73 = .ok (.goto 5, 3) := by decide +kernel
theorem dX6_goTo_76 : decode cX6_goTo 76 = .ok (.iload 5, 2) := by decide +kernel
theorem dX6_goTo_78 : decode cX6_goTo 78 = .ok (.putfield 117, 3) := by decide +kernel
theorem dX6_goTo_81 : decode cX6_goTo 81 = .ok (.iinc 3 (-1), 3) := by decide +kernel
theorem dX6_goTo_84 : decode cX6_goTo 84 = .ok (.aload_n 0, 1) := by decide +kernel
theorem dX6_goTo_85 : decode cX6_goTo 85 = .ok (.dup, 1) := by decide +kernel
theorem dX6_goTo_86 : decode cX6_goTo 86 = .ok (.getfield 114, 3) := by decide +kernel
theorem dX6_goTo_89 : decode cX6_goTo 89 = .ok (.iload_n 3, 1) := by decide +kernel
theorem dX6_goTo_90 : decode cX6_goTo 90 = .ok (.ifCond .ne 7, 3) := by decide +kernel
theorem dX6_goTo_93 : decode cX6_goTo 93 = .ok (.iconst 1, 1) := by decide +kernel
theorem dX6_goTo_94 : decode cX6_goTo 94 = .ok (.goto 4, 3) := by decide +kernel
theorem dX6_goTo_97 : decode cX6_goTo 97 = .ok (.iconst 0, 1) := by decide +kernel
theorem dX6_goTo_98 : decode cX6_goTo 98 = .ok (.iadd, 1) := by decide +kernel
theorem dX6_goTo_99 : decode cX6_goTo 99 = .ok (.putfield 114, 3) := by decide +kernel
theorem dX6_goTo_102 : decode cX6_goTo 102 = .ok (.iload_n 3, 1) := by decide +kernel
theorem dX6_goTo_103 : decode cX6_goTo 103 = .ok (.ifCond .ne 15, 3) := by decide +kernel
theorem dX6_goTo_106 : decode cX6_goTo 106 = .ok (.aload_n 0, 1) := by decide +kernel
theorem dX6_goTo_107 : decode cX6_goTo 107 = .ok (.getfield 31, 3) := by decide +kernel
theorem dX6_goTo_110 : decode cX6_goTo 110 = .ok (.aload_n 0, 1) := by decide +kernel
theorem dX6_goTo_111 : decode cX6_goTo 111 = .ok (.getfield 114, 3) := by decide +kernel
theorem dX6_goTo_114 : decode cX6_goTo 114 = .ok (.iaload, 1) := by decide +kernel
theorem dX6_goTo_115 : decode cX6_goTo 115 = .ok (.goto 4, 3) := by decide +kernel
theorem dX6_goTo_118 : decode cX6_goTo 118 = .ok (.iload_n 3, 1) := by decide +kernel
theorem dX6_goTo_119 : decode cX6_goTo 119 = .ok (.istore_n 3, 1) := by decide +kernel
theorem dX6_goTo_120 : decode cX6_goTo 120 = .ok (.iinc 4 1, 3) := by decide +kernel
theorem dX6_goTo_123 : decode cX6_goTo 123 = .ok (.goto (-92), 3) := by decide +kernel
theorem dX6_goTo_126 : decode cX6_goTo 126 = .ok (.return_, 1) := by decide +kernel
theorem dX6_stitchAt_0 : decode cX6_stitchAt 0 = .ok (.iload_n 1, 1) := by decide +kernel
theorem dX6_stitchAt_1 : decode cX6_stitchAt 1 = .ok (.aload_n 0, 1) := by decide +kernel
theorem dX6_stitchAt_2 : decode cX6_stitchAt 2 = .ok (.getfield 117, 3) := by decide +kernel
theorem dX6_stitchAt_5 : decode cX6_stitchAt 5 = .ok (.if_icmp .lt 5, 3) := by decide +kernel
theorem dX6_stitchAt_8 : decode cX6_stitchAt 8 = .ok (.iconst 0, 1) := by decide +kernel
theorem dX6_stitchAt_9 : decode cX6_stitchAt 9 = .ok (.ireturn, 1) := by decide +kernel
theorem dX6_stitchAt_10 : decode cX6_stitchAt 10 = .ok (.iload_n 1, 1) := by decide +kernel
theorem dX6_stitchAt_11 : decode cX6_stitchAt 11 = .ok (.aload_n 0, 1) := by decide +kernel
theorem dX6_stitchAt_12 : decode cX6_stitchAt 12 = .ok (.getfield 22, 3) := by decide +kernel
theorem dX6_stitchAt_15 : decode cX6_stitchAt 15 = .ok (.aload_n 0, 1) := by decide +kernel
theorem dX6_stitchAt_16 : decode cX6_stitchAt 16 = .ok (.getfield 114, 3) := by decide +kernel
theorem dX6_stitchAt_19 : decode cX6_stitchAt 19 = .ok (.iaload, 1) := by decide +kernel
theorem dX6_stitchAt_20 : decode cX6_stitchAt 20 = .ok (.aload_n 0, 1) := by decide +kernel
theorem dX6_stitchAt_21 : decode cX6_stitchAt 21 = .ok (.getfield 25, 3) := by decide +kernel
theorem dX6_stitchAt_24 : decode cX6_stitchAt 24 = .ok (.aload_n 0, 1) := by decide +kernel
theorem dX6_stitchAt_25 : decode cX6_stitchAt 25 = .ok (.getfield 114, 3) := by decide +kernel
theorem dX6_stitchAt_28 : decode cX6_stitchAt 28 = .ok (.iaload, 1) := by decide +kernel
theorem dX6_stitchAt_29 : decode cX6_stitchAt 29 = .ok (.iadd, 1) := by decide +kernel
theorem dX6_stitchAt_30 : decode cX6_stitchAt 30 = .ok (.irem, 1) := by decide +kernel
theorem dX6_stitchAt_31 : decode cX6_stitchAt 31 = .ok (.aload_n 0, 1) := by decide +kernel
theorem dX6_stitchAt_32 : decode cX6_stitchAt 32 = .ok (.getfield 22, 3) := by decide +kernel
theorem dX6_stitchAt_35 : decode cX6_stitchAt 35 = .ok (.aload_n 0, 1) := by decide +kernel
theorem dX6_stitchAt_36 : decode cX6_stitchAt 36 = .ok (.getfield 114, 3) := by decide +kernel
theorem dX6_stitchAt_39 : decode cX6_stitchAt 39 = .ok (.iaload, 1) := by decide +kernel
theorem dX6_stitchAt_40 : decode cX6_stitchAt 40 = .ok (.if_icmp .ge 7, 3) := by decide +kernel
theorem dX6_stitchAt_43 : decode cX6_stitchAt 43 = .ok (.iconst 1, 1) := by decide +kernel
theorem dX6_stitchAt_44 : decode cX6_stitchAt 44 = .ok (.goto 4, 3) := by decide +kernel
theorem dX6_stitchAt_47 : decode cX6_stitchAt 47 = .ok (.iconst 2, 1) := by decide +kernel
theorem dX6_stitchAt_48 : decode cX6_stitchAt 48 = .ok (.ireturn, 1) := by decide +kernel
set_option maxRecDepth 20000 in
theorem ggX6_stitchOf_X6_goTo : GoodIn wsX6_stitchOf wsX6_goTo := goodIn_r _ [5, 6, 7, 8, 9, 10, 17, 18, 19, 20, 21, 22, 23, 24, 25, 26, 27, 28, 29, 30, 31, 32, 33, 34, 35, 36, 37, 38, 39, 40, 41, 42] (by decide +kernel) (by decide +kernel)
set_option maxRecDepth 20000 in
theorem gX6_stitchOf_X6_goTo : GoodIn wsX6_stitchOf (wsV RX6 120 RX6 yX6_goTo wsX6_goTo) := goodIn_app (goodIn_of _ (by decide +kernel)) ggX6_stitchOf_X6_goTo
set_option maxRecDepth 20000 in
theorem ggX6_stitchOf_X6_stitchAt : GoodIn wsX6_stitchOf wsX6_stitchAt := goodIn_r _ [14, 8, 15, 6, 16, 17, 18, 19, 20, 21, 22, 23, 24, 25, 26, 27, 28, 29, 30, 31, 32, 33, 34, 35, 36, 37, 38, 39, 40, 41, 42] (by decide +kernel) (by decide +kernel)
set_option maxRecDepth 20000 in
theorem gX6_stitchOf_X6_stitchAt : GoodIn wsX6_stitchOf (wsV RX6 124 RX6 yX6_stitchAt wsX6_stitchAt) := goodIn_app (goodIn_of _ (by decide +kernel)) ggX6_stitchOf_X6_stitchAt
theorem dX6_stitchOf_0 : decode cX6_stitchOf 0 = .ok (.aload_n 0, 1) := by decide +kernel
theorem dX6_stitchOf_1 : decode cX6_stitchOf 1 = .ok (.iload_n 1, 1) := by decide +kernel
theorem dX6_stitchOf_2 : decode cX6_stitchOf 2 = .ok (.iload_n 2, 1) := by decide +kernel
theorem dX6_stitchOf_3 : decode cX6_stitchOf 3 = .ok (.invokevirtual 120, 3) := by decide +kernel
theorem dX6_stitchOf_6 : decode cX6_stitchOf 6 = .ok (.aload_n 0, 1) := by decide +kernel
theorem dX6_stitchOf_7 : decode cX6_stitchOf 7 = .ok (.iload_n 3, 1) := by decide +kernel
theorem dX6_stitchOf_8 : decode cX6_stitchOf 8 = .ok (.invokevirtual 124, 3) := by decide +kernel
theorem dX6_stitchOf_11 : decode cX6_stitchOf 11 = .ok (.ireturn, 1) := by decide +kernel
set_option maxRecDepth 20000 in
theorem ggX6_areAlike_X6_rowsOf : GoodIn wsX6_areAlike wsX6_rowsOf := goodIn_r _ [5, 6, 7, 26, 27, 28, 29, 30, 31, 32, 33, 34, 35, 36, 37, 38, 39, 40, 41, 42, 43, 44, 45, 46, 47, 48, 49, 50, 51] (by decide +kernel) (by decide +kernel)
set_option maxRecDepth 20000 in
theorem gX6_areAlike_X6_rowsOf : GoodIn wsX6_areAlike (wsV RX6 102 RX6 yX6_rowsOf wsX6_rowsOf) := goodIn_app (goodIn_of _ (by decide +kernel)) ggX6_areAlike_X6_rowsOf
set_option maxRecDepth 20000 in
theorem ggX6_areAlike_X6_stitchOf : GoodIn wsX6_areAlike wsX6_stitchOf := goodIn_r _ [11, 12, 13, 14, 4, 15, 16, 17, 18, 7, 19, 20, 21, 22, 23, 24, 25, 26, 27, 28, 29, 30, 31, 32, 33, 34, 35, 36, 37, 38, 39, 40, 41, 42, 43, 44, 45, 46, 47, 48, 49, 50, 51] (by decide +kernel) (by decide +kernel)
set_option maxRecDepth 20000 in
theorem gX6_areAlike_X6_stitchOf : GoodIn wsX6_areAlike (wsV RX6 127 RX6 yX6_stitchOf wsX6_stitchOf) := goodIn_app (goodIn_of _ (by decide +kernel)) ggX6_areAlike_X6_stitchOf
theorem dX6_areAlike_0 : decode cX6_areAlike 0 = .ok (.aload_n 0, 1) := by decide +kernel
theorem dX6_areAlike_1 : decode cX6_areAlike 1 = .ok (.iload_n 1, 1) := by decide +kernel
theorem dX6_areAlike_2 : decode cX6_areAlike 2 = .ok (.invokevirtual 102, 3) := by decide +kernel
theorem dX6_areAlike_5 : decode cX6_areAlike 5 = .ok (.aload_n 0, 1) := by decide +kernel
theorem dX6_areAlike_6 : decode cX6_areAlike 6 = .ok (.iload_n 2, 1) := by decide +kernel
theorem dX6_areAlike_7 : decode cX6_areAlike 7 = .ok (.invokevirtual 102, 3) := by decide +kernel
theorem dX6_areAlike_10 : decode cX6_areAlike 10 = .ok (.if_icmp .ne 7, 3) := by decide +kernel
theorem dX6_areAlike_13 : decode cX6_areAlike 13 = .ok (.iconst 1, 1) := by decide +kernel
theorem dX6_areAlike_14 : decode cX6_areAlike 14 = .ok (.goto 4, 3) := by decide +kernel
theorem dX6_areAlike_17 : decode cX6_areAlike 17 = .ok (.iconst 0, 1) := by decide +kernel
theorem dX6_areAlike_18 : decode cX6_areAlike 18 = .ok (.istore_n 3, 1) := by decide +kernel
theorem dX6_areAlike_19 : decode cX6_areAlike 19 = .ok (.iconst 0, 1) := by decide +kernel
theorem dX6_areAlike_20 : decode cX6_areAlike 20 = .ok (.istore 4, 2) := by decide +kernel
theorem dX6_areAlike_22 : decode cX6_areAlike 22 = .ok (.iload_n 3, 1) := by decide +kernel
theorem dX6_areAlike_23 : decode cX6_areAlike 23 = .ok (.ifCond .eq 66, 3) := by decide +kernel
theorem dX6_areAlike_26 : decode cX6_areAlike 26 = .ok (.iload 4, 2) := by decide +kernel
theorem dX6_areAlike_28 : decode cX6_areAlike 28 = .ok (.aload_n 0, 1) := by decide +kernel
theorem dX6_areAlike_29 : decode cX6_areAlike 29 = .ok (.iload_n 1, 1) := by decide +kernel
theorem dX6_areAlike_30 : decode cX6_areAlike 30 = .ok (.invokevirtual 102, 3) := by decide +kernel
theorem dX6_areAlike_33 : decode cX6_areAlike 33 = .ok (.if_icmp .ge 56, 3) := by decide +kernel
theorem dX6_areAlike_36 : decode cX6_areAlike 36 = .ok (.iconst 0, 1) := by decide +kernel
theorem dX6_areAlike_37 : decode cX6_areAlike 37 = .ok (.istore 5, 2) := by decide +kernel
theorem dX6_areAlike_39 : decode cX6_areAlike 39 = .ok (.iload_n 3, 1) := by decide +kernel
theorem dX6_areAlike_40 : decode cX6_areAlike 40 = .ok (.ifCond .eq 43, 3) := by decide +kernel
theorem dX6_areAlike_43 : decode cX6_areAlike 43 = .ok (.iload 5, 2) := by decide +kernel
theorem dX6_areAlike_45 : decode cX6_areAlike 45 = .ok (.bipush 40, 2) := by decide +kernel
theorem dX6_areAlike_47 : decode cX6_areAlike 47 = .ok (.if_icmp .ge 36, 3) := by decide +kernel
theorem dX6_areAlike_50 : decode cX6_areAlike 50 = .ok (.aload_n 0, 1) := by decide +kernel
theorem dX6_areAlike_51 : decode cX6_areAlike 51 = .ok (.iload_n 1, 1) := by decide +kernel
theorem dX6_areAlike_52 : decode cX6_areAlike 52 = .ok (.iload 4, 2) := by decide +kernel
theorem dX6_areAlike_54 : decode cX6_areAlike 54 = .ok (.iload 5, 2) := by decide +kernel
theorem dX6_areAlike_56 : decode cX6_areAlike 56 = .ok (.invokevirtual 127, 3) := by decide +kernel
theorem dX6_areAlike_59 : decode cX6_areAlike 59 = .ok (.aload_n 0, 1) := by decide +kernel
theorem dX6_areAlike_60 : decode cX6_areAlike 60 = .ok (.iload_n 2, 1) := by decide +kernel
theorem dX6_areAlike_61 : decode cX6_areAlike 61 = .ok (.iload 4, 2) := by decide +kernel
theorem dX6_areAlike_63 : decode cX6_areAlike 63 = .ok (.iload 5, 2) := by decide +kernel
theorem dX6_areAlike_65 : decode cX6_areAlike 65 = .ok (.invokevirtual 127, 3) := by decide +kernel
theorem dX6_areAlike_68 : decode cX6_areAlike 68 = .ok (.if_icmp .ne 7, 3) := by decide +kernel
theorem dX6_areAlike_71 : decode cX6_areAlike 71 = .ok (.iconst 1, 1) := by decide +kernel
theorem dX6_areAlike_72 : decode cX6_areAlike 72 = .ok (.goto 4, 3) := by decide +kernel
theorem dX6_areAlike_75 : decode cX6_areAlike 75 = .ok (.iconst 0, 1) := by decide +kernel
theorem dX6_areAlike_76 : decode cX6_areAlike 76 = .ok (.istore_n 3, 1) := by decide +kernel
theorem dX6_areAlike_77 : decode cX6_areAlike 77 = .ok (.iinc 5 1, 3) := by decide +kernel
theorem dX6_areAlike_80 : decode cX6_areAlike 80 = .ok (.goto (-41), 3) := by decide +kernel
theorem dX6_areAlike_83 : decode cX6_areAlike 83 = .ok (.iinc 4 1, 3) := by decide +kernel
theorem dX6_areAlike_86 : decode cX6_areAlike 86 = .ok (.goto (-64), 3) := by decide +kernel
theorem dX6_areAlike_89 : decode cX6_areAlike 89 = .ok (.iload_n 3, 1) := by decide +kernel
theorem dX6_areAlike_90 : decode cX6_areAlike 90 = .ok (.ireturn, 1) := by decide +kernel
set_option maxRecDepth 20000 in
theorem ggX6_originalOf_X6_areAlike : GoodIn wsX6_originalOf wsX6_areAlike := goodIn_r _ [7, 8, 9, 10, 6, 11, 12, 13, 14, 15, 16, 17, 18, 19, 20, 21, 22, 23, 24, 25, 26, 27, 28, 29, 30, 31, 32, 33, 34, 35, 36, 37, 38, 39, 40, 41, 42, 43, 44, 45, 46, 47, 48, 49, 50, 51, 52, 53, 54, 55, 56, 57] (by decide +kernel) (by decide +kernel)
set_option maxRecDepth 20000 in
theorem gX6_originalOf_X6_areAlike : GoodIn wsX6_originalOf (wsV RX6 130 RX6 yX6_areAlike wsX6_areAlike) := goodIn_app (goodIn_of _ (by decide +kernel)) ggX6_originalOf_X6_areAlike
theorem dX6_originalOf_0 : decode cX6_originalOf 0 = .ok (.iload_n 1, 1) := by decide +kernel
theorem dX6_originalOf_1 : decode cX6_originalOf 1 = .ok (.istore_n 2, 1) := by decide +kernel
theorem dX6_originalOf_2 : decode cX6_originalOf 2 = .ok (.iconst 0, 1) := by decide +kernel
theorem dX6_originalOf_3 : decode cX6_originalOf 3 = .ok (.istore_n 3, 1) := by decide +kernel
theorem dX6_originalOf_4 : decode cX6_originalOf 4 = .ok (.iload_n 3, 1) := by decide +kernel
theorem dX6_originalOf_5 : decode cX6_originalOf 5 = .ok (.aload_n 0, 1) := by decide +kernel
theorem dX6_originalOf_6 : decode cX6_originalOf 6 = .ok (.getfield 76, 3) := by decide +kernel
theorem dX6_originalOf_9 : decode cX6_originalOf 9 = .ok (.if_icmp .ge 39, 3) := by decide +kernel
theorem dX6_originalOf_12 : decode cX6_originalOf 12 = .ok (.aload_n 0, 1) := by decide +kernel
theorem dX6_originalOf_13 : decode cX6_originalOf 13 = .ok (.getfield 34, 3) := by decide +kernel
theorem dX6_originalOf_16 : decode cX6_originalOf 16 = .ok (.iload_n 3, 1) := by decide +kernel
theorem dX6_originalOf_17 : decode cX6_originalOf 17 = .ok (.iaload, 1) := by decide +kernel
theorem dX6_originalOf_18 : decode cX6_originalOf 18 = .ok (.aload_n 0, 1) := by decide +kernel
theorem dX6_originalOf_19 : decode cX6_originalOf 19 = .ok (.getfield 34, 3) := by decide +kernel
theorem dX6_originalOf_22 : decode cX6_originalOf 22 = .ok (.iload_n 2, 1) := by decide +kernel
theorem dX6_originalOf_23 : decode cX6_originalOf 23 = .ok (.iaload, 1) := by decide +kernel
theorem dX6_originalOf_24 : decode cX6_originalOf 24 = .ok (.if_icmp .ge 16, 3) := by decide +kernel
theorem dX6_originalOf_27 : decode cX6_originalOf 27 = .ok (.aload_n 0, 1) := by decide +kernel
theorem dX6_originalOf_28 : decode cX6_originalOf 28 = .ok (.iload_n 3, 1) := by decide +kernel
theorem dX6_originalOf_29 : decode cX6_originalOf 29 = .ok (.iload_n 1, 1) := by decide +kernel
theorem dX6_originalOf_30 : decode cX6_originalOf 30 = .ok (.invokevirtual 130, 3) := by decide +kernel
theorem dX6_originalOf_33 : decode cX6_originalOf 33 = .ok (.ifCond .eq 7, 3) := by decide +kernel
theorem dX6_originalOf_36 : decode cX6_originalOf 36 = .ok (.iload_n 3, 1) := by decide +kernel
theorem dX6_originalOf_37 : decode cX6_originalOf 37 = .ok (.goto 4, 3) := by decide +kernel
theorem dX6_originalOf_40 : decode cX6_originalOf 40 = .ok (.iload_n 2, 1) := by decide +kernel
theorem dX6_originalOf_41 : decode cX6_originalOf 41 = .ok (.istore_n 2, 1) := by decide +kernel
theorem dX6_originalOf_42 : decode cX6_originalOf 42 = .ok (.iinc 3 1, 3) := by decide +kernel
theorem dX6_originalOf_45 : decode cX6_originalOf 45 = .ok (.goto (-41), 3) := by decide +kernel
theorem dX6_originalOf_48 : decode cX6_originalOf 48 = .ok (.iload_n 2, 1) := by decide +kernel
theorem dX6_originalOf_49 : decode cX6_originalOf 49 = .ok (.ireturn, 1) := by decide +kernel
set_option maxRecDepth 20000 in
theorem ggX6_publish_X6_isPattern : GoodIn wsX6_publish wsX6_isPattern := goodIn_r _ [8, 9, 10, 11, 7, 12, 53, 54, 55, 56, 57, 58, 59, 60, 61, 62, 63, 64, 65, 66, 67, 68, 69, 70, 71, 72, 73, 74, 75, 76, 77, 78] (by decide +kernel) (by decide +kernel)
set_option maxRecDepth 20000 in
theorem gX6_publish_X6_isPattern : GoodIn wsX6_publish (wsV RX6 96 RX6 yX6_isPattern wsX6_isPattern) := goodIn_app (goodIn_of _ (by decide +kernel)) ggX6_publish_X6_isPattern
set_option maxRecDepth 20000 in
theorem ggX6_publish_X6_isPublished : GoodIn wsX6_publish wsX6_isPublished := goodIn_r _ [16, 2, 53, 54, 55, 56, 57, 58, 59, 60, 61, 62, 63, 64, 65, 66, 67, 68, 69, 70, 71, 72, 73, 74, 75, 76, 77, 78] (by decide +kernel) (by decide +kernel)
set_option maxRecDepth 20000 in
theorem gX6_publish_X6_isPublished : GoodIn wsX6_publish (wsV RX6 99 RX6 yX6_isPublished wsX6_isPublished) := goodIn_app (goodIn_of _ (by decide +kernel)) ggX6_publish_X6_isPublished
set_option maxRecDepth 20000 in
theorem ggX6_publish_X6_refused : GoodIn wsX6_publish wsX6_refused := goodIn_r _ [20, 21, 53, 54, 55, 56, 57, 58, 59, 60, 61, 62, 63, 64, 65, 66, 67, 68, 69, 70, 71, 72, 73, 74, 75, 76, 77, 78] (by decide +kernel) (by decide +kernel)
set_option maxRecDepth 20000 in
theorem gX6_publish_X6_refused : GoodIn wsX6_publish (wsV RX6 89 RX6 yX6_refused wsX6_refused) := goodIn_app (goodIn_of _ (by decide +kernel)) ggX6_publish_X6_refused
set_option maxRecDepth 20000 in
theorem ggX6_publish_X6_originalOf : GoodIn wsX6_publish wsX6_originalOf := goodIn_r _ [25, 9, 2, 26, 27, 28, 7, 29, 30, 31, 32, 33, 1, 34, 35, 36, 37, 38, 39, 40, 41, 42, 43, 44, 45, 46, 47, 48, 49, 50, 51, 52, 53, 54, 55, 56, 57, 58, 59, 60, 61, 62, 63, 64, 65, 66, 67, 68, 69, 70, 71, 72, 73, 74, 75, 76, 77, 78] (by decide +kernel) (by decide +kernel)
set_option maxRecDepth 20000 in
theorem gX6_publish_X6_originalOf : GoodIn wsX6_publish (wsV RX6 137 RX6 yX6_originalOf wsX6_originalOf) := goodIn_app (goodIn_of _ (by decide +kernel)) ggX6_publish_X6_originalOf
theorem dX6_publish_0 : decode cX6_publish 0 = .ok (.aload_n 0, 1) := by decide +kernel
theorem dX6_publish_1 : decode cX6_publish 1 = .ok (.iload_n 1, 1) := by decide +kernel
theorem dX6_publish_2 : decode cX6_publish 2 = .ok (.invokevirtual 96, 3) := by decide +kernel
theorem dX6_publish_5 : decode cX6_publish 5 = .ok (.ifCond .eq 24, 3) := by decide +kernel
theorem dX6_publish_8 : decode cX6_publish 8 = .ok (.aload_n 0, 1) := by decide +kernel
theorem dX6_publish_9 : decode cX6_publish 9 = .ok (.iload_n 1, 1) := by decide +kernel
theorem dX6_publish_10 : decode cX6_publish 10 = .ok (.invokevirtual 99, 3) := by decide +kernel
theorem dX6_publish_13 : decode cX6_publish 13 = .ok (.ifCond .ne 16, 3) := by decide +kernel
theorem dX6_publish_16 : decode cX6_publish 16 = .ok (.aload_n 0, 1) := by decide +kernel
theorem dX6_publish_17 : decode cX6_publish 17 = .ok (.getfield 19, 3) := by decide +kernel
theorem dX6_publish_20 : decode cX6_publish 20 = .ok (.iload_n 1, 1) := by decide +kernel
theorem dX6_publish_21 : decode cX6_publish 21 = .ok (.iaload, 1) := by decide +kernel
theorem dX6_publish_22 : decode cX6_publish 22 = .ok (.ifCond .le 7, 3) := by decide +kernel
theorem dX6_publish_25 : decode cX6_publish 25 = .ok (.iconst 1, 1) := by decide +kernel
theorem dX6_publish_26 : decode cX6_publish 26 = .ok (.goto 4, 3) := by decide +kernel
theorem dX6_publish_29 : decode cX6_publish 29 = .ok (.iconst 0, 1) := by decide +kernel
theorem dX6_publish_30 : decode cX6_publish 30 = .ok (.istore_n 2, 1) := by decide +kernel
theorem dX6_publish_31 : decode cX6_publish 31 = .ok (.aload_n 0, 1) := by decide +kernel
theorem dX6_publish_32 : decode cX6_publish 32 = .ok (.aload_n 0, 1) := by decide +kernel
theorem dX6_publish_33 : decode cX6_publish 33 = .ok (.iload_n 1, 1) := by decide +kernel
theorem dX6_publish_34 : decode cX6_publish 34 = .ok (.invokevirtual 96, 3) := by decide +kernel
theorem dX6_publish_37 : decode cX6_publish 37 = .ok (.ifCond .ne 7, 3) := by decide +kernel
theorem dX6_publish_40 : decode cX6_publish 40 = .ok (.iconst 1, 1) := by decide +kernel
theorem dX6_publish_41 : decode cX6_publish 41 = .ok (.goto 12, 3) := by decide +kernel
theorem dX6_publish_44 : decode cX6_publish 44 = .ok (.iload_n 2, 1) := by decide +kernel
theorem dX6_publish_45 : decode cX6_publish 45 = .ok (.ifCond .eq 7, 3) := by decide +kernel
theorem dX6_publish_48 : decode cX6_publish 48 = .ok (.iconst 0, 1) := by decide +kernel
theorem dX6_publish_49 : decode cX6_publish 49 = .ok (.goto 4, 3) := by decide +kernel
theorem dX6_publish_52 : decode cX6_publish 52 = .ok (.iconst 2, 1) := by decide +kernel
theorem dX6_publish_53 : decode cX6_publish 53 = .ok (.invokevirtual 89, 3) := by decide +kernel
theorem dX6_publish_56 : decode cX6_publish 56 = .ok (.ifCond .eq 5, 3) := by decide +kernel
theorem dX6_publish_59 : decode cX6_publish 59 = .ok (.iconst 0, 1) := by decide +kernel
theorem dX6_publish_60 : decode cX6_publish 60 = .ok (.ireturn, 1) := by decide +kernel
theorem dX6_publish_61 : decode cX6_publish 61 = .ok (.aload_n 0, 1) := by decide +kernel
theorem dX6_publish_62 : decode cX6_publish 62 = .ok (.getfield 34, 3) := by decide +kernel
theorem dX6_publish_65 : decode cX6_publish 65 = .ok (.iload_n 1, 1) := by decide +kernel
theorem dX6_publish_66 : decode cX6_publish 66 = .ok (.aload_n 0, 1) := by decide +kernel
theorem dX6_publish_67 : decode cX6_publish 67 = .ok (.getfield 134, 3) := by decide +kernel
theorem dX6_publish_70 : decode cX6_publish 70 = .ok (.iastore, 1) := by decide +kernel
theorem dX6_publish_71 : decode cX6_publish 71 = .ok (.aload_n 0, 1) := by decide +kernel
theorem dX6_publish_72 : decode cX6_publish 72 = .ok (.dup, 1) := by decide +kernel
theorem dX6_publish_73 : decode cX6_publish 73 = .ok (.getfield 134, 3) := by decide +kernel
theorem dX6_publish_76 : decode cX6_publish 76 = .ok (.iconst 1, 1) := by decide +kernel
theorem dX6_publish_77 : decode cX6_publish 77 = .ok (.iadd, 1) := by decide +kernel
theorem dX6_publish_78 : decode cX6_publish 78 = .ok (.putfield 134, 3) := by decide +kernel
theorem dX6_publish_81 : decode cX6_publish 81 = .ok (.aload_n 0, 1) := by decide +kernel
theorem dX6_publish_82 : decode cX6_publish 82 = .ok (.iload_n 1, 1) := by decide +kernel
theorem dX6_publish_83 : decode cX6_publish 83 = .ok (.invokevirtual 137, 3) := by decide +kernel
theorem dX6_publish_86 : decode cX6_publish 86 = .ok (.ireturn, 1) := by decide +kernel
set_option maxRecDepth 20000 in
theorem ggX6_noPattern_X6_isPattern : GoodIn wsX6_noPattern wsX6_isPattern := goodIn_r _ [5, 6, 7, 8, 4, 9, 15, 16, 17, 18, 19, 20, 21, 22, 23, 24, 25, 26, 27, 28, 29, 30, 31, 32, 33, 34, 35, 36, 37, 38, 39, 40] (by decide +kernel) (by decide +kernel)
set_option maxRecDepth 20000 in
theorem gX6_noPattern_X6_isPattern : GoodIn wsX6_noPattern (wsV RX6 96 RX6 yX6_isPattern wsX6_isPattern) := goodIn_app (goodIn_of _ (by decide +kernel)) ggX6_noPattern_X6_isPattern
set_option maxRecDepth 20000 in
theorem ggX6_noPattern_X6_refused : GoodIn wsX6_noPattern wsX6_refused := goodIn_r _ [13, 14, 15, 16, 17, 18, 19, 20, 21, 22, 23, 24, 25, 26, 27, 28, 29, 30, 31, 32, 33, 34, 35, 36, 37, 38, 39, 40] (by decide +kernel) (by decide +kernel)
set_option maxRecDepth 20000 in
theorem gX6_noPattern_X6_refused : GoodIn wsX6_noPattern (wsV RX6 89 RX6 yX6_refused wsX6_refused) := goodIn_app (goodIn_of _ (by decide +kernel)) ggX6_noPattern_X6_refused
theorem dX6_noPattern_0 : decode cX6_noPattern 0 = .ok (.aload_n 0, 1) := by decide +kernel
theorem dX6_noPattern_1 : decode cX6_noPattern 1 = .ok (.aload_n 0, 1) := by decide +kernel
theorem dX6_noPattern_2 : decode cX6_noPattern 2 = .ok (.iload_n 1, 1) := by decide +kernel
theorem dX6_noPattern_3 : decode cX6_noPattern 3 = .ok (.invokevirtual 96, 3) := by decide +kernel
theorem dX6_noPattern_6 : decode cX6_noPattern 6 = .ok (.ifCond .eq 7, 3) := by decide +kernel
theorem dX6_noPattern_9 : decode cX6_noPattern 9 = .ok (.iconst 0, 1) := by decide +kernel
theorem dX6_noPattern_10 : decode cX6_noPattern 10 = .ok (.goto 4, 3) := by decide +kernel
theorem dX6_noPattern_13 : decode cX6_noPattern 13 = .ok (.iconst 1, 1) := by decide +kernel
theorem dX6_noPattern_14 : decode cX6_noPattern 14 = .ok (.invokevirtual 89, 3) := by decide +kernel
theorem dX6_noPattern_17 : decode cX6_noPattern 17 = .ok (.ireturn, 1) := by decide +kernel
set_option maxRecDepth 20000 in
theorem ggX6_original_X6_noPattern : GoodIn wsX6_original wsX6_noPattern := goodIn_r _ [5, 6, 7, 8, 4, 9, 10, 11, 12, 13, 14, 15, 16, 17, 18, 56, 57, 58, 59, 60, 61, 62, 63, 64, 65, 66, 67, 68, 69, 70, 71, 72, 73, 74, 75, 76, 77, 78, 79, 80, 81] (by decide +kernel) (by decide +kernel)
set_option maxRecDepth 20000 in
theorem gX6_original_X6_noPattern : GoodIn wsX6_original (wsV RX6 140 RX6 yX6_noPattern wsX6_noPattern) := goodIn_app (goodIn_of _ (by decide +kernel)) ggX6_original_X6_noPattern
set_option maxRecDepth 20000 in
theorem ggX6_original_X6_isPublished : GoodIn wsX6_original wsX6_isPublished := goodIn_r _ [22, 23, 56, 57, 58, 59, 60, 61, 62, 63, 64, 65, 66, 67, 68, 69, 70, 71, 72, 73, 74, 75, 76, 77, 78, 79, 80, 81] (by decide +kernel) (by decide +kernel)
set_option maxRecDepth 20000 in
theorem gX6_original_X6_isPublished : GoodIn wsX6_original (wsV RX6 99 RX6 yX6_isPublished wsX6_isPublished) := goodIn_app (goodIn_of _ (by decide +kernel)) ggX6_original_X6_isPublished
set_option maxRecDepth 20000 in
theorem ggX6_original_X6_originalOf : GoodIn wsX6_original wsX6_originalOf := goodIn_r _ [27, 10, 23, 28, 29, 30, 4, 31, 32, 33, 34, 35, 36, 37, 38, 39, 40, 41, 42, 43, 44, 45, 46, 47, 48, 49, 50, 51, 52, 53, 54, 55, 56, 57, 58, 59, 60, 61, 62, 63, 64, 65, 66, 67, 68, 69, 70, 71, 72, 73, 74, 75, 76, 77, 78, 79, 80, 81] (by decide +kernel) (by decide +kernel)
set_option maxRecDepth 20000 in
theorem gX6_original_X6_originalOf : GoodIn wsX6_original (wsV RX6 137 RX6 yX6_originalOf wsX6_originalOf) := goodIn_app (goodIn_of _ (by decide +kernel)) ggX6_original_X6_originalOf
theorem dX6_original_0 : decode cX6_original 0 = .ok (.aload_n 0, 1) := by decide +kernel
theorem dX6_original_1 : decode cX6_original 1 = .ok (.iload_n 1, 1) := by decide +kernel
theorem dX6_original_2 : decode cX6_original 2 = .ok (.invokevirtual 140, 3) := by decide +kernel
theorem dX6_original_5 : decode cX6_original 5 = .ok (.ifCond .eq 7, 3) := by decide +kernel
theorem dX6_original_8 : decode cX6_original 8 = .ok (.iconst 0, 1) := by decide +kernel
theorem dX6_original_9 : decode cX6_original 9 = .ok (.goto 20, 3) := by decide +kernel
theorem dX6_original_12 : decode cX6_original 12 = .ok (.aload_n 0, 1) := by decide +kernel
theorem dX6_original_13 : decode cX6_original 13 = .ok (.iload_n 1, 1) := by decide +kernel
theorem dX6_original_14 : decode cX6_original 14 = .ok (.invokevirtual 99, 3) := by decide +kernel
theorem dX6_original_17 : decode cX6_original 17 = .ok (.ifCond .eq 11, 3) := by decide +kernel
theorem dX6_original_20 : decode cX6_original 20 = .ok (.aload_n 0, 1) := by decide +kernel
theorem dX6_original_21 : decode cX6_original 21 = .ok (.iload_n 1, 1) := by decide +kernel
theorem dX6_original_22 : decode cX6_original 22 = .ok (.invokevirtual 137, 3) := by decide +kernel
theorem dX6_original_25 : decode cX6_original 25 = .ok (.goto 4, 3) := by decide +kernel
theorem dX6_original_28 : decode cX6_original 28 = .ok (.iconst (-1), 1) := by decide +kernel
theorem dX6_original_29 : decode cX6_original 29 = .ok (.ireturn, 1) := by decide +kernel
set_option maxRecDepth 20000 in
theorem ggX6_rows_X6_noPattern : GoodIn wsX6_rows wsX6_noPattern := goodIn_r _ [5, 6, 7, 8, 4, 9, 10, 11, 12, 13, 14, 15, 16, 17, 18, 25, 26, 27, 28, 29, 30, 31, 32, 33, 34, 35, 36, 37, 38, 39, 40, 41, 42, 43, 44, 45, 46, 47, 48, 49, 50] (by decide +kernel) (by decide +kernel)
set_option maxRecDepth 20000 in
theorem gX6_rows_X6_noPattern : GoodIn wsX6_rows (wsV RX6 140 RX6 yX6_noPattern wsX6_noPattern) := goodIn_app (goodIn_of _ (by decide +kernel)) ggX6_rows_X6_noPattern
set_option maxRecDepth 20000 in
theorem ggX6_rows_X6_rowsOf : GoodIn wsX6_rows wsX6_rowsOf := goodIn_r _ [22, 23, 24, 25, 26, 27, 28, 29, 30, 31, 32, 33, 34, 35, 36, 37, 38, 39, 40, 41, 42, 43, 44, 45, 46, 47, 48, 49, 50] (by decide +kernel) (by decide +kernel)
set_option maxRecDepth 20000 in
theorem gX6_rows_X6_rowsOf : GoodIn wsX6_rows (wsV RX6 102 RX6 yX6_rowsOf wsX6_rowsOf) := goodIn_app (goodIn_of _ (by decide +kernel)) ggX6_rows_X6_rowsOf
theorem dX6_rows_0 : decode cX6_rows 0 = .ok (.aload_n 0, 1) := by decide +kernel
theorem dX6_rows_1 : decode cX6_rows 1 = .ok (.iload_n 1, 1) := by decide +kernel
theorem dX6_rows_2 : decode cX6_rows 2 = .ok (.invokevirtual 140, 3) := by decide +kernel
theorem dX6_rows_5 : decode cX6_rows 5 = .ok (.ifCond .eq 7, 3) := by decide +kernel
theorem dX6_rows_8 : decode cX6_rows 8 = .ok (.iconst 0, 1) := by decide +kernel
theorem dX6_rows_9 : decode cX6_rows 9 = .ok (.goto 8, 3) := by decide +kernel
theorem dX6_rows_12 : decode cX6_rows 12 = .ok (.aload_n 0, 1) := by decide +kernel
theorem dX6_rows_13 : decode cX6_rows 13 = .ok (.iload_n 1, 1) := by decide +kernel
theorem dX6_rows_14 : decode cX6_rows 14 = .ok (.invokevirtual 102, 3) := by decide +kernel
theorem dX6_rows_17 : decode cX6_rows 17 = .ok (.ireturn, 1) := by decide +kernel
set_option maxRecDepth 20000 in
theorem ggX6_stitch_X6_isPattern : GoodIn wsX6_stitch wsX6_isPattern := goodIn_r _ [5, 6, 7, 8, 4, 9, 39, 40, 41, 42, 43, 44, 45, 46, 47, 48, 49, 50, 51, 52, 53, 54, 55, 56, 57, 58, 59, 60, 61, 62, 63, 64] (by decide +kernel) (by decide +kernel)
set_option maxRecDepth 20000 in
theorem gX6_stitch_X6_isPattern : GoodIn wsX6_stitch (wsV RX6 96 RX6 yX6_isPattern wsX6_isPattern) := goodIn_app (goodIn_of _ (by decide +kernel)) ggX6_stitch_X6_isPattern
set_option maxRecDepth 20000 in
theorem ggX6_stitch_X6_rowsOf : GoodIn wsX6_stitch wsX6_rowsOf := goodIn_r _ [13, 14, 15, 39, 40, 41, 42, 43, 44, 45, 46, 47, 48, 49, 50, 51, 52, 53, 54, 55, 56, 57, 58, 59, 60, 61, 62, 63, 64] (by decide +kernel) (by decide +kernel)
set_option maxRecDepth 20000 in
theorem gX6_stitch_X6_rowsOf : GoodIn wsX6_stitch (wsV RX6 102 RX6 yX6_rowsOf wsX6_rowsOf) := goodIn_app (goodIn_of _ (by decide +kernel)) ggX6_stitch_X6_rowsOf
set_option maxRecDepth 20000 in
theorem ggX6_stitch_X6_in : GoodIn wsX6_stitch wsX6_in := goodIn_r _ [9] (by decide +kernel) (by decide +kernel)
set_option maxRecDepth 20000 in
theorem gX6_stitch_X6_in : GoodIn wsX6_stitch (va_wsS RX6 72 yX6_in wsX6_in) := goodIn_app (goodIn_of _ (by decide +kernel)) ggX6_stitch_X6_in
set_option maxRecDepth 20000 in
theorem ggX6_stitch_X6_refused : GoodIn wsX6_stitch wsX6_refused := goodIn_r _ [19, 20, 39, 40, 41, 42, 43, 44, 45, 46, 47, 48, 49, 50, 51, 52, 53, 54, 55, 56, 57, 58, 59, 60, 61, 62, 63, 64] (by decide +kernel) (by decide +kernel)
set_option maxRecDepth 20000 in
theorem gX6_stitch_X6_refused : GoodIn wsX6_stitch (wsV RX6 89 RX6 yX6_refused wsX6_refused) := goodIn_app (goodIn_of _ (by decide +kernel)) ggX6_stitch_X6_refused
set_option maxRecDepth 20000 in
theorem ggX6_stitch_X6_stitchOf : GoodIn wsX6_stitch wsX6_stitchOf := goodIn_r _ [24, 25, 26, 27, 4, 28, 29, 30, 31, 15, 32, 33, 34, 35, 36, 37, 38, 39, 40, 41, 42, 43, 44, 45, 46, 47, 48, 49, 50, 51, 52, 53, 54, 55, 56, 57, 58, 59, 60, 61, 62, 63, 64] (by decide +kernel) (by decide +kernel)
set_option maxRecDepth 20000 in
theorem gX6_stitch_X6_stitchOf : GoodIn wsX6_stitch (wsV RX6 127 RX6 yX6_stitchOf wsX6_stitchOf) := goodIn_app (goodIn_of _ (by decide +kernel)) ggX6_stitch_X6_stitchOf
theorem dX6_stitch_0 : decode cX6_stitch 0 = .ok (.aload_n 0, 1) := by decide +kernel
theorem dX6_stitch_1 : decode cX6_stitch 1 = .ok (.iload_n 1, 1) := by decide +kernel
theorem dX6_stitch_2 : decode cX6_stitch 2 = .ok (.invokevirtual 96, 3) := by decide +kernel
theorem dX6_stitch_5 : decode cX6_stitch 5 = .ok (.ifCond .eq 26, 3) := by decide +kernel
theorem dX6_stitch_8 : decode cX6_stitch 8 = .ok (.iload_n 2, 1) := by decide +kernel
theorem dX6_stitch_9 : decode cX6_stitch 9 = .ok (.iconst 0, 1) := by decide +kernel
theorem dX6_stitch_10 : decode cX6_stitch 10 = .ok (.aload_n 0, 1) := by decide +kernel
theorem dX6_stitch_11 : decode cX6_stitch 11 = .ok (.iload_n 1, 1) := by decide +kernel
theorem dX6_stitch_12 : decode cX6_stitch 12 = .ok (.invokevirtual 102, 3) := by decide +kernel
theorem dX6_stitch_15 : decode cX6_stitch 15 = .ok (.iconst 1, 1) := by decide +kernel
theorem dX6_stitch_16 : decode cX6_stitch 16 = .ok (.isub, 1) := by decide +kernel
theorem dX6_stitch_17 : decode cX6_stitch 17 = .ok (.invokestatic 72, 3) := by decide +kernel
theorem dX6_stitch_20 : decode cX6_stitch 20 = .ok (.ifCond .eq 11, 3) := by decide +kernel
theorem dX6_stitch_23 : decode cX6_stitch 23 = .ok (.iload_n 3, 1) := by decide +kernel
theorem dX6_stitch_24 : decode cX6_stitch 24 = .ok (.ifCond .lt 7, 3) := by decide +kernel
theorem dX6_stitch_27 : decode cX6_stitch 27 = .ok (.iconst 1, 1) := by decide +kernel
theorem dX6_stitch_28 : decode cX6_stitch 28 = .ok (.goto 4, 3) := by decide +kernel
theorem dX6_stitch_31 : decode cX6_stitch 31 = .ok (.iconst 0, 1) := by decide +kernel
theorem dX6_stitch_32 : decode cX6_stitch 32 = .ok (.istore 4, 2) := by decide +kernel
theorem dX6_stitch_34 : decode cX6_stitch 34 = .ok (.aload_n 0, 1) := by decide +kernel
theorem dX6_stitch_35 : decode cX6_stitch 35 = .ok (.iload 4, 2) := by decide +kernel
theorem dX6_stitch_37 : decode cX6_stitch 37 = .ok (.ifCond .eq 7, 3) := by decide +kernel
theorem dX6_stitch_40 : decode cX6_stitch 40 = .ok (.iconst 0, 1) := by decide +kernel
theorem dX6_stitch_41 : decode cX6_stitch 41 = .ok (.goto 4, 3) := by decide +kernel
theorem dX6_stitch_44 : decode cX6_stitch 44 = .ok (.iconst 1, 1) := by decide +kernel
theorem dX6_stitch_45 : decode cX6_stitch 45 = .ok (.invokevirtual 89, 3) := by decide +kernel
theorem dX6_stitch_48 : decode cX6_stitch 48 = .ok (.ifCond .eq 7, 3) := by decide +kernel
theorem dX6_stitch_51 : decode cX6_stitch 51 = .ok (.iconst 0, 1) := by decide +kernel
theorem dX6_stitch_52 : decode cX6_stitch 52 = .ok (.goto 10, 3) := by decide +kernel
theorem dX6_stitch_55 : decode cX6_stitch 55 = .ok (.aload_n 0, 1) := by decide +kernel
theorem dX6_stitch_56 : decode cX6_stitch 56 = .ok (.iload_n 1, 1) := by decide +kernel
theorem dX6_stitch_57 : decode cX6_stitch 57 = .ok (.iload_n 2, 1) := by decide +kernel
theorem dX6_stitch_58 : decode cX6_stitch 58 = .ok (.iload_n 3, 1) := by decide +kernel
theorem dX6_stitch_59 : decode cX6_stitch 59 = .ok (.invokevirtual 127, 3) := by decide +kernel
theorem dX6_stitch_62 : decode cX6_stitch 62 = .ok (.ireturn, 1) := by decide +kernel
set_option maxRecDepth 20000 in
theorem ggX6_stitchByWork_X6_stitch : GoodIn wsX6_stitchByWork wsX6_stitch := goodIn_r _ [5, 6, 7, 8, 4, 9, 10, 11, 12, 13, 14, 15, 16, 17, 18, 19, 20, 21, 22, 23, 24, 25, 26, 27, 28, 29, 30, 31, 32, 33, 34, 35, 36, 37, 38, 39, 40, 41, 42, 43, 44, 45, 46, 47, 48, 49, 50, 51, 52, 53, 54, 55, 56, 57, 58, 59, 60, 61, 62, 63, 64, 65, 66, 67, 68] (by decide +kernel) (by decide +kernel)
set_option maxRecDepth 20000 in
theorem gX6_stitchByWork_X6_stitch : GoodIn wsX6_stitchByWork (wsV RX6 143 RX6 yX6_stitch wsX6_stitch) := goodIn_app (goodIn_of _ (by decide +kernel)) ggX6_stitchByWork_X6_stitch
theorem dX6_stitchByWork_0 : decode cX6_stitchByWork 0 = .ok (.aload_n 0, 1) := by decide +kernel
theorem dX6_stitchByWork_1 : decode cX6_stitchByWork 1 = .ok (.iload_n 1, 1) := by decide +kernel
theorem dX6_stitchByWork_2 : decode cX6_stitchByWork 2 = .ok (.iload_n 2, 1) := by decide +kernel
theorem dX6_stitchByWork_3 : decode cX6_stitchByWork 3 = .ok (.iload_n 3, 1) := by decide +kernel
theorem dX6_stitchByWork_4 : decode cX6_stitchByWork 4 = .ok (.invokevirtual 143, 3) := by decide +kernel
theorem dX6_stitchByWork_7 : decode cX6_stitchByWork 7 = .ok (.ireturn, 1) := by decide +kernel
set_option maxRecDepth 20000 in
theorem ggX6_rowNeed_X6_goTo : GoodIn wsX6_rowNeed wsX6_goTo := goodIn_r _ [6, 7, 8, 1, 9, 10, 17, 18, 19, 20, 21, 22, 23, 24, 25, 26, 27, 28, 29, 30, 31, 32, 33, 34, 35, 36, 37, 38, 39, 40, 41, 42] (by decide +kernel) (by decide +kernel)
set_option maxRecDepth 20000 in
theorem gX6_rowNeed_X6_goTo : GoodIn wsX6_rowNeed (wsV RX6 120 RX6 yX6_goTo wsX6_goTo) := goodIn_app (goodIn_of _ (by decide +kernel)) ggX6_rowNeed_X6_goTo
set_option maxRecDepth 20000 in
theorem ggX6_rowNeed_X6_stitchAt : GoodIn wsX6_rowNeed wsX6_stitchAt := goodIn_r _ [14, 1, 15, 7, 16, 17, 18, 19, 20, 21, 22, 23, 24, 25, 26, 27, 28, 29, 30, 31, 32, 33, 34, 35, 36, 37, 38, 39, 40, 41, 42] (by decide +kernel) (by decide +kernel)
set_option maxRecDepth 20000 in
theorem gX6_rowNeed_X6_stitchAt : GoodIn wsX6_rowNeed (wsV RX6 124 RX6 yX6_stitchAt wsX6_stitchAt) := goodIn_app (goodIn_of _ (by decide +kernel)) ggX6_rowNeed_X6_stitchAt
theorem dX6_rowNeed_0 : decode cX6_rowNeed 0 = .ok (.aload_n 0, 1) := by decide +kernel
theorem dX6_rowNeed_1 : decode cX6_rowNeed 1 = .ok (.iload_n 1, 1) := by decide +kernel
theorem dX6_rowNeed_2 : decode cX6_rowNeed 2 = .ok (.iload_n 2, 1) := by decide +kernel
theorem dX6_rowNeed_3 : decode cX6_rowNeed 3 = .ok (.invokevirtual 120, 3) := by decide +kernel
theorem dX6_rowNeed_6 : decode cX6_rowNeed 6 = .ok (.iconst 0, 1) := by decide +kernel
theorem dX6_rowNeed_7 : decode cX6_rowNeed 7 = .ok (.istore 4, 2) := by decide +kernel
theorem dX6_rowNeed_9 : decode cX6_rowNeed 9 = .ok (.iconst 0, 1) := by decide +kernel
theorem dX6_rowNeed_10 : decode cX6_rowNeed 10 = .ok (.istore 5, 2) := by decide +kernel
theorem dX6_rowNeed_12 : decode cX6_rowNeed 12 = .ok (.iload 5, 2) := by decide +kernel
theorem dX6_rowNeed_14 : decode cX6_rowNeed 14 = .ok (.aload_n 0, 1) := by decide +kernel
theorem dX6_rowNeed_15 : decode cX6_rowNeed 15 = .ok (.getfield 117, 3) := by decide +kernel
theorem dX6_rowNeed_18 : decode cX6_rowNeed 18 = .ok (.if_icmp .ge 29, 3) := by decide +kernel
theorem dX6_rowNeed_21 : decode cX6_rowNeed 21 = .ok (.iload 4, 2) := by decide +kernel
theorem dX6_rowNeed_23 : decode cX6_rowNeed 23 = .ok (.aload_n 0, 1) := by decide +kernel
theorem dX6_rowNeed_24 : decode cX6_rowNeed 24 = .ok (.iload 5, 2) := by decide +kernel
theorem dX6_rowNeed_26 : decode cX6_rowNeed 26 = .ok (.invokevirtual 124, 3) := by decide +kernel
theorem dX6_rowNeed_29 : decode cX6_rowNeed 29 = .ok (.iconst 1, 1) := by decide +kernel
theorem dX6_rowNeed_30 : decode cX6_rowNeed 30 = .ok (.if_icmp .ne 7, 3) := by decide +kernel
theorem dX6_rowNeed_33 : decode cX6_rowNeed 33 = .ok (.iconst 2, 1) := by decide +kernel
theorem dX6_rowNeed_34 : decode cX6_rowNeed 34 = .ok (.goto 4, 3) := by decide +kernel
theorem dX6_rowNeed_37 : decode cX6_rowNeed 37 = .ok (.iconst 3, 1) := by decide +kernel
theorem dX6_rowNeed_38 : decode cX6_rowNeed 38 = .ok (.iadd, 1) := by decide +kernel
theorem dX6_rowNeed_39 : decode cX6_rowNeed 39 = .ok (.istore 4, 2) := by decide +kernel
theorem dX6_rowNeed_41 : decode cX6_rowNeed 41 = .ok (.iinc 5 1, 3) := by decide +kernel
theorem dX6_rowNeed_44 : decode cX6_rowNeed 44 = .ok (.goto (-32), 3) := by decide +kernel
theorem dX6_rowNeed_47 : decode cX6_rowNeed 47 = .ok (.iload_n 3, 1) := by decide +kernel
theorem dX6_rowNeed_48 : decode cX6_rowNeed 48 = .ok (.iload 4, 2) := by decide +kernel
theorem dX6_rowNeed_50 : decode cX6_rowNeed 50 = .ok (.imul, 1) := by decide +kernel
theorem dX6_rowNeed_51 : decode cX6_rowNeed 51 = .ok (.ireturn, 1) := by decide +kernel
set_option maxRecDepth 20000 in
theorem ggX6_need_X6_isPattern : GoodIn wsX6_need wsX6_isPattern := goodIn_r _ [5, 6, 7, 8, 4, 9, 39, 40, 41, 42, 43, 44, 45, 46, 47, 48, 49, 50, 51, 52, 53, 54, 55, 56, 57, 58, 59, 60, 61, 62, 63, 64] (by decide +kernel) (by decide +kernel)
set_option maxRecDepth 20000 in
theorem gX6_need_X6_isPattern : GoodIn wsX6_need (wsV RX6 96 RX6 yX6_isPattern wsX6_isPattern) := goodIn_app (goodIn_of _ (by decide +kernel)) ggX6_need_X6_isPattern
set_option maxRecDepth 20000 in
theorem ggX6_need_X6_in : GoodIn wsX6_need wsX6_in := goodIn_r _ [9] (by decide +kernel) (by decide +kernel)
set_option maxRecDepth 20000 in
theorem gX6_need_X6_in : GoodIn wsX6_need (va_wsS RX6 72 yX6_in wsX6_in) := goodIn_app (goodIn_of _ (by decide +kernel)) ggX6_need_X6_in
set_option maxRecDepth 20000 in
theorem ggX6_need_X6_refused : GoodIn wsX6_need wsX6_refused := goodIn_r _ [13, 14, 39, 40, 41, 42, 43, 44, 45, 46, 47, 48, 49, 50, 51, 52, 53, 54, 55, 56, 57, 58, 59, 60, 61, 62, 63, 64] (by decide +kernel) (by decide +kernel)
set_option maxRecDepth 20000 in
theorem gX6_need_X6_refused : GoodIn wsX6_need (wsV RX6 89 RX6 yX6_refused wsX6_refused) := goodIn_app (goodIn_of _ (by decide +kernel)) ggX6_need_X6_refused
set_option maxRecDepth 20000 in
theorem ggX6_need_X6_rowsOf : GoodIn wsX6_need wsX6_rowsOf := goodIn_r _ [18, 19, 20, 39, 40, 41, 42, 43, 44, 45, 46, 47, 48, 49, 50, 51, 52, 53, 54, 55, 56, 57, 58, 59, 60, 61, 62, 63, 64] (by decide +kernel) (by decide +kernel)
set_option maxRecDepth 20000 in
theorem gX6_need_X6_rowsOf : GoodIn wsX6_need (wsV RX6 102 RX6 yX6_rowsOf wsX6_rowsOf) := goodIn_app (goodIn_of _ (by decide +kernel)) ggX6_need_X6_rowsOf
set_option maxRecDepth 20000 in
theorem ggX6_need_X6_rowNeed : GoodIn wsX6_need wsX6_rowNeed := goodIn_r _ [24, 25, 26, 27, 28, 4, 29, 30, 31, 20, 32, 33, 34, 35, 36, 37, 38, 39, 40, 41, 42, 43, 44, 45, 46, 47, 48, 49, 50, 51, 52, 53, 54, 55, 56, 57, 58, 59, 60, 61, 62, 63, 64] (by decide +kernel) (by decide +kernel)
set_option maxRecDepth 20000 in
theorem gX6_need_X6_rowNeed : GoodIn wsX6_need (wsV RX6 146 RX6 yX6_rowNeed wsX6_rowNeed) := goodIn_app (goodIn_of _ (by decide +kernel)) ggX6_need_X6_rowNeed
theorem dX6_need_0 : decode cX6_need 0 = .ok (.aload_n 0, 1) := by decide +kernel
theorem dX6_need_1 : decode cX6_need 1 = .ok (.aload_n 0, 1) := by decide +kernel
theorem dX6_need_2 : decode cX6_need 2 = .ok (.iload_n 1, 1) := by decide +kernel
theorem dX6_need_3 : decode cX6_need 3 = .ok (.invokevirtual 96, 3) := by decide +kernel
theorem dX6_need_6 : decode cX6_need 6 = .ok (.ifCond .ne 7, 3) := by decide +kernel
theorem dX6_need_9 : decode cX6_need 9 = .ok (.iconst 1, 1) := by decide +kernel
theorem dX6_need_10 : decode cX6_need 10 = .ok (.goto 18, 3) := by decide +kernel
theorem dX6_need_13 : decode cX6_need 13 = .ok (.iload_n 2, 1) := by decide +kernel
theorem dX6_need_14 : decode cX6_need 14 = .ok (.iconst 5, 1) := by decide +kernel
theorem dX6_need_15 : decode cX6_need 15 = .ok (.bipush 20, 2) := by decide +kernel
theorem dX6_need_17 : decode cX6_need 17 = .ok (.invokestatic 72, 3) := by decide +kernel
theorem dX6_need_20 : decode cX6_need 20 = .ok (.ifCond .eq 7, 3) := by decide +kernel
theorem dX6_need_23 : decode cX6_need 23 = .ok (.iconst 0, 1) := by decide +kernel
theorem dX6_need_24 : decode cX6_need 24 = .ok (.goto 4, 3) := by decide +kernel
theorem dX6_need_27 : decode cX6_need 27 = .ok (.iconst 2, 1) := by decide +kernel
theorem dX6_need_28 : decode cX6_need 28 = .ok (.invokevirtual 89, 3) := by decide +kernel
theorem dX6_need_31 : decode cX6_need 31 = .ok (.ifCond .eq 5, 3) := by decide +kernel
theorem dX6_need_34 : decode cX6_need 34 = .ok (.iconst 0, 1) := by decide +kernel
theorem dX6_need_35 : decode cX6_need 35 = .ok (.ireturn, 1) := by decide +kernel
theorem dX6_need_36 : decode cX6_need 36 = .ok (.iconst 0, 1) := by decide +kernel
theorem dX6_need_37 : decode cX6_need 37 = .ok (.istore_n 3, 1) := by decide +kernel
theorem dX6_need_38 : decode cX6_need 38 = .ok (.iconst 0, 1) := by decide +kernel
theorem dX6_need_39 : decode cX6_need 39 = .ok (.istore 4, 2) := by decide +kernel
theorem dX6_need_41 : decode cX6_need 41 = .ok (.iload 4, 2) := by decide +kernel
theorem dX6_need_43 : decode cX6_need 43 = .ok (.aload_n 0, 1) := by decide +kernel
theorem dX6_need_44 : decode cX6_need 44 = .ok (.iload_n 1, 1) := by decide +kernel
theorem dX6_need_45 : decode cX6_need 45 = .ok (.invokevirtual 102, 3) := by decide +kernel
theorem dX6_need_48 : decode cX6_need 48 = .ok (.if_icmp .ge 20, 3) := by decide +kernel
theorem dX6_need_51 : decode cX6_need 51 = .ok (.iload_n 3, 1) := by decide +kernel
theorem dX6_need_52 : decode cX6_need 52 = .ok (.aload_n 0, 1) := by decide +kernel
theorem dX6_need_53 : decode cX6_need 53 = .ok (.iload_n 1, 1) := by decide +kernel
theorem dX6_need_54 : decode cX6_need 54 = .ok (.iload 4, 2) := by decide +kernel
theorem dX6_need_56 : decode cX6_need 56 = .ok (.iload_n 2, 1) := by decide +kernel
theorem dX6_need_57 : decode cX6_need 57 = .ok (.invokevirtual 146, 3) := by decide +kernel
theorem dX6_need_60 : decode cX6_need 60 = .ok (.iadd, 1) := by decide +kernel
theorem dX6_need_61 : decode cX6_need 61 = .ok (.istore_n 3, 1) := by decide +kernel
theorem dX6_need_62 : decode cX6_need 62 = .ok (.iinc 4 1, 3) := by decide +kernel
theorem dX6_need_65 : decode cX6_need 65 = .ok (.goto (-24), 3) := by decide +kernel
theorem dX6_need_68 : decode cX6_need 68 = .ok (.iload_n 3, 1) := by decide +kernel
theorem dX6_need_69 : decode cX6_need 69 = .ok (.ireturn, 1) := by decide +kernel
theorem dX6_hasBought_0 : decode cX6_hasBought 0 = .ok (.aload_n 0, 1) := by decide +kernel
theorem dX6_hasBought_1 : decode cX6_hasBought 1 = .ok (.getfield 41, 3) := by decide +kernel
theorem dX6_hasBought_4 : decode cX6_hasBought 4 = .ok (.iload_n 1, 1) := by decide +kernel
theorem dX6_hasBought_5 : decode cX6_hasBought 5 = .ok (.iaload, 1) := by decide +kernel
theorem dX6_hasBought_6 : decode cX6_hasBought 6 = .ok (.iload_n 2, 1) := by decide +kernel
theorem dX6_hasBought_7 : decode cX6_hasBought 7 = .ok (.ishr, 1) := by decide +kernel
theorem dX6_hasBought_8 : decode cX6_hasBought 8 = .ok (.iconst 1, 1) := by decide +kernel
theorem dX6_hasBought_9 : decode cX6_hasBought 9 = .ok (.iand, 1) := by decide +kernel
theorem dX6_hasBought_10 : decode cX6_hasBought 10 = .ok (.iconst 1, 1) := by decide +kernel
theorem dX6_hasBought_11 : decode cX6_hasBought 11 = .ok (.if_icmp .ne 7, 3) := by decide +kernel
theorem dX6_hasBought_14 : decode cX6_hasBought 14 = .ok (.iconst 1, 1) := by decide +kernel
theorem dX6_hasBought_15 : decode cX6_hasBought 15 = .ok (.goto 4, 3) := by decide +kernel
theorem dX6_hasBought_18 : decode cX6_hasBought 18 = .ok (.iconst 0, 1) := by decide +kernel
theorem dX6_hasBought_19 : decode cX6_hasBought 19 = .ok (.ireturn, 1) := by decide +kernel
set_option maxRecDepth 20000 in
theorem ggX6_buy_X6_isPattern : GoodIn wsX6_buy wsX6_isPattern := goodIn_r _ [10, 11, 12, 13, 9, 14, 32, 33, 34, 35, 36, 37, 38, 39, 40, 41, 42, 43, 44, 45, 46, 47, 48, 49, 50, 51, 52, 53, 54, 55, 56, 57] (by decide +kernel) (by decide +kernel)
set_option maxRecDepth 20000 in
theorem gX6_buy_X6_isPattern : GoodIn wsX6_buy (wsV RX6 96 RX6 yX6_isPattern wsX6_isPattern) := goodIn_app (goodIn_of _ (by decide +kernel)) ggX6_buy_X6_isPattern
set_option maxRecDepth 20000 in
theorem ggX6_buy_X6_isPerson : GoodIn wsX6_buy wsX6_isPerson := goodIn_r _ [17, 12, 13, 9, 14] (by decide +kernel) (by decide +kernel)
set_option maxRecDepth 20000 in
theorem gX6_buy_X6_isPerson : GoodIn wsX6_buy (va_wsS RX6 85 yX6_isPerson wsX6_isPerson) := goodIn_app (goodIn_of _ (by decide +kernel)) ggX6_buy_X6_isPerson
set_option maxRecDepth 20000 in
theorem ggX6_buy_X6_isPublished : GoodIn wsX6_buy wsX6_isPublished := goodIn_r _ [21, 22, 32, 33, 34, 35, 36, 37, 38, 39, 40, 41, 42, 43, 44, 45, 46, 47, 48, 49, 50, 51, 52, 53, 54, 55, 56, 57] (by decide +kernel) (by decide +kernel)
set_option maxRecDepth 20000 in
theorem gX6_buy_X6_isPublished : GoodIn wsX6_buy (wsV RX6 99 RX6 yX6_isPublished wsX6_isPublished) := goodIn_app (goodIn_of _ (by decide +kernel)) ggX6_buy_X6_isPublished
set_option maxRecDepth 20000 in
theorem ggX6_buy_X6_hasBought : GoodIn wsX6_buy wsX6_hasBought := goodIn_r _ [26, 3, 32, 33, 34, 35, 36, 37, 38, 39, 40, 41, 42, 43, 44, 45, 46, 47, 48, 49, 50, 51, 52, 53, 54, 55, 56, 57] (by decide +kernel) (by decide +kernel)
set_option maxRecDepth 20000 in
theorem gX6_buy_X6_hasBought : GoodIn wsX6_buy (wsV RX6 149 RX6 yX6_hasBought wsX6_hasBought) := goodIn_app (goodIn_of _ (by decide +kernel)) ggX6_buy_X6_hasBought
set_option maxRecDepth 20000 in
theorem ggX6_buy_X6_refused : GoodIn wsX6_buy wsX6_refused := goodIn_r _ [30, 31, 32, 33, 34, 35, 36, 37, 38, 39, 40, 41, 42, 43, 44, 45, 46, 47, 48, 49, 50, 51, 52, 53, 54, 55, 56, 57] (by decide +kernel) (by decide +kernel)
set_option maxRecDepth 20000 in
theorem gX6_buy_X6_refused : GoodIn wsX6_buy (wsV RX6 89 RX6 yX6_refused wsX6_refused) := goodIn_app (goodIn_of _ (by decide +kernel)) ggX6_buy_X6_refused
theorem dX6_buy_0 : decode cX6_buy 0 = .ok (.aload_n 0, 1) := by decide +kernel
theorem dX6_buy_1 : decode cX6_buy 1 = .ok (.iload_n 1, 1) := by decide +kernel
theorem dX6_buy_2 : decode cX6_buy 2 = .ok (.invokevirtual 96, 3) := by decide +kernel
theorem dX6_buy_5 : decode cX6_buy 5 = .ok (.ifCond .eq 14, 3) := by decide +kernel
theorem dX6_buy_8 : decode cX6_buy 8 = .ok (.iload_n 2, 1) := by decide +kernel
theorem dX6_buy_9 : decode cX6_buy 9 = .ok (.invokestatic 85, 3) := by decide +kernel
theorem dX6_buy_12 : decode cX6_buy 12 = .ok (.ifCond .eq 7, 3) := by decide +kernel
theorem dX6_buy_15 : decode cX6_buy 15 = .ok (.iconst 1, 1) := by decide +kernel
theorem dX6_buy_16 : decode cX6_buy 16 = .ok (.goto 4, 3) := by decide +kernel
theorem dX6_buy_19 : decode cX6_buy 19 = .ok (.iconst 0, 1) := by decide +kernel
theorem dX6_buy_20 : decode cX6_buy 20 = .ok (.istore_n 3, 1) := by decide +kernel
theorem dX6_buy_21 : decode cX6_buy 21 = .ok (.iload_n 3, 1) := by decide +kernel
theorem dX6_buy_22 : decode cX6_buy 22 = .ok (.ifCond .eq 43, 3) := by decide +kernel
theorem dX6_buy_25 : decode cX6_buy 25 = .ok (.aload_n 0, 1) := by decide +kernel
theorem dX6_buy_26 : decode cX6_buy 26 = .ok (.iload_n 1, 1) := by decide +kernel
theorem dX6_buy_27 : decode cX6_buy 27 = .ok (.invokevirtual 99, 3) := by decide +kernel
theorem dX6_buy_30 : decode cX6_buy 30 = .ok (.ifCond .eq 35, 3) := by decide +kernel
theorem dX6_buy_33 : decode cX6_buy 33 = .ok (.aload_n 0, 1) := by decide +kernel
theorem dX6_buy_34 : decode cX6_buy 34 = .ok (.getfield 37, 3) := by decide +kernel
theorem dX6_buy_37 : decode cX6_buy 37 = .ok (.iload_n 1, 1) := by decide +kernel
theorem dX6_buy_38 : decode cX6_buy 38 = .ok (.baload, 1) := by decide +kernel
theorem dX6_buy_39 : decode cX6_buy 39 = .ok (.ifCond .ne 26, 3) := by decide +kernel
theorem dX6_buy_42 : decode cX6_buy 42 = .ok (.aload_n 0, 1) := by decide +kernel
theorem dX6_buy_43 : decode cX6_buy 43 = .ok (.getfield 7, 3) := by decide +kernel
theorem dX6_buy_46 : decode cX6_buy 46 = .ok (.iload_n 1, 1) := by decide +kernel
theorem dX6_buy_47 : decode cX6_buy 47 = .ok (.iaload, 1) := by decide +kernel
theorem dX6_buy_48 : decode cX6_buy 48 = .ok (.iload_n 2, 1) := by decide +kernel
theorem dX6_buy_49 : decode cX6_buy 49 = .ok (.if_icmp .eq 16, 3) := by decide +kernel
theorem dX6_buy_52 : decode cX6_buy 52 = .ok (.aload_n 0, 1) := by decide +kernel
theorem dX6_buy_53 : decode cX6_buy 53 = .ok (.iload_n 1, 1) := by decide +kernel
theorem dX6_buy_54 : decode cX6_buy 54 = .ok (.iload_n 2, 1) := by decide +kernel
theorem dX6_buy_55 : decode cX6_buy 55 = .ok (.invokevirtual 149, 3) := by decide +kernel
theorem dX6_buy_58 : decode cX6_buy 58 = .ok (.ifCond .ne 7, 3) := by decide +kernel
theorem dX6_buy_61 : decode cX6_buy 61 = .ok (.iconst 1, 1) := by decide +kernel
theorem dX6_buy_62 : decode cX6_buy 62 = .ok (.goto 4, 3) := by decide +kernel
theorem dX6_buy_65 : decode cX6_buy 65 = .ok (.iconst 0, 1) := by decide +kernel
theorem dX6_buy_66 : decode cX6_buy 66 = .ok (.istore 4, 2) := by decide +kernel
theorem dX6_buy_68 : decode cX6_buy 68 = .ok (.aload_n 0, 1) := by decide +kernel
theorem dX6_buy_69 : decode cX6_buy 69 = .ok (.iload_n 3, 1) := by decide +kernel
theorem dX6_buy_70 : decode cX6_buy 70 = .ok (.ifCond .ne 7, 3) := by decide +kernel
theorem dX6_buy_73 : decode cX6_buy 73 = .ok (.iconst 1, 1) := by decide +kernel
theorem dX6_buy_74 : decode cX6_buy 74 = .ok (.goto 13, 3) := by decide +kernel
theorem dX6_buy_77 : decode cX6_buy 77 = .ok (.iload 4, 2) := by decide +kernel
theorem dX6_buy_79 : decode cX6_buy 79 = .ok (.ifCond .eq 7, 3) := by decide +kernel
theorem dX6_buy_82 : decode cX6_buy 82 = .ok (.iconst 0, 1) := by decide +kernel
theorem dX6_buy_83 : decode cX6_buy 83 = .ok (.goto 4, 3) := by decide +kernel
theorem dX6_buy_86 : decode cX6_buy 86 = .ok (.iconst 2, 1) := by decide +kernel
theorem dX6_buy_87 : decode cX6_buy 87 = .ok (.invokevirtual 89, 3) := by decide +kernel
theorem dX6_buy_90 : decode cX6_buy 90 = .ok (.ifCond .eq 5, 3) := by decide +kernel
theorem dX6_buy_93 : decode cX6_buy 93 = .ok (.iconst 0, 1) := by decide +kernel
theorem dX6_buy_94 : decode cX6_buy 94 = .ok (.ireturn, 1) := by decide +kernel
theorem dX6_buy_95 : decode cX6_buy 95 = .ok (.aload_n 0, 1) := by decide +kernel
theorem dX6_buy_96 : decode cX6_buy 96 = .ok (.getfield 41, 3) := by decide +kernel
theorem dX6_buy_99 : decode cX6_buy 99 = .ok (.iload_n 1, 1) := by decide +kernel
theorem dX6_buy_100 : decode cX6_buy 100 = .ok (.dup2, 1) := by decide +kernel
theorem dX6_buy_101 : decode cX6_buy 101 = .ok (.iaload, 1) := by decide +kernel
theorem dX6_buy_102 : decode cX6_buy 102 = .ok (.iconst 1, 1) := by decide +kernel
theorem dX6_buy_103 : decode cX6_buy 103 = .ok (.iload_n 2, 1) := by decide +kernel
theorem dX6_buy_104 : decode cX6_buy 104 = .ok (.ishl, 1) := by decide +kernel
theorem dX6_buy_105 : decode cX6_buy 105 = .ok (.ior, 1) := by decide +kernel
theorem dX6_buy_106 : decode cX6_buy 106 = .ok (.iastore, 1) := by decide +kernel
theorem dX6_buy_107 : decode cX6_buy 107 = .ok (.aload_n 0, 1) := by decide +kernel
theorem dX6_buy_108 : decode cX6_buy 108 = .ok (.getfield 44, 3) := by decide +kernel
theorem dX6_buy_111 : decode cX6_buy 111 = .ok (.iload_n 2, 1) := by decide +kernel
theorem dX6_buy_112 : decode cX6_buy 112 = .ok (.dup2, 1) := by decide +kernel
theorem dX6_buy_113 : decode cX6_buy 113 = .ok (.iaload, 1) := by decide +kernel
theorem dX6_buy_114 : decode cX6_buy 114 = .ok (.aload_n 0, 1) := by decide +kernel
theorem dX6_buy_115 : decode cX6_buy 115 = .ok (.getfield 16, 3) := by decide +kernel
theorem dX6_buy_118 : decode cX6_buy 118 = .ok (.iload_n 1, 1) := by decide +kernel
theorem dX6_buy_119 : decode cX6_buy 119 = .ok (.iaload, 1) := by decide +kernel
theorem dX6_buy_120 : decode cX6_buy 120 = .ok (.isub, 1) := by decide +kernel
theorem dX6_buy_121 : decode cX6_buy 121 = .ok (.iastore, 1) := by decide +kernel
theorem dX6_buy_122 : decode cX6_buy 122 = .ok (.aload_n 0, 1) := by decide +kernel
theorem dX6_buy_123 : decode cX6_buy 123 = .ok (.getfield 44, 3) := by decide +kernel
theorem dX6_buy_126 : decode cX6_buy 126 = .ok (.aload_n 0, 1) := by decide +kernel
theorem dX6_buy_127 : decode cX6_buy 127 = .ok (.getfield 7, 3) := by decide +kernel
theorem dX6_buy_130 : decode cX6_buy 130 = .ok (.iload_n 1, 1) := by decide +kernel
theorem dX6_buy_131 : decode cX6_buy 131 = .ok (.iaload, 1) := by decide +kernel
theorem dX6_buy_132 : decode cX6_buy 132 = .ok (.dup2, 1) := by decide +kernel
theorem dX6_buy_133 : decode cX6_buy 133 = .ok (.iaload, 1) := by decide +kernel
theorem dX6_buy_134 : decode cX6_buy 134 = .ok (.aload_n 0, 1) := by decide +kernel
theorem dX6_buy_135 : decode cX6_buy 135 = .ok (.getfield 16, 3) := by decide +kernel
theorem dX6_buy_138 : decode cX6_buy 138 = .ok (.iload_n 1, 1) := by decide +kernel
theorem dX6_buy_139 : decode cX6_buy 139 = .ok (.iaload, 1) := by decide +kernel
theorem dX6_buy_140 : decode cX6_buy 140 = .ok (.iadd, 1) := by decide +kernel
theorem dX6_buy_141 : decode cX6_buy 141 = .ok (.iastore, 1) := by decide +kernel
theorem dX6_buy_142 : decode cX6_buy 142 = .ok (.aload_n 0, 1) := by decide +kernel
theorem dX6_buy_143 : decode cX6_buy 143 = .ok (.getfield 44, 3) := by decide +kernel
theorem dX6_buy_146 : decode cX6_buy 146 = .ok (.aload_n 0, 1) := by decide +kernel
theorem dX6_buy_147 : decode cX6_buy 147 = .ok (.getfield 7, 3) := by decide +kernel
theorem dX6_buy_150 : decode cX6_buy 150 = .ok (.iload_n 1, 1) := by decide +kernel
theorem dX6_buy_151 : decode cX6_buy 151 = .ok (.iaload, 1) := by decide +kernel
theorem dX6_buy_152 : decode cX6_buy 152 = .ok (.iaload, 1) := by decide +kernel
theorem dX6_buy_153 : decode cX6_buy 153 = .ok (.ireturn, 1) := by decide +kernel
set_option maxRecDepth 20000 in
theorem ggX6_rule_X6_isPattern : GoodIn wsX6_rule wsX6_isPattern := goodIn_r _ [9, 10, 11, 12, 8, 13, 61, 62, 63, 64, 65, 66, 67, 68, 69, 70, 71, 72, 73, 74, 75, 76, 77, 78, 79, 80, 81, 82, 83, 84, 85, 86] (by decide +kernel) (by decide +kernel)
set_option maxRecDepth 20000 in
theorem gX6_rule_X6_isPattern : GoodIn wsX6_rule (wsV RX6 96 RX6 yX6_isPattern wsX6_isPattern) := goodIn_app (goodIn_of _ (by decide +kernel)) ggX6_rule_X6_isPattern
set_option maxRecDepth 20000 in
theorem ggX6_rule_X6_isPublished : GoodIn wsX6_rule wsX6_isPublished := goodIn_r _ [17, 18, 61, 62, 63, 64, 65, 66, 67, 68, 69, 70, 71, 72, 73, 74, 75, 76, 77, 78, 79, 80, 81, 82, 83, 84, 85, 86] (by decide +kernel) (by decide +kernel)
set_option maxRecDepth 20000 in
theorem gX6_rule_X6_isPublished : GoodIn wsX6_rule (wsV RX6 99 RX6 yX6_isPublished wsX6_isPublished) := goodIn_app (goodIn_of _ (by decide +kernel)) ggX6_rule_X6_isPublished
set_option maxRecDepth 20000 in
theorem ggX6_rule_X6_originalOf : GoodIn wsX6_rule wsX6_originalOf := goodIn_r _ [22, 10, 18, 23, 24, 25, 8, 26, 27, 28, 29, 30, 31, 32, 33, 34, 35, 36, 37, 38, 39, 40, 41, 42, 43, 44, 45, 46, 47, 48, 49, 50, 61, 62, 63, 64, 65, 66, 67, 68, 69, 70, 71, 72, 73, 74, 75, 76, 77, 78, 79, 80, 81, 82, 83, 84, 85, 86] (by decide +kernel) (by decide +kernel)
set_option maxRecDepth 20000 in
theorem gX6_rule_X6_originalOf : GoodIn wsX6_rule (wsV RX6 137 RX6 yX6_originalOf wsX6_originalOf) := goodIn_app (goodIn_of _ (by decide +kernel)) ggX6_rule_X6_originalOf
set_option maxRecDepth 20000 in
theorem ggX6_rule_X6_refused : GoodIn wsX6_rule wsX6_refused := goodIn_r _ [54, 55, 61, 62, 63, 64, 65, 66, 67, 68, 69, 70, 71, 72, 73, 74, 75, 76, 77, 78, 79, 80, 81, 82, 83, 84, 85, 86] (by decide +kernel) (by decide +kernel)
set_option maxRecDepth 20000 in
theorem gX6_rule_X6_refused : GoodIn wsX6_rule (wsV RX6 89 RX6 yX6_refused wsX6_refused) := goodIn_app (goodIn_of _ (by decide +kernel)) ggX6_rule_X6_refused
set_option maxRecDepth 20000 in
theorem ggX6_rule_X6_hasBought : GoodIn wsX6_rule wsX6_hasBought := goodIn_r _ [59, 60, 61, 62, 63, 64, 65, 66, 67, 68, 69, 70, 71, 72, 73, 74, 75, 76, 77, 78, 79, 80, 81, 82, 83, 84, 85, 86] (by decide +kernel) (by decide +kernel)
set_option maxRecDepth 20000 in
theorem gX6_rule_X6_hasBought : GoodIn wsX6_rule (wsV RX6 149 RX6 yX6_hasBought wsX6_hasBought) := goodIn_app (goodIn_of _ (by decide +kernel)) ggX6_rule_X6_hasBought
theorem dX6_rule_0 : decode cX6_rule 0 = .ok (.aload_n 0, 1) := by decide +kernel
theorem dX6_rule_1 : decode cX6_rule 1 = .ok (.iload_n 1, 1) := by decide +kernel
theorem dX6_rule_2 : decode cX6_rule 2 = .ok (.invokevirtual 96, 3) := by decide +kernel
theorem dX6_rule_5 : decode cX6_rule 5 = .ok (.ifCond .eq 43, 3) := by decide +kernel
theorem dX6_rule_8 : decode cX6_rule 8 = .ok (.aload_n 0, 1) := by decide +kernel
theorem dX6_rule_9 : decode cX6_rule 9 = .ok (.iload_n 1, 1) := by decide +kernel
theorem dX6_rule_10 : decode cX6_rule 10 = .ok (.invokevirtual 99, 3) := by decide +kernel
theorem dX6_rule_13 : decode cX6_rule 13 = .ok (.ifCond .eq 35, 3) := by decide +kernel
theorem dX6_rule_16 : decode cX6_rule 16 = .ok (.aload_n 0, 1) := by decide +kernel
theorem dX6_rule_17 : decode cX6_rule 17 = .ok (.getfield 37, 3) := by decide +kernel
theorem dX6_rule_20 : decode cX6_rule 20 = .ok (.iload_n 1, 1) := by decide +kernel
theorem dX6_rule_21 : decode cX6_rule 21 = .ok (.baload, 1) := by decide +kernel
theorem dX6_rule_22 : decode cX6_rule 22 = .ok (.ifCond .ne 26, 3) := by decide +kernel
theorem dX6_rule_25 : decode cX6_rule 25 = .ok (.aload_n 0, 1) := by decide +kernel
theorem dX6_rule_26 : decode cX6_rule 26 = .ok (.getfield 7, 3) := by decide +kernel
theorem dX6_rule_29 : decode cX6_rule 29 = .ok (.aload_n 0, 1) := by decide +kernel
theorem dX6_rule_30 : decode cX6_rule 30 = .ok (.iload_n 1, 1) := by decide +kernel
theorem dX6_rule_31 : decode cX6_rule 31 = .ok (.invokevirtual 137, 3) := by decide +kernel
theorem dX6_rule_34 : decode cX6_rule 34 = .ok (.iaload, 1) := by decide +kernel
theorem dX6_rule_35 : decode cX6_rule 35 = .ok (.aload_n 0, 1) := by decide +kernel
theorem dX6_rule_36 : decode cX6_rule 36 = .ok (.getfield 7, 3) := by decide +kernel
theorem dX6_rule_39 : decode cX6_rule 39 = .ok (.iload_n 1, 1) := by decide +kernel
theorem dX6_rule_40 : decode cX6_rule 40 = .ok (.iaload, 1) := by decide +kernel
theorem dX6_rule_41 : decode cX6_rule 41 = .ok (.if_icmp .eq 7, 3) := by decide +kernel
theorem dX6_rule_44 : decode cX6_rule 44 = .ok (.iconst 1, 1) := by decide +kernel
theorem dX6_rule_45 : decode cX6_rule 45 = .ok (.goto 4, 3) := by decide +kernel
theorem dX6_rule_48 : decode cX6_rule 48 = .ok (.iconst 0, 1) := by decide +kernel
theorem dX6_rule_49 : decode cX6_rule 49 = .ok (.istore_n 2, 1) := by decide +kernel
theorem dX6_rule_50 : decode cX6_rule 50 = .ok (.aload_n 0, 1) := by decide +kernel
theorem dX6_rule_51 : decode cX6_rule 51 = .ok (.aload_n 0, 1) := by decide +kernel
theorem dX6_rule_52 : decode cX6_rule 52 = .ok (.iload_n 1, 1) := by decide +kernel
theorem dX6_rule_53 : decode cX6_rule 53 = .ok (.invokevirtual 96, 3) := by decide +kernel
theorem dX6_rule_56 : decode cX6_rule 56 = .ok (.ifCond .ne 7, 3) := by decide +kernel
theorem dX6_rule_59 : decode cX6_rule 59 = .ok (.iconst 1, 1) := by decide +kernel
theorem dX6_rule_60 : decode cX6_rule 60 = .ok (.goto 12, 3) := by decide +kernel
theorem dX6_rule_63 : decode cX6_rule 63 = .ok (.iload_n 2, 1) := by decide +kernel
theorem dX6_rule_64 : decode cX6_rule 64 = .ok (.ifCond .eq 7, 3) := by decide +kernel
theorem dX6_rule_67 : decode cX6_rule 67 = .ok (.iconst 0, 1) := by decide +kernel
theorem dX6_rule_68 : decode cX6_rule 68 = .ok (.goto 4, 3) := by decide +kernel
theorem dX6_rule_71 : decode cX6_rule 71 = .ok (.iconst 2, 1) := by decide +kernel
theorem dX6_rule_72 : decode cX6_rule 72 = .ok (.invokevirtual 89, 3) := by decide +kernel
theorem dX6_rule_75 : decode cX6_rule 75 = .ok (.ifCond .eq 5, 3) := by decide +kernel
theorem dX6_rule_78 : decode cX6_rule 78 = .ok (.iconst 0, 1) := by decide +kernel
theorem dX6_rule_79 : decode cX6_rule 79 = .ok (.ireturn, 1) := by decide +kernel
theorem dX6_rule_80 : decode cX6_rule 80 = .ok (.iconst 0, 1) := by decide +kernel
theorem dX6_rule_81 : decode cX6_rule 81 = .ok (.istore_n 3, 1) := by decide +kernel
theorem dX6_rule_82 : decode cX6_rule 82 = .ok (.iconst 0, 1) := by decide +kernel
theorem dX6_rule_83 : decode cX6_rule 83 = .ok (.istore 4, 2) := by decide +kernel
theorem dX6_rule_85 : decode cX6_rule 85 = .ok (.iload 4, 2) := by decide +kernel
theorem dX6_rule_87 : decode cX6_rule 87 = .ok (.iconst 5, 1) := by decide +kernel
theorem dX6_rule_88 : decode cX6_rule 88 = .ok (.if_icmp .ge 32, 3) := by decide +kernel
theorem dX6_rule_91 : decode cX6_rule 91 = .ok (.iload_n 3, 1) := by decide +kernel
theorem dX6_rule_92 : decode cX6_rule 92 = .ok (.aload_n 0, 1) := by decide +kernel
theorem dX6_rule_93 : decode cX6_rule 93 = .ok (.iload_n 1, 1) := by decide +kernel
theorem dX6_rule_94 : decode cX6_rule 94 = .ok (.iload 4, 2) := by decide +kernel
theorem dX6_rule_96 : decode cX6_rule 96 = .ok (.invokevirtual 149, 3) := by decide +kernel
theorem dX6_rule_99 : decode cX6_rule 99 = .ok (.ifCond .eq 12, 3) := by decide +kernel
theorem dX6_rule_102 : decode cX6_rule 102 = .ok (.aload_n 0, 1) := by decide +kernel
theorem dX6_rule_103 : decode cX6_rule 103 = .ok (.getfield 16, 3) := by decide +kernel
theorem dX6_rule_106 : decode cX6_rule 106 = .ok (.iload_n 1, 1) := by decide +kernel
theorem dX6_rule_107 : decode cX6_rule 107 = .ok (.iaload, 1) := by decide +kernel
theorem dX6_rule_108 : decode cX6_rule 108 = .ok (.goto 4, 3) := by decide +kernel
theorem dX6_rule_111 : decode cX6_rule 111 = .ok (.iconst 0, 1) := by decide +kernel
theorem dX6_rule_112 : decode cX6_rule 112 = .ok (.iadd, 1) := by decide +kernel
theorem dX6_rule_113 : decode cX6_rule 113 = .ok (.istore_n 3, 1) := by decide +kernel
theorem dX6_rule_114 : decode cX6_rule 114 = .ok (.iinc 4 1, 3) := by decide +kernel
theorem dX6_rule_117 : decode cX6_rule 117 = .ok (.goto (-32), 3) := by decide +kernel
theorem dX6_rule_120 : decode cX6_rule 120 = .ok (.aload_n 0, 1) := by decide +kernel
theorem dX6_rule_121 : decode cX6_rule 121 = .ok (.getfield 37, 3) := by decide +kernel
theorem dX6_rule_124 : decode cX6_rule 124 = .ok (.iload_n 1, 1) := by decide +kernel
theorem dX6_rule_125 : decode cX6_rule 125 = .ok (.iconst 1, 1) := by decide +kernel
theorem dX6_rule_126 : decode cX6_rule 126 = .ok (.bastore, 1) := by decide +kernel
theorem dX6_rule_127 : decode cX6_rule 127 = .ok (.aload_n 0, 1) := by decide +kernel
theorem dX6_rule_128 : decode cX6_rule 128 = .ok (.getfield 44, 3) := by decide +kernel
theorem dX6_rule_131 : decode cX6_rule 131 = .ok (.aload_n 0, 1) := by decide +kernel
theorem dX6_rule_132 : decode cX6_rule 132 = .ok (.getfield 7, 3) := by decide +kernel
theorem dX6_rule_135 : decode cX6_rule 135 = .ok (.iload_n 1, 1) := by decide +kernel
theorem dX6_rule_136 : decode cX6_rule 136 = .ok (.iaload, 1) := by decide +kernel
theorem dX6_rule_137 : decode cX6_rule 137 = .ok (.dup2, 1) := by decide +kernel
theorem dX6_rule_138 : decode cX6_rule 138 = .ok (.iaload, 1) := by decide +kernel
theorem dX6_rule_139 : decode cX6_rule 139 = .ok (.iload_n 3, 1) := by decide +kernel
theorem dX6_rule_140 : decode cX6_rule 140 = .ok (.isub, 1) := by decide +kernel
theorem dX6_rule_141 : decode cX6_rule 141 = .ok (.iastore, 1) := by decide +kernel
theorem dX6_rule_142 : decode cX6_rule 142 = .ok (.aload_n 0, 1) := by decide +kernel
theorem dX6_rule_143 : decode cX6_rule 143 = .ok (.getfield 44, 3) := by decide +kernel
theorem dX6_rule_146 : decode cX6_rule 146 = .ok (.aload_n 0, 1) := by decide +kernel
theorem dX6_rule_147 : decode cX6_rule 147 = .ok (.getfield 7, 3) := by decide +kernel
theorem dX6_rule_150 : decode cX6_rule 150 = .ok (.aload_n 0, 1) := by decide +kernel
theorem dX6_rule_151 : decode cX6_rule 151 = .ok (.iload_n 1, 1) := by decide +kernel
theorem dX6_rule_152 : decode cX6_rule 152 = .ok (.invokevirtual 137, 3) := by decide +kernel
theorem dX6_rule_155 : decode cX6_rule 155 = .ok (.iaload, 1) := by decide +kernel
theorem dX6_rule_156 : decode cX6_rule 156 = .ok (.dup2, 1) := by decide +kernel
theorem dX6_rule_157 : decode cX6_rule 157 = .ok (.iaload, 1) := by decide +kernel
theorem dX6_rule_158 : decode cX6_rule 158 = .ok (.iload_n 3, 1) := by decide +kernel
theorem dX6_rule_159 : decode cX6_rule 159 = .ok (.iadd, 1) := by decide +kernel
theorem dX6_rule_160 : decode cX6_rule 160 = .ok (.iastore, 1) := by decide +kernel
theorem dX6_rule_161 : decode cX6_rule 161 = .ok (.iload_n 3, 1) := by decide +kernel
theorem dX6_rule_162 : decode cX6_rule 162 = .ok (.ireturn, 1) := by decide +kernel
set_option maxRecDepth 20000 in
theorem ggX6_money_X6_isPerson : GoodIn wsX6_money wsX6_isPerson := goodIn_r _ [5, 6, 7, 4, 8] (by decide +kernel) (by decide +kernel)
set_option maxRecDepth 20000 in
theorem gX6_money_X6_isPerson : GoodIn wsX6_money (va_wsS RX6 85 yX6_isPerson wsX6_isPerson) := goodIn_app (goodIn_of _ (by decide +kernel)) ggX6_money_X6_isPerson
set_option maxRecDepth 20000 in
theorem ggX6_money_X6_refused : GoodIn wsX6_money wsX6_refused := goodIn_r _ [12, 13, 14, 15, 16, 17, 18, 19, 20, 21, 22, 23, 24, 25, 26, 27, 28, 29, 30, 31, 32, 33, 34, 35, 36, 37, 38, 39] (by decide +kernel) (by decide +kernel)
set_option maxRecDepth 20000 in
theorem gX6_money_X6_refused : GoodIn wsX6_money (wsV RX6 89 RX6 yX6_refused wsX6_refused) := goodIn_app (goodIn_of _ (by decide +kernel)) ggX6_money_X6_refused
theorem dX6_money_0 : decode cX6_money 0 = .ok (.aload_n 0, 1) := by decide +kernel
theorem dX6_money_1 : decode cX6_money 1 = .ok (.iload_n 1, 1) := by decide +kernel
theorem dX6_money_2 : decode cX6_money 2 = .ok (.invokestatic 85, 3) := by decide +kernel
theorem dX6_money_5 : decode cX6_money 5 = .ok (.ifCond .eq 7, 3) := by decide +kernel
theorem dX6_money_8 : decode cX6_money 8 = .ok (.iconst 0, 1) := by decide +kernel
theorem dX6_money_9 : decode cX6_money 9 = .ok (.goto 4, 3) := by decide +kernel
theorem dX6_money_12 : decode cX6_money 12 = .ok (.iconst 1, 1) := by decide +kernel
theorem dX6_money_13 : decode cX6_money 13 = .ok (.invokevirtual 89, 3) := by decide +kernel
theorem dX6_money_16 : decode cX6_money 16 = .ok (.ifCond .eq 7, 3) := by decide +kernel
theorem dX6_money_19 : decode cX6_money 19 = .ok (.iconst 0, 1) := by decide +kernel
theorem dX6_money_20 : decode cX6_money 20 = .ok (.goto 9, 3) := by decide +kernel
theorem dX6_money_23 : decode cX6_money 23 = .ok (.aload_n 0, 1) := by decide +kernel
theorem dX6_money_24 : decode cX6_money 24 = .ok (.getfield 44, 3) := by decide +kernel
theorem dX6_money_27 : decode cX6_money 27 = .ok (.iload_n 1, 1) := by decide +kernel
theorem dX6_money_28 : decode cX6_money 28 = .ok (.iaload, 1) := by decide +kernel
theorem dX6_money_29 : decode cX6_money 29 = .ok (.ireturn, 1) := by decide +kernel
set_option maxRecDepth 20000 in
theorem ggX6_lot_X6_in : GoodIn wsX6_lot wsX6_in := goodIn_r _ [9] (by decide +kernel) (by decide +kernel)
set_option maxRecDepth 20000 in
theorem gX6_lot_X6_in : GoodIn wsX6_lot (va_wsS RX6 72 yX6_in wsX6_in) := goodIn_app (goodIn_of _ (by decide +kernel)) ggX6_lot_X6_in
set_option maxRecDepth 20000 in
theorem ggX6_lot_X6_isPerson : GoodIn wsX6_lot wsX6_isPerson := goodIn_r _ [12, 6, 7, 8, 9] (by decide +kernel) (by decide +kernel)
set_option maxRecDepth 20000 in
theorem gX6_lot_X6_isPerson : GoodIn wsX6_lot (va_wsS RX6 85 yX6_isPerson wsX6_isPerson) := goodIn_app (goodIn_of _ (by decide +kernel)) ggX6_lot_X6_isPerson
set_option maxRecDepth 20000 in
theorem ggX6_lot_X6_refused : GoodIn wsX6_lot wsX6_refused := goodIn_r _ [16, 17, 18, 19, 20, 21, 22, 23, 24, 25, 26, 27, 28, 29, 30, 31, 32, 33, 34, 35, 36, 37, 38, 39, 40, 41, 42, 43] (by decide +kernel) (by decide +kernel)
set_option maxRecDepth 20000 in
theorem gX6_lot_X6_refused : GoodIn wsX6_lot (wsV RX6 89 RX6 yX6_refused wsX6_refused) := goodIn_app (goodIn_of _ (by decide +kernel)) ggX6_lot_X6_refused
theorem dX6_lot_0 : decode cX6_lot 0 = .ok (.iload_n 2, 1) := by decide +kernel
theorem dX6_lot_1 : decode cX6_lot 1 = .ok (.iconst 5, 1) := by decide +kernel
theorem dX6_lot_2 : decode cX6_lot 2 = .ok (.bipush 20, 2) := by decide +kernel
theorem dX6_lot_4 : decode cX6_lot 4 = .ok (.invokestatic 72, 3) := by decide +kernel
theorem dX6_lot_7 : decode cX6_lot 7 = .ok (.ifCond .eq 17, 3) := by decide +kernel
theorem dX6_lot_10 : decode cX6_lot 10 = .ok (.iload_n 3, 1) := by decide +kernel
theorem dX6_lot_11 : decode cX6_lot 11 = .ok (.iconst 1, 1) := by decide +kernel
theorem dX6_lot_12 : decode cX6_lot 12 = .ok (.ldc 152, 2) := by decide +kernel
theorem dX6_lot_14 : decode cX6_lot 14 = .ok (.invokestatic 72, 3) := by decide +kernel
theorem dX6_lot_17 : decode cX6_lot 17 = .ok (.ifCond .eq 7, 3) := by decide +kernel
theorem dX6_lot_20 : decode cX6_lot 20 = .ok (.iconst 1, 1) := by decide +kernel
theorem dX6_lot_21 : decode cX6_lot 21 = .ok (.goto 4, 3) := by decide +kernel
theorem dX6_lot_24 : decode cX6_lot 24 = .ok (.iconst 0, 1) := by decide +kernel
theorem dX6_lot_25 : decode cX6_lot 25 = .ok (.istore 4, 2) := by decide +kernel
theorem dX6_lot_27 : decode cX6_lot 27 = .ok (.aload_n 0, 1) := by decide +kernel
theorem dX6_lot_28 : decode cX6_lot 28 = .ok (.iload_n 1, 1) := by decide +kernel
theorem dX6_lot_29 : decode cX6_lot 29 = .ok (.invokestatic 85, 3) := by decide +kernel
theorem dX6_lot_32 : decode cX6_lot 32 = .ok (.ifCond .ne 7, 3) := by decide +kernel
theorem dX6_lot_35 : decode cX6_lot 35 = .ok (.iconst 1, 1) := by decide +kernel
theorem dX6_lot_36 : decode cX6_lot 36 = .ok (.goto 26, 3) := by decide +kernel
theorem dX6_lot_39 : decode cX6_lot 39 = .ok (.iload 4, 2) := by decide +kernel
theorem dX6_lot_41 : decode cX6_lot 41 = .ok (.ifCond .ne 7, 3) := by decide +kernel
theorem dX6_lot_44 : decode cX6_lot 44 = .ok (.iconst 2, 1) := by decide +kernel
theorem dX6_lot_45 : decode cX6_lot 45 = .ok (.goto 17, 3) := by decide +kernel
theorem dX6_lot_48 : decode cX6_lot 48 = .ok (.aload_n 0, 1) := by decide +kernel
theorem dX6_lot_49 : decode cX6_lot 49 = .ok (.getfield 79, 3) := by decide +kernel
theorem dX6_lot_52 : decode cX6_lot 52 = .ok (.bipush 20, 2) := by decide +kernel
theorem dX6_lot_54 : decode cX6_lot 54 = .ok (.if_icmp .ne 7, 3) := by decide +kernel
theorem dX6_lot_57 : decode cX6_lot 57 = .ok (.iconst 3, 1) := by decide +kernel
theorem dX6_lot_58 : decode cX6_lot 58 = .ok (.goto 4, 3) := by decide +kernel
theorem dX6_lot_61 : decode cX6_lot 61 = .ok (.iconst 0, 1) := by decide +kernel
theorem dX6_lot_62 : decode cX6_lot 62 = .ok (.invokevirtual 89, 3) := by decide +kernel
theorem dX6_lot_65 : decode cX6_lot 65 = .ok (.ifCond .eq 5, 3) := by decide +kernel
theorem dX6_lot_68 : decode cX6_lot 68 = .ok (.iconst 0, 1) := by decide +kernel
theorem dX6_lot_69 : decode cX6_lot 69 = .ok (.ireturn, 1) := by decide +kernel
theorem dX6_lot_70 : decode cX6_lot 70 = .ok (.aload_n 0, 1) := by decide +kernel
theorem dX6_lot_71 : decode cX6_lot 71 = .ok (.getfield 47, 3) := by decide +kernel
theorem dX6_lot_74 : decode cX6_lot 74 = .ok (.aload_n 0, 1) := by decide +kernel
theorem dX6_lot_75 : decode cX6_lot 75 = .ok (.getfield 79, 3) := by decide +kernel
theorem dX6_lot_78 : decode cX6_lot 78 = .ok (.iload_n 1, 1) := by decide +kernel
theorem dX6_lot_79 : decode cX6_lot 79 = .ok (.iastore, 1) := by decide +kernel
theorem dX6_lot_80 : decode cX6_lot 80 = .ok (.aload_n 0, 1) := by decide +kernel
theorem dX6_lot_81 : decode cX6_lot 81 = .ok (.getfield 50, 3) := by decide +kernel
theorem dX6_lot_84 : decode cX6_lot 84 = .ok (.aload_n 0, 1) := by decide +kernel
theorem dX6_lot_85 : decode cX6_lot 85 = .ok (.getfield 79, 3) := by decide +kernel
theorem dX6_lot_88 : decode cX6_lot 88 = .ok (.iload_n 2, 1) := by decide +kernel
theorem dX6_lot_89 : decode cX6_lot 89 = .ok (.iastore, 1) := by decide +kernel
theorem dX6_lot_90 : decode cX6_lot 90 = .ok (.aload_n 0, 1) := by decide +kernel
theorem dX6_lot_91 : decode cX6_lot 91 = .ok (.getfield 53, 3) := by decide +kernel
theorem dX6_lot_94 : decode cX6_lot 94 = .ok (.aload_n 0, 1) := by decide +kernel
theorem dX6_lot_95 : decode cX6_lot 95 = .ok (.getfield 79, 3) := by decide +kernel
theorem dX6_lot_98 : decode cX6_lot 98 = .ok (.iload_n 3, 1) := by decide +kernel
theorem dX6_lot_99 : decode cX6_lot 99 = .ok (.iastore, 1) := by decide +kernel
theorem dX6_lot_100 : decode cX6_lot 100 = .ok (.aload_n 0, 1) := by decide +kernel
theorem dX6_lot_101 : decode cX6_lot 101 = .ok (.dup, 1) := by decide +kernel
theorem dX6_lot_102 : decode cX6_lot 102 = .ok (.getfield 79, 3) := by decide +kernel
theorem dX6_lot_105 : decode cX6_lot 105 = .ok (.iconst 1, 1) := by decide +kernel
theorem dX6_lot_106 : decode cX6_lot 106 = .ok (.iadd, 1) := by decide +kernel
theorem dX6_lot_107 : decode cX6_lot 107 = .ok (.putfield 79, 3) := by decide +kernel
theorem dX6_lot_110 : decode cX6_lot 110 = .ok (.aload_n 0, 1) := by decide +kernel
theorem dX6_lot_111 : decode cX6_lot 111 = .ok (.getfield 79, 3) := by decide +kernel
theorem dX6_lot_114 : decode cX6_lot 114 = .ok (.iconst 1, 1) := by decide +kernel
theorem dX6_lot_115 : decode cX6_lot 115 = .ok (.isub, 1) := by decide +kernel
theorem dX6_lot_116 : decode cX6_lot 116 = .ok (.ireturn, 1) := by decide +kernel
set_option maxRecDepth 20000 in
theorem ggX6_swap_X6_isLot : GoodIn wsX6_swap wsX6_isLot := goodIn_r _ [6, 7, 8, 9, 5, 10, 16, 17, 18, 19, 20, 21, 22, 23, 24, 25, 26, 27, 28, 29, 30, 31, 32, 33, 34, 35, 36, 37, 38, 39, 40, 41] (by decide +kernel) (by decide +kernel)
set_option maxRecDepth 20000 in
theorem gX6_swap_X6_isLot : GoodIn wsX6_swap (wsV RX6 153 RX6 yX6_isLot wsX6_isLot) := goodIn_app (goodIn_of _ (by decide +kernel)) ggX6_swap_X6_isLot
set_option maxRecDepth 20000 in
theorem ggX6_swap_X6_refused : GoodIn wsX6_swap wsX6_refused := goodIn_r _ [14, 15, 16, 17, 18, 19, 20, 21, 22, 23, 24, 25, 26, 27, 28, 29, 30, 31, 32, 33, 34, 35, 36, 37, 38, 39, 40, 41] (by decide +kernel) (by decide +kernel)
set_option maxRecDepth 20000 in
theorem gX6_swap_X6_refused : GoodIn wsX6_swap (wsV RX6 89 RX6 yX6_refused wsX6_refused) := goodIn_app (goodIn_of _ (by decide +kernel)) ggX6_swap_X6_refused
theorem dX6_swap_0 : decode cX6_swap 0 = .ok (.aload_n 0, 1) := by decide +kernel
theorem dX6_swap_1 : decode cX6_swap 1 = .ok (.iload_n 1, 1) := by decide +kernel
theorem dX6_swap_2 : decode cX6_swap 2 = .ok (.invokevirtual 153, 3) := by decide +kernel
theorem dX6_swap_5 : decode cX6_swap 5 = .ok (.ifCond .eq 15, 3) := by decide +kernel
theorem dX6_swap_8 : decode cX6_swap 8 = .ok (.aload_n 0, 1) := by decide +kernel
theorem dX6_swap_9 : decode cX6_swap 9 = .ok (.iload_n 2, 1) := by decide +kernel
theorem dX6_swap_10 : decode cX6_swap 10 = .ok (.invokevirtual 153, 3) := by decide +kernel
theorem dX6_swap_13 : decode cX6_swap 13 = .ok (.ifCond .eq 7, 3) := by decide +kernel
theorem dX6_swap_16 : decode cX6_swap 16 = .ok (.iconst 1, 1) := by decide +kernel
theorem dX6_swap_17 : decode cX6_swap 17 = .ok (.goto 4, 3) := by decide +kernel
theorem dX6_swap_20 : decode cX6_swap 20 = .ok (.iconst 0, 1) := by decide +kernel
theorem dX6_swap_21 : decode cX6_swap 21 = .ok (.istore_n 3, 1) := by decide +kernel
theorem dX6_swap_22 : decode cX6_swap 22 = .ok (.aload_n 0, 1) := by decide +kernel
theorem dX6_swap_23 : decode cX6_swap 23 = .ok (.iload_n 3, 1) := by decide +kernel
theorem dX6_swap_24 : decode cX6_swap 24 = .ok (.ifCond .ne 7, 3) := by decide +kernel
theorem dX6_swap_27 : decode cX6_swap 27 = .ok (.iconst 1, 1) := by decide +kernel
theorem dX6_swap_28 : decode cX6_swap 28 = .ok (.goto 23, 3) := by decide +kernel
theorem dX6_swap_31 : decode cX6_swap 31 = .ok (.aload_n 0, 1) := by decide +kernel
theorem dX6_swap_32 : decode cX6_swap 32 = .ok (.getfield 47, 3) := by decide +kernel
theorem dX6_swap_35 : decode cX6_swap 35 = .ok (.iload_n 1, 1) := by decide +kernel
theorem dX6_swap_36 : decode cX6_swap 36 = .ok (.iaload, 1) := by decide +kernel
theorem dX6_swap_37 : decode cX6_swap 37 = .ok (.aload_n 0, 1) := by decide +kernel
theorem dX6_swap_38 : decode cX6_swap 38 = .ok (.getfield 47, 3) := by decide +kernel
theorem dX6_swap_41 : decode cX6_swap 41 = .ok (.iload_n 2, 1) := by decide +kernel
theorem dX6_swap_42 : decode cX6_swap 42 = .ok (.iaload, 1) := by decide +kernel
theorem dX6_swap_43 : decode cX6_swap 43 = .ok (.if_icmp .ne 7, 3) := by decide +kernel
theorem dX6_swap_46 : decode cX6_swap 46 = .ok (.iconst 2, 1) := by decide +kernel
theorem dX6_swap_47 : decode cX6_swap 47 = .ok (.goto 4, 3) := by decide +kernel
theorem dX6_swap_50 : decode cX6_swap 50 = .ok (.iconst 0, 1) := by decide +kernel
theorem dX6_swap_51 : decode cX6_swap 51 = .ok (.invokevirtual 89, 3) := by decide +kernel
theorem dX6_swap_54 : decode cX6_swap 54 = .ok (.ifCond .eq 5, 3) := by decide +kernel
theorem dX6_swap_57 : decode cX6_swap 57 = .ok (.iconst 0, 1) := by decide +kernel
theorem dX6_swap_58 : decode cX6_swap 58 = .ok (.ireturn, 1) := by decide +kernel
theorem dX6_swap_59 : decode cX6_swap 59 = .ok (.aload_n 0, 1) := by decide +kernel
theorem dX6_swap_60 : decode cX6_swap 60 = .ok (.getfield 47, 3) := by decide +kernel
theorem dX6_swap_63 : decode cX6_swap 63 = .ok (.iload_n 1, 1) := by decide +kernel
theorem dX6_swap_64 : decode cX6_swap 64 = .ok (.iaload, 1) := by decide +kernel
theorem dX6_swap_65 : decode cX6_swap 65 = .ok (.istore 4, 2) := by decide +kernel
theorem dX6_swap_67 : decode cX6_swap 67 = .ok (.aload_n 0, 1) := by decide +kernel
theorem dX6_swap_68 : decode cX6_swap 68 = .ok (.getfield 47, 3) := by decide +kernel
theorem dX6_swap_71 : decode cX6_swap 71 = .ok (.iload_n 1, 1) := by decide +kernel
theorem dX6_swap_72 : decode cX6_swap 72 = .ok (.aload_n 0, 1) := by decide +kernel
theorem dX6_swap_73 : decode cX6_swap 73 = .ok (.getfield 47, 3) := by decide +kernel
theorem dX6_swap_76 : decode cX6_swap 76 = .ok (.iload_n 2, 1) := by decide +kernel
theorem dX6_swap_77 : decode cX6_swap 77 = .ok (.iaload, 1) := by decide +kernel
theorem dX6_swap_78 : decode cX6_swap 78 = .ok (.iastore, 1) := by decide +kernel
theorem dX6_swap_79 : decode cX6_swap 79 = .ok (.aload_n 0, 1) := by decide +kernel
theorem dX6_swap_80 : decode cX6_swap 80 = .ok (.getfield 47, 3) := by decide +kernel
theorem dX6_swap_83 : decode cX6_swap 83 = .ok (.iload_n 2, 1) := by decide +kernel
theorem dX6_swap_84 : decode cX6_swap 84 = .ok (.iload 4, 2) := by decide +kernel
theorem dX6_swap_86 : decode cX6_swap 86 = .ok (.iastore, 1) := by decide +kernel
theorem dX6_swap_87 : decode cX6_swap 87 = .ok (.aload_n 0, 1) := by decide +kernel
theorem dX6_swap_88 : decode cX6_swap 88 = .ok (.getfield 47, 3) := by decide +kernel
theorem dX6_swap_91 : decode cX6_swap 91 = .ok (.iload_n 1, 1) := by decide +kernel
theorem dX6_swap_92 : decode cX6_swap 92 = .ok (.iaload, 1) := by decide +kernel
theorem dX6_swap_93 : decode cX6_swap 93 = .ok (.ireturn, 1) := by decide +kernel
set_option maxRecDepth 20000 in
theorem ggX6_left_X6_isLot : GoodIn wsX6_left wsX6_isLot := goodIn_r _ [6, 7, 8, 9, 5, 10, 16, 17, 18, 19, 20, 21, 22, 23, 24, 25, 26, 27, 28, 29, 30, 31, 32, 33, 34, 35, 36, 37, 38, 39, 40, 41] (by decide +kernel) (by decide +kernel)
set_option maxRecDepth 20000 in
theorem gX6_left_X6_isLot : GoodIn wsX6_left (wsV RX6 153 RX6 yX6_isLot wsX6_isLot) := goodIn_app (goodIn_of _ (by decide +kernel)) ggX6_left_X6_isLot
set_option maxRecDepth 20000 in
theorem ggX6_left_X6_refused : GoodIn wsX6_left wsX6_refused := goodIn_r _ [14, 15, 16, 17, 18, 19, 20, 21, 22, 23, 24, 25, 26, 27, 28, 29, 30, 31, 32, 33, 34, 35, 36, 37, 38, 39, 40, 41] (by decide +kernel) (by decide +kernel)
set_option maxRecDepth 20000 in
theorem gX6_left_X6_refused : GoodIn wsX6_left (wsV RX6 89 RX6 yX6_refused wsX6_refused) := goodIn_app (goodIn_of _ (by decide +kernel)) ggX6_left_X6_refused
theorem dX6_left_0 : decode cX6_left 0 = .ok (.aload_n 0, 1) := by decide +kernel
theorem dX6_left_1 : decode cX6_left 1 = .ok (.aload_n 0, 1) := by decide +kernel
theorem dX6_left_2 : decode cX6_left 2 = .ok (.iload_n 1, 1) := by decide +kernel
theorem dX6_left_3 : decode cX6_left 3 = .ok (.invokevirtual 153, 3) := by decide +kernel
theorem dX6_left_6 : decode cX6_left 6 = .ok (.ifCond .eq 7, 3) := by decide +kernel
theorem dX6_left_9 : decode cX6_left 9 = .ok (.iconst 0, 1) := by decide +kernel
theorem dX6_left_10 : decode cX6_left 10 = .ok (.goto 4, 3) := by decide +kernel
theorem dX6_left_13 : decode cX6_left 13 = .ok (.iconst 1, 1) := by decide +kernel
theorem dX6_left_14 : decode cX6_left 14 = .ok (.invokevirtual 89, 3) := by decide +kernel
theorem dX6_left_17 : decode cX6_left 17 = .ok (.ifCond .eq 7, 3) := by decide +kernel
theorem dX6_left_20 : decode cX6_left 20 = .ok (.iconst 0, 1) := by decide +kernel
theorem dX6_left_21 : decode cX6_left 21 = .ok (.goto 9, 3) := by decide +kernel
theorem dX6_left_24 : decode cX6_left 24 = .ok (.aload_n 0, 1) := by decide +kernel
theorem dX6_left_25 : decode cX6_left 25 = .ok (.getfield 53, 3) := by decide +kernel
theorem dX6_left_28 : decode cX6_left 28 = .ok (.iload_n 1, 1) := by decide +kernel
theorem dX6_left_29 : decode cX6_left 29 = .ok (.iaload, 1) := by decide +kernel
theorem dX6_left_30 : decode cX6_left 30 = .ok (.ireturn, 1) := by decide +kernel
set_option maxRecDepth 20000 in
theorem ggX6_project_X6_isPerson : GoodIn wsX6_project wsX6_isPerson := goodIn_r _ [10, 11, 12, 9, 13] (by decide +kernel) (by decide +kernel)
set_option maxRecDepth 20000 in
theorem gX6_project_X6_isPerson : GoodIn wsX6_project (va_wsS RX6 85 yX6_isPerson wsX6_isPerson) := goodIn_app (goodIn_of _ (by decide +kernel)) ggX6_project_X6_isPerson
set_option maxRecDepth 20000 in
theorem ggX6_project_X6_isPattern : GoodIn wsX6_project wsX6_isPattern := goodIn_r _ [17, 18, 11, 12, 9, 13, 39, 40, 41, 42, 43, 44, 45, 46, 47, 48, 49, 50, 51, 52, 53, 54, 55, 56, 57, 58, 59, 60, 61, 62, 63, 64] (by decide +kernel) (by decide +kernel)
set_option maxRecDepth 20000 in
theorem gX6_project_X6_isPattern : GoodIn wsX6_project (wsV RX6 96 RX6 yX6_isPattern wsX6_isPattern) := goodIn_app (goodIn_of _ (by decide +kernel)) ggX6_project_X6_isPattern
set_option maxRecDepth 20000 in
theorem ggX6_project_X6_isLot : GoodIn wsX6_project wsX6_isLot := goodIn_r _ [22, 23, 11, 12, 9, 13, 39, 40, 41, 42, 43, 44, 45, 46, 47, 48, 49, 50, 51, 52, 53, 54, 55, 56, 57, 58, 59, 60, 61, 62, 63, 64] (by decide +kernel) (by decide +kernel)
set_option maxRecDepth 20000 in
theorem gX6_project_X6_isLot : GoodIn wsX6_project (wsV RX6 153 RX6 yX6_isLot wsX6_isLot) := goodIn_app (goodIn_of _ (by decide +kernel)) ggX6_project_X6_isLot
set_option maxRecDepth 20000 in
theorem ggX6_project_X6_isPublished : GoodIn wsX6_project wsX6_isPublished := goodIn_r _ [27, 28, 39, 40, 41, 42, 43, 44, 45, 46, 47, 48, 49, 50, 51, 52, 53, 54, 55, 56, 57, 58, 59, 60, 61, 62, 63, 64] (by decide +kernel) (by decide +kernel)
set_option maxRecDepth 20000 in
theorem gX6_project_X6_isPublished : GoodIn wsX6_project (wsV RX6 99 RX6 yX6_isPublished wsX6_isPublished) := goodIn_app (goodIn_of _ (by decide +kernel)) ggX6_project_X6_isPublished
set_option maxRecDepth 20000 in
theorem ggX6_project_X6_hasBought : GoodIn wsX6_project wsX6_hasBought := goodIn_r _ [32, 33, 39, 40, 41, 42, 43, 44, 45, 46, 47, 48, 49, 50, 51, 52, 53, 54, 55, 56, 57, 58, 59, 60, 61, 62, 63, 64] (by decide +kernel) (by decide +kernel)
set_option maxRecDepth 20000 in
theorem gX6_project_X6_hasBought : GoodIn wsX6_project (wsV RX6 149 RX6 yX6_hasBought wsX6_hasBought) := goodIn_app (goodIn_of _ (by decide +kernel)) ggX6_project_X6_hasBought
set_option maxRecDepth 20000 in
theorem ggX6_project_X6_refused : GoodIn wsX6_project wsX6_refused := goodIn_r _ [37, 38, 39, 40, 41, 42, 43, 44, 45, 46, 47, 48, 49, 50, 51, 52, 53, 54, 55, 56, 57, 58, 59, 60, 61, 62, 63, 64] (by decide +kernel) (by decide +kernel)
set_option maxRecDepth 20000 in
theorem gX6_project_X6_refused : GoodIn wsX6_project (wsV RX6 89 RX6 yX6_refused wsX6_refused) := goodIn_app (goodIn_of _ (by decide +kernel)) ggX6_project_X6_refused
theorem dX6_project_0 : decode cX6_project 0 = .ok (.iload_n 1, 1) := by decide +kernel
theorem dX6_project_1 : decode cX6_project 1 = .ok (.invokestatic 85, 3) := by decide +kernel
theorem dX6_project_4 : decode cX6_project 4 = .ok (.ifCond .eq 23, 3) := by decide +kernel
theorem dX6_project_7 : decode cX6_project 7 = .ok (.aload_n 0, 1) := by decide +kernel
theorem dX6_project_8 : decode cX6_project 8 = .ok (.iload_n 2, 1) := by decide +kernel
theorem dX6_project_9 : decode cX6_project 9 = .ok (.invokevirtual 96, 3) := by decide +kernel
theorem dX6_project_12 : decode cX6_project 12 = .ok (.ifCond .eq 15, 3) := by decide +kernel
theorem dX6_project_15 : decode cX6_project 15 = .ok (.aload_n 0, 1) := by decide +kernel
theorem dX6_project_16 : decode cX6_project 16 = .ok (.iload_n 3, 1) := by decide +kernel
theorem dX6_project_17 : decode cX6_project 17 = .ok (.invokevirtual 153, 3) := by decide +kernel
theorem dX6_project_20 : decode cX6_project 20 = .ok (.ifCond .eq 7, 3) := by decide +kernel
theorem dX6_project_23 : decode cX6_project 23 = .ok (.iconst 1, 1) := by decide +kernel
theorem dX6_project_24 : decode cX6_project 24 = .ok (.goto 4, 3) := by decide +kernel
theorem dX6_project_27 : decode cX6_project 27 = .ok (.iconst 0, 1) := by decide +kernel
theorem dX6_project_28 : decode cX6_project 28 = .ok (.istore 4, 2) := by decide +kernel
theorem dX6_project_30 : decode cX6_project 30 = .ok (.iload 4, 2) := by decide +kernel
theorem dX6_project_32 : decode cX6_project 32 = .ok (.ifCond .eq 53, 3) := by decide +kernel
theorem dX6_project_35 : decode cX6_project 35 = .ok (.aload_n 0, 1) := by decide +kernel
theorem dX6_project_36 : decode cX6_project 36 = .ok (.iload_n 2, 1) := by decide +kernel
theorem dX6_project_37 : decode cX6_project 37 = .ok (.invokevirtual 99, 3) := by decide +kernel
theorem dX6_project_40 : decode cX6_project 40 = .ok (.ifCond .eq 45, 3) := by decide +kernel
theorem dX6_project_43 : decode cX6_project 43 = .ok (.aload_n 0, 1) := by decide +kernel
theorem dX6_project_44 : decode cX6_project 44 = .ok (.getfield 7, 3) := by decide +kernel
theorem dX6_project_47 : decode cX6_project 47 = .ok (.iload_n 2, 1) := by decide +kernel
theorem dX6_project_48 : decode cX6_project 48 = .ok (.iaload, 1) := by decide +kernel
theorem dX6_project_49 : decode cX6_project 49 = .ok (.iload_n 1, 1) := by decide +kernel
theorem dX6_project_50 : decode cX6_project 50 = .ok (.if_icmp .eq 12, 3) := by decide +kernel
theorem dX6_project_53 : decode cX6_project 53 = .ok (.aload_n 0, 1) := by decide +kernel
theorem dX6_project_54 : decode cX6_project 54 = .ok (.iload_n 2, 1) := by decide +kernel
theorem dX6_project_55 : decode cX6_project 55 = .ok (.iload_n 1, 1) := by decide +kernel
theorem dX6_project_56 : decode cX6_project 56 = .ok (.invokevirtual 149, 3) := by decide +kernel
theorem dX6_project_59 : decode cX6_project 59 = .ok (.ifCond .eq 26, 3) := by decide +kernel
theorem dX6_project_62 : decode cX6_project 62 = .ok (.aload_n 0, 1) := by decide +kernel
theorem dX6_project_63 : decode cX6_project 63 = .ok (.getfield 47, 3) := by decide +kernel
theorem dX6_project_66 : decode cX6_project 66 = .ok (.iload_n 3, 1) := by decide +kernel
theorem dX6_project_67 : decode cX6_project 67 = .ok (.iaload, 1) := by decide +kernel
theorem dX6_project_68 : decode cX6_project 68 = .ok (.iload_n 1, 1) := by decide +kernel
theorem dX6_project_69 : decode cX6_project 69 = .ok (.if_icmp .ne 16, 3) := by decide +kernel
theorem dX6_project_72 : decode cX6_project 72 = .ok (.aload_n 0, 1) := by decide +kernel
theorem dX6_project_73 : decode cX6_project 73 = .ok (.getfield 82, 3) := by decide +kernel
theorem dX6_project_76 : decode cX6_project 76 = .ok (.bipush 12, 2) := by decide +kernel
theorem dX6_project_78 : decode cX6_project 78 = .ok (.if_icmp .ge 7, 3) := by decide +kernel
theorem dX6_project_81 : decode cX6_project 81 = .ok (.iconst 1, 1) := by decide +kernel
theorem dX6_project_82 : decode cX6_project 82 = .ok (.goto 4, 3) := by decide +kernel
theorem dX6_project_85 : decode cX6_project 85 = .ok (.iconst 0, 1) := by decide +kernel
theorem dX6_project_86 : decode cX6_project 86 = .ok (.istore 5, 2) := by decide +kernel
theorem dX6_project_88 : decode cX6_project 88 = .ok (.aload_n 0, 1) := by decide +kernel
theorem dX6_project_89 : decode cX6_project 89 = .ok (.iload 4, 2) := by decide +kernel
theorem dX6_project_91 : decode cX6_project 91 = .ok (.ifCond .ne 7, 3) := by decide +kernel
theorem dX6_project_94 : decode cX6_project 94 = .ok (.iconst 1, 1) := by decide +kernel
theorem dX6_project_95 : decode cX6_project 95 = .ok (.goto 13, 3) := by decide +kernel
theorem dX6_project_98 : decode cX6_project 98 = .ok (.iload 5, 2) := by decide +kernel
theorem dX6_project_100 : decode cX6_project 100 = .ok (.ifCond .eq 7, 3) := by decide +kernel
theorem dX6_project_103 : decode cX6_project 103 = .ok (.iconst 0, 1) := by decide +kernel
theorem dX6_project_104 : decode cX6_project 104 = .ok (.goto 4, 3) := by decide +kernel
theorem dX6_project_107 : decode cX6_project 107 = .ok (.iconst 2, 1) := by decide +kernel
theorem dX6_project_108 : decode cX6_project 108 = .ok (.invokevirtual 89, 3) := by decide +kernel
theorem dX6_project_111 : decode cX6_project 111 = .ok (.ifCond .eq 5, 3) := by decide +kernel
theorem dX6_project_114 : decode cX6_project 114 = .ok (.iconst 0, 1) := by decide +kernel
theorem dX6_project_115 : decode cX6_project 115 = .ok (.ireturn, 1) := by decide +kernel
theorem dX6_project_116 : decode cX6_project 116 = .ok (.aload_n 0, 1) := by decide +kernel
theorem dX6_project_117 : decode cX6_project 117 = .ok (.getfield 56, 3) := by decide +kernel
theorem dX6_project_120 : decode cX6_project 120 = .ok (.aload_n 0, 1) := by decide +kernel
theorem dX6_project_121 : decode cX6_project 121 = .ok (.getfield 82, 3) := by decide +kernel
theorem dX6_project_124 : decode cX6_project 124 = .ok (.iload_n 1, 1) := by decide +kernel
theorem dX6_project_125 : decode cX6_project 125 = .ok (.iastore, 1) := by decide +kernel
theorem dX6_project_126 : decode cX6_project 126 = .ok (.aload_n 0, 1) := by decide +kernel
theorem dX6_project_127 : decode cX6_project 127 = .ok (.getfield 59, 3) := by decide +kernel
theorem dX6_project_130 : decode cX6_project 130 = .ok (.aload_n 0, 1) := by decide +kernel
theorem dX6_project_131 : decode cX6_project 131 = .ok (.getfield 82, 3) := by decide +kernel
theorem dX6_project_134 : decode cX6_project 134 = .ok (.iload_n 2, 1) := by decide +kernel
theorem dX6_project_135 : decode cX6_project 135 = .ok (.iastore, 1) := by decide +kernel
theorem dX6_project_136 : decode cX6_project 136 = .ok (.aload_n 0, 1) := by decide +kernel
theorem dX6_project_137 : decode cX6_project 137 = .ok (.getfield 62, 3) := by decide +kernel
theorem dX6_project_140 : decode cX6_project 140 = .ok (.aload_n 0, 1) := by decide +kernel
theorem dX6_project_141 : decode cX6_project 141 = .ok (.getfield 82, 3) := by decide +kernel
theorem dX6_project_144 : decode cX6_project 144 = .ok (.iload_n 3, 1) := by decide +kernel
theorem dX6_project_145 : decode cX6_project 145 = .ok (.iastore, 1) := by decide +kernel
theorem dX6_project_146 : decode cX6_project 146 = .ok (.aload_n 0, 1) := by decide +kernel
theorem dX6_project_147 : decode cX6_project 147 = .ok (.dup, 1) := by decide +kernel
theorem dX6_project_148 : decode cX6_project 148 = .ok (.getfield 82, 3) := by decide +kernel
theorem dX6_project_151 : decode cX6_project 151 = .ok (.iconst 1, 1) := by decide +kernel
theorem dX6_project_152 : decode cX6_project 152 = .ok (.iadd, 1) := by decide +kernel
theorem dX6_project_153 : decode cX6_project 153 = .ok (.putfield 82, 3) := by decide +kernel
theorem dX6_project_156 : decode cX6_project 156 = .ok (.aload_n 0, 1) := by decide +kernel
theorem dX6_project_157 : decode cX6_project 157 = .ok (.getfield 82, 3) := by decide +kernel
theorem dX6_project_160 : decode cX6_project 160 = .ok (.iconst 1, 1) := by decide +kernel
theorem dX6_project_161 : decode cX6_project 161 = .ok (.isub, 1) := by decide +kernel
theorem dX6_project_162 : decode cX6_project 162 = .ok (.ireturn, 1) := by decide +kernel
set_option maxRecDepth 20000 in
theorem ggX6_take_X6_isProject : GoodIn wsX6_take wsX6_isProject := goodIn_r _ [8, 9, 10, 11, 7, 12, 23, 24, 25, 26, 27, 28, 29, 30, 31, 32, 33, 34, 35, 36, 37, 38, 39, 40, 41, 42, 43, 44, 45, 46, 47, 48] (by decide +kernel) (by decide +kernel)
set_option maxRecDepth 20000 in
theorem gX6_take_X6_isProject : GoodIn wsX6_take (wsV RX6 156 RX6 yX6_isProject wsX6_isProject) := goodIn_app (goodIn_of _ (by decide +kernel)) ggX6_take_X6_isProject
set_option maxRecDepth 20000 in
theorem ggX6_take_X6_isLot : GoodIn wsX6_take wsX6_isLot := goodIn_r _ [16, 17, 10, 11, 7, 12, 23, 24, 25, 26, 27, 28, 29, 30, 31, 32, 33, 34, 35, 36, 37, 38, 39, 40, 41, 42, 43, 44, 45, 46, 47, 48] (by decide +kernel) (by decide +kernel)
set_option maxRecDepth 20000 in
theorem gX6_take_X6_isLot : GoodIn wsX6_take (wsV RX6 153 RX6 yX6_isLot wsX6_isLot) := goodIn_app (goodIn_of _ (by decide +kernel)) ggX6_take_X6_isLot
set_option maxRecDepth 20000 in
theorem ggX6_take_X6_refused : GoodIn wsX6_take wsX6_refused := goodIn_r _ [21, 22, 23, 24, 25, 26, 27, 28, 29, 30, 31, 32, 33, 34, 35, 36, 37, 38, 39, 40, 41, 42, 43, 44, 45, 46, 47, 48] (by decide +kernel) (by decide +kernel)
set_option maxRecDepth 20000 in
theorem gX6_take_X6_refused : GoodIn wsX6_take (wsV RX6 89 RX6 yX6_refused wsX6_refused) := goodIn_app (goodIn_of _ (by decide +kernel)) ggX6_take_X6_refused
theorem dX6_take_0 : decode cX6_take 0 = .ok (.aload_n 0, 1) := by decide +kernel
theorem dX6_take_1 : decode cX6_take 1 = .ok (.iload_n 1, 1) := by decide +kernel
theorem dX6_take_2 : decode cX6_take 2 = .ok (.invokevirtual 156, 3) := by decide +kernel
theorem dX6_take_5 : decode cX6_take 5 = .ok (.ifCond .eq 15, 3) := by decide +kernel
theorem dX6_take_8 : decode cX6_take 8 = .ok (.aload_n 0, 1) := by decide +kernel
theorem dX6_take_9 : decode cX6_take 9 = .ok (.iload_n 2, 1) := by decide +kernel
theorem dX6_take_10 : decode cX6_take 10 = .ok (.invokevirtual 153, 3) := by decide +kernel
theorem dX6_take_13 : decode cX6_take 13 = .ok (.ifCond .eq 7, 3) := by decide +kernel
theorem dX6_take_16 : decode cX6_take 16 = .ok (.iconst 1, 1) := by decide +kernel
theorem dX6_take_17 : decode cX6_take 17 = .ok (.goto 4, 3) := by decide +kernel
theorem dX6_take_20 : decode cX6_take 20 = .ok (.iconst 0, 1) := by decide +kernel
theorem dX6_take_21 : decode cX6_take 21 = .ok (.istore_n 3, 1) := by decide +kernel
theorem dX6_take_22 : decode cX6_take 22 = .ok (.aload_n 0, 1) := by decide +kernel
theorem dX6_take_23 : decode cX6_take 23 = .ok (.iload_n 3, 1) := by decide +kernel
theorem dX6_take_24 : decode cX6_take 24 = .ok (.ifCond .ne 7, 3) := by decide +kernel
theorem dX6_take_27 : decode cX6_take 27 = .ok (.iconst 1, 1) := by decide +kernel
theorem dX6_take_28 : decode cX6_take 28 = .ok (.goto 23, 3) := by decide +kernel
theorem dX6_take_31 : decode cX6_take 31 = .ok (.aload_n 0, 1) := by decide +kernel
theorem dX6_take_32 : decode cX6_take 32 = .ok (.getfield 47, 3) := by decide +kernel
theorem dX6_take_35 : decode cX6_take 35 = .ok (.iload_n 2, 1) := by decide +kernel
theorem dX6_take_36 : decode cX6_take 36 = .ok (.iaload, 1) := by decide +kernel
theorem dX6_take_37 : decode cX6_take 37 = .ok (.aload_n 0, 1) := by decide +kernel
theorem dX6_take_38 : decode cX6_take 38 = .ok (.getfield 56, 3) := by decide +kernel
theorem dX6_take_41 : decode cX6_take 41 = .ok (.iload_n 1, 1) := by decide +kernel
theorem dX6_take_42 : decode cX6_take 42 = .ok (.iaload, 1) := by decide +kernel
theorem dX6_take_43 : decode cX6_take 43 = .ok (.if_icmp .ne 7, 3) := by decide +kernel
theorem dX6_take_46 : decode cX6_take 46 = .ok (.iconst 0, 1) := by decide +kernel
theorem dX6_take_47 : decode cX6_take 47 = .ok (.goto 4, 3) := by decide +kernel
theorem dX6_take_50 : decode cX6_take 50 = .ok (.iconst 2, 1) := by decide +kernel
theorem dX6_take_51 : decode cX6_take 51 = .ok (.invokevirtual 89, 3) := by decide +kernel
theorem dX6_take_54 : decode cX6_take 54 = .ok (.ifCond .eq 5, 3) := by decide +kernel
theorem dX6_take_57 : decode cX6_take 57 = .ok (.iconst 0, 1) := by decide +kernel
theorem dX6_take_58 : decode cX6_take 58 = .ok (.ireturn, 1) := by decide +kernel
theorem dX6_take_59 : decode cX6_take 59 = .ok (.aload_n 0, 1) := by decide +kernel
theorem dX6_take_60 : decode cX6_take 60 = .ok (.getfield 62, 3) := by decide +kernel
theorem dX6_take_63 : decode cX6_take 63 = .ok (.iload_n 1, 1) := by decide +kernel
theorem dX6_take_64 : decode cX6_take 64 = .ok (.iaload, 1) := by decide +kernel
theorem dX6_take_65 : decode cX6_take 65 = .ok (.istore 4, 2) := by decide +kernel
theorem dX6_take_67 : decode cX6_take 67 = .ok (.aload_n 0, 1) := by decide +kernel
theorem dX6_take_68 : decode cX6_take 68 = .ok (.getfield 62, 3) := by decide +kernel
theorem dX6_take_71 : decode cX6_take 71 = .ok (.iload_n 1, 1) := by decide +kernel
theorem dX6_take_72 : decode cX6_take 72 = .ok (.iload_n 2, 1) := by decide +kernel
theorem dX6_take_73 : decode cX6_take 73 = .ok (.iastore, 1) := by decide +kernel
theorem dX6_take_74 : decode cX6_take 74 = .ok (.iload 4, 2) := by decide +kernel
theorem dX6_take_76 : decode cX6_take 76 = .ok (.ireturn, 1) := by decide +kernel
set_option maxRecDepth 20000 in
theorem ggX6_knitsRow_X6_rowsOf : GoodIn wsX6_knitsRow wsX6_rowsOf := goodIn_r _ [12, 13, 14, 33, 34, 35, 36, 37, 38, 39, 40, 41, 42, 43, 44, 45, 46, 47, 48, 49, 50, 51, 52, 53, 54, 55, 56, 57, 58] (by decide +kernel) (by decide +kernel)
set_option maxRecDepth 20000 in
theorem gX6_knitsRow_X6_rowsOf : GoodIn wsX6_knitsRow (wsV RX6 102 RX6 yX6_rowsOf wsX6_rowsOf) := goodIn_app (goodIn_of _ (by decide +kernel)) ggX6_knitsRow_X6_rowsOf
set_option maxRecDepth 20000 in
theorem ggX6_knitsRow_X6_rowNeed : GoodIn wsX6_knitsRow wsX6_rowNeed := goodIn_r _ [18, 19, 20, 21, 22, 11, 23, 24, 25, 14, 26, 27, 28, 29, 30, 31, 32, 33, 34, 35, 36, 37, 38, 39, 40, 41, 42, 43, 44, 45, 46, 47, 48, 49, 50, 51, 52, 53, 54, 55, 56, 57, 58] (by decide +kernel) (by decide +kernel)
set_option maxRecDepth 20000 in
theorem gX6_knitsRow_X6_rowNeed : GoodIn wsX6_knitsRow (wsV RX6 146 RX6 yX6_rowNeed wsX6_rowNeed) := goodIn_app (goodIn_of _ (by decide +kernel)) ggX6_knitsRow_X6_rowNeed
theorem dX6_knitsRow_0 : decode cX6_knitsRow 0 = .ok (.aload_n 0, 1) := by decide +kernel
theorem dX6_knitsRow_1 : decode cX6_knitsRow 1 = .ok (.getfield 59, 3) := by decide +kernel
theorem dX6_knitsRow_4 : decode cX6_knitsRow 4 = .ok (.iload_n 1, 1) := by decide +kernel
theorem dX6_knitsRow_5 : decode cX6_knitsRow 5 = .ok (.iaload, 1) := by decide +kernel
theorem dX6_knitsRow_6 : decode cX6_knitsRow 6 = .ok (.istore_n 2, 1) := by decide +kernel
theorem dX6_knitsRow_7 : decode cX6_knitsRow 7 = .ok (.aload_n 0, 1) := by decide +kernel
theorem dX6_knitsRow_8 : decode cX6_knitsRow 8 = .ok (.getfield 62, 3) := by decide +kernel
theorem dX6_knitsRow_11 : decode cX6_knitsRow 11 = .ok (.iload_n 1, 1) := by decide +kernel
theorem dX6_knitsRow_12 : decode cX6_knitsRow 12 = .ok (.iaload, 1) := by decide +kernel
theorem dX6_knitsRow_13 : decode cX6_knitsRow 13 = .ok (.istore_n 3, 1) := by decide +kernel
theorem dX6_knitsRow_14 : decode cX6_knitsRow 14 = .ok (.aload_n 0, 1) := by decide +kernel
theorem dX6_knitsRow_15 : decode cX6_knitsRow 15 = .ok (.getfield 47, 3) := by decide +kernel
theorem dX6_knitsRow_18 : decode cX6_knitsRow 18 = .ok (.iload_n 3, 1) := by decide +kernel
theorem dX6_knitsRow_19 : decode cX6_knitsRow 19 = .ok (.iaload, 1) := by decide +kernel
theorem dX6_knitsRow_20 : decode cX6_knitsRow 20 = .ok (.aload_n 0, 1) := by decide +kernel
theorem dX6_knitsRow_21 : decode cX6_knitsRow 21 = .ok (.getfield 56, 3) := by decide +kernel
theorem dX6_knitsRow_24 : decode cX6_knitsRow 24 = .ok (.iload_n 1, 1) := by decide +kernel
theorem dX6_knitsRow_25 : decode cX6_knitsRow 25 = .ok (.iaload, 1) := by decide +kernel
theorem dX6_knitsRow_26 : decode cX6_knitsRow 26 = .ok (.if_icmp .ne 17, 3) := by decide +kernel
theorem dX6_knitsRow_29 : decode cX6_knitsRow 29 = .ok (.aload_n 0, 1) := by decide +kernel
theorem dX6_knitsRow_30 : decode cX6_knitsRow 30 = .ok (.getfield 65, 3) := by decide +kernel
theorem dX6_knitsRow_33 : decode cX6_knitsRow 33 = .ok (.iload_n 1, 1) := by decide +kernel
theorem dX6_knitsRow_34 : decode cX6_knitsRow 34 = .ok (.iaload, 1) := by decide +kernel
theorem dX6_knitsRow_35 : decode cX6_knitsRow 35 = .ok (.aload_n 0, 1) := by decide +kernel
theorem dX6_knitsRow_36 : decode cX6_knitsRow 36 = .ok (.iload_n 2, 1) := by decide +kernel
theorem dX6_knitsRow_37 : decode cX6_knitsRow 37 = .ok (.invokevirtual 102, 3) := by decide +kernel
theorem dX6_knitsRow_40 : decode cX6_knitsRow 40 = .ok (.if_icmp .ne 5, 3) := by decide +kernel
theorem dX6_knitsRow_43 : decode cX6_knitsRow 43 = .ok (.iconst 0, 1) := by decide +kernel
theorem dX6_knitsRow_44 : decode cX6_knitsRow 44 = .ok (.ireturn, 1) := by decide +kernel
theorem dX6_knitsRow_45 : decode cX6_knitsRow 45 = .ok (.aload_n 0, 1) := by decide +kernel
theorem dX6_knitsRow_46 : decode cX6_knitsRow 46 = .ok (.iload_n 2, 1) := by decide +kernel
theorem dX6_knitsRow_47 : decode cX6_knitsRow 47 = .ok (.aload_n 0, 1) := by decide +kernel
theorem dX6_knitsRow_48 : decode cX6_knitsRow 48 = .ok (.getfield 65, 3) := by decide +kernel
theorem dX6_knitsRow_51 : decode cX6_knitsRow 51 = .ok (.iload_n 1, 1) := by decide +kernel
theorem dX6_knitsRow_52 : decode cX6_knitsRow 52 = .ok (.iaload, 1) := by decide +kernel
theorem dX6_knitsRow_53 : decode cX6_knitsRow 53 = .ok (.aload_n 0, 1) := by decide +kernel
theorem dX6_knitsRow_54 : decode cX6_knitsRow 54 = .ok (.getfield 50, 3) := by decide +kernel
theorem dX6_knitsRow_57 : decode cX6_knitsRow 57 = .ok (.iload_n 3, 1) := by decide +kernel
theorem dX6_knitsRow_58 : decode cX6_knitsRow 58 = .ok (.iaload, 1) := by decide +kernel
theorem dX6_knitsRow_59 : decode cX6_knitsRow 59 = .ok (.invokevirtual 146, 3) := by decide +kernel
theorem dX6_knitsRow_62 : decode cX6_knitsRow 62 = .ok (.istore 4, 2) := by decide +kernel
theorem dX6_knitsRow_64 : decode cX6_knitsRow 64 = .ok (.iload 4, 2) := by decide +kernel
theorem dX6_knitsRow_66 : decode cX6_knitsRow 66 = .ok (.aload_n 0, 1) := by decide +kernel
theorem dX6_knitsRow_67 : decode cX6_knitsRow 67 = .ok (.getfield 53, 3) := by decide +kernel
theorem dX6_knitsRow_70 : decode cX6_knitsRow 70 = .ok (.iload_n 3, 1) := by decide +kernel
theorem dX6_knitsRow_71 : decode cX6_knitsRow 71 = .ok (.iaload, 1) := by decide +kernel
theorem dX6_knitsRow_72 : decode cX6_knitsRow 72 = .ok (.if_icmp .gt 7, 3) := by decide +kernel
theorem dX6_knitsRow_75 : decode cX6_knitsRow 75 = .ok (.iconst 1, 1) := by decide +kernel
theorem dX6_knitsRow_76 : decode cX6_knitsRow 76 = .ok (.goto 4, 3) := by decide +kernel
theorem dX6_knitsRow_79 : decode cX6_knitsRow 79 = .ok (.iconst 0, 1) := by decide +kernel
theorem dX6_knitsRow_80 : decode cX6_knitsRow 80 = .ok (.istore 5, 2) := by decide +kernel
theorem dX6_knitsRow_82 : decode cX6_knitsRow 82 = .ok (.aload_n 0, 1) := by decide +kernel
theorem dX6_knitsRow_83 : decode cX6_knitsRow 83 = .ok (.getfield 53, 3) := by decide +kernel
theorem dX6_knitsRow_86 : decode cX6_knitsRow 86 = .ok (.iload_n 3, 1) := by decide +kernel
theorem dX6_knitsRow_87 : decode cX6_knitsRow 87 = .ok (.dup2, 1) := by decide +kernel
theorem dX6_knitsRow_88 : decode cX6_knitsRow 88 = .ok (.iaload, 1) := by decide +kernel
theorem dX6_knitsRow_89 : decode cX6_knitsRow 89 = .ok (.iload 5, 2) := by decide +kernel
theorem dX6_knitsRow_91 : decode cX6_knitsRow 91 = .ok (.ifCond .eq 8, 3) := by decide +kernel
theorem dX6_knitsRow_94 : decode cX6_knitsRow 94 = .ok (.iload 4, 2) := by decide +kernel
theorem dX6_knitsRow_96 : decode cX6_knitsRow 96 = .ok (.goto 4, 3) := by decide +kernel
theorem dX6_knitsRow_99 : decode cX6_knitsRow 99 = .ok (.iconst 0, 1) := by decide +kernel
theorem dX6_knitsRow_100 : decode cX6_knitsRow 100 = .ok (.isub, 1) := by decide +kernel
theorem dX6_knitsRow_101 : decode cX6_knitsRow 101 = .ok (.iastore, 1) := by decide +kernel
theorem dX6_knitsRow_102 : decode cX6_knitsRow 102 = .ok (.aload_n 0, 1) := by decide +kernel
theorem dX6_knitsRow_103 : decode cX6_knitsRow 103 = .ok (.getfield 65, 3) := by decide +kernel
theorem dX6_knitsRow_106 : decode cX6_knitsRow 106 = .ok (.iload_n 1, 1) := by decide +kernel
theorem dX6_knitsRow_107 : decode cX6_knitsRow 107 = .ok (.dup2, 1) := by decide +kernel
theorem dX6_knitsRow_108 : decode cX6_knitsRow 108 = .ok (.iaload, 1) := by decide +kernel
theorem dX6_knitsRow_109 : decode cX6_knitsRow 109 = .ok (.iload 5, 2) := by decide +kernel
theorem dX6_knitsRow_111 : decode cX6_knitsRow 111 = .ok (.ifCond .eq 7, 3) := by decide +kernel
theorem dX6_knitsRow_114 : decode cX6_knitsRow 114 = .ok (.iconst 1, 1) := by decide +kernel
theorem dX6_knitsRow_115 : decode cX6_knitsRow 115 = .ok (.goto 4, 3) := by decide +kernel
theorem dX6_knitsRow_118 : decode cX6_knitsRow 118 = .ok (.iconst 0, 1) := by decide +kernel
theorem dX6_knitsRow_119 : decode cX6_knitsRow 119 = .ok (.iadd, 1) := by decide +kernel
theorem dX6_knitsRow_120 : decode cX6_knitsRow 120 = .ok (.iastore, 1) := by decide +kernel
theorem dX6_knitsRow_121 : decode cX6_knitsRow 121 = .ok (.iload 5, 2) := by decide +kernel
theorem dX6_knitsRow_123 : decode cX6_knitsRow 123 = .ok (.ireturn, 1) := by decide +kernel
set_option maxRecDepth 20000 in
theorem ggX6_knit_X6_isProject : GoodIn wsX6_knit wsX6_isProject := goodIn_r _ [5, 6, 7, 8, 4, 9, 50, 51, 52, 53, 54, 55, 56, 57, 58, 59, 60, 61, 62, 63, 64, 65, 66, 67, 68, 69, 70, 71, 72, 73, 74, 75] (by decide +kernel) (by decide +kernel)
set_option maxRecDepth 20000 in
theorem gX6_knit_X6_isProject : GoodIn wsX6_knit (wsV RX6 156 RX6 yX6_isProject wsX6_isProject) := goodIn_app (goodIn_of _ (by decide +kernel)) ggX6_knit_X6_isProject
set_option maxRecDepth 20000 in
theorem ggX6_knit_X6_in : GoodIn wsX6_knit wsX6_in := goodIn_r _ [9] (by decide +kernel) (by decide +kernel)
set_option maxRecDepth 20000 in
theorem gX6_knit_X6_in : GoodIn wsX6_knit (va_wsS RX6 72 yX6_in wsX6_in) := goodIn_app (goodIn_of _ (by decide +kernel)) ggX6_knit_X6_in
set_option maxRecDepth 20000 in
theorem ggX6_knit_X6_refused : GoodIn wsX6_knit wsX6_refused := goodIn_r _ [13, 14, 50, 51, 52, 53, 54, 55, 56, 57, 58, 59, 60, 61, 62, 63, 64, 65, 66, 67, 68, 69, 70, 71, 72, 73, 74, 75] (by decide +kernel) (by decide +kernel)
set_option maxRecDepth 20000 in
theorem gX6_knit_X6_refused : GoodIn wsX6_knit (wsV RX6 89 RX6 yX6_refused wsX6_refused) := goodIn_app (goodIn_of _ (by decide +kernel)) ggX6_knit_X6_refused
set_option maxRecDepth 20000 in
theorem ggX6_knit_X6_knitsRow : GoodIn wsX6_knit wsX6_knitsRow := goodIn_r _ [18, 19, 20, 21, 22, 23, 24, 25, 26, 27, 28, 4, 29, 30, 31, 32, 33, 34, 35, 36, 37, 38, 39, 40, 41, 42, 43, 44, 45, 46, 47, 48, 49, 50, 51, 52, 53, 54, 55, 56, 57, 58, 59, 60, 61, 62, 63, 64, 65, 66, 67, 68, 69, 70, 71, 72, 73, 74, 75] (by decide +kernel) (by decide +kernel)
set_option maxRecDepth 20000 in
theorem gX6_knit_X6_knitsRow : GoodIn wsX6_knit (wsV RX6 159 RX6 yX6_knitsRow wsX6_knitsRow) := goodIn_app (goodIn_of _ (by decide +kernel)) ggX6_knit_X6_knitsRow
theorem dX6_knit_0 : decode cX6_knit 0 = .ok (.aload_n 0, 1) := by decide +kernel
theorem dX6_knit_1 : decode cX6_knit 1 = .ok (.aload_n 0, 1) := by decide +kernel
theorem dX6_knit_2 : decode cX6_knit 2 = .ok (.iload_n 1, 1) := by decide +kernel
theorem dX6_knit_3 : decode cX6_knit 3 = .ok (.invokevirtual 156, 3) := by decide +kernel
theorem dX6_knit_6 : decode cX6_knit 6 = .ok (.ifCond .ne 7, 3) := by decide +kernel
theorem dX6_knit_9 : decode cX6_knit 9 = .ok (.iconst 1, 1) := by decide +kernel
theorem dX6_knit_10 : decode cX6_knit 10 = .ok (.goto 18, 3) := by decide +kernel
theorem dX6_knit_13 : decode cX6_knit 13 = .ok (.iload_n 2, 1) := by decide +kernel
theorem dX6_knit_14 : decode cX6_knit 14 = .ok (.iconst 1, 1) := by decide +kernel
theorem dX6_knit_15 : decode cX6_knit 15 = .ok (.bipush 40, 2) := by decide +kernel
theorem dX6_knit_17 : decode cX6_knit 17 = .ok (.invokestatic 72, 3) := by decide +kernel
theorem dX6_knit_20 : decode cX6_knit 20 = .ok (.ifCond .eq 7, 3) := by decide +kernel
theorem dX6_knit_23 : decode cX6_knit 23 = .ok (.iconst 0, 1) := by decide +kernel
theorem dX6_knit_24 : decode cX6_knit 24 = .ok (.goto 4, 3) := by decide +kernel
theorem dX6_knit_27 : decode cX6_knit 27 = .ok (.iconst 2, 1) := by decide +kernel
theorem dX6_knit_28 : decode cX6_knit 28 = .ok (.invokevirtual 89, 3) := by decide +kernel
theorem dX6_knit_31 : decode cX6_knit 31 = .ok (.ifCond .eq 5, 3) := by decide +kernel
theorem dX6_knit_34 : decode cX6_knit 34 = .ok (.iconst 0, 1) := by decide +kernel
theorem dX6_knit_35 : decode cX6_knit 35 = .ok (.ireturn, 1) := by decide +kernel
theorem dX6_knit_36 : decode cX6_knit 36 = .ok (.iconst 0, 1) := by decide +kernel
theorem dX6_knit_37 : decode cX6_knit 37 = .ok (.istore_n 3, 1) := by decide +kernel
theorem dX6_knit_38 : decode cX6_knit 38 = .ok (.iload_n 3, 1) := by decide +kernel
theorem dX6_knit_39 : decode cX6_knit 39 = .ok (.iload_n 2, 1) := by decide +kernel
theorem dX6_knit_40 : decode cX6_knit 40 = .ok (.if_icmp .ge 17, 3) := by decide +kernel
theorem dX6_knit_43 : decode cX6_knit 43 = .ok (.aload_n 0, 1) := by decide +kernel
theorem dX6_knit_44 : decode cX6_knit 44 = .ok (.iload_n 1, 1) := by decide +kernel
theorem dX6_knit_45 : decode cX6_knit 45 = .ok (.invokevirtual 159, 3) := by decide +kernel
theorem dX6_knit_48 : decode cX6_knit 48 = .ok (.ifCond .eq 9, 3) := by decide +kernel
theorem dX6_knit_51 : decode cX6_knit 51 = .ok (.iinc 3 1, 3) := by decide +kernel
theorem dX6_knit_54 : decode cX6_knit 54 = .ok (.goto (-16), 3) := by decide +kernel
theorem dX6_knit_57 : decode cX6_knit 57 = .ok (.iload_n 3, 1) := by decide +kernel
theorem dX6_knit_58 : decode cX6_knit 58 = .ok (.ireturn, 1) := by decide +kernel
set_option maxRecDepth 20000 in
theorem ggX6_progress_X6_isProject : GoodIn wsX6_progress wsX6_isProject := goodIn_r _ [6, 7, 8, 9, 5, 10, 16, 17, 18, 19, 20, 21, 22, 23, 24, 25, 26, 27, 28, 29, 30, 31, 32, 33, 34, 35, 36, 37, 38, 39, 40, 41] (by decide +kernel) (by decide +kernel)
set_option maxRecDepth 20000 in
theorem gX6_progress_X6_isProject : GoodIn wsX6_progress (wsV RX6 156 RX6 yX6_isProject wsX6_isProject) := goodIn_app (goodIn_of _ (by decide +kernel)) ggX6_progress_X6_isProject
set_option maxRecDepth 20000 in
theorem ggX6_progress_X6_refused : GoodIn wsX6_progress wsX6_refused := goodIn_r _ [14, 15, 16, 17, 18, 19, 20, 21, 22, 23, 24, 25, 26, 27, 28, 29, 30, 31, 32, 33, 34, 35, 36, 37, 38, 39, 40, 41] (by decide +kernel) (by decide +kernel)
set_option maxRecDepth 20000 in
theorem gX6_progress_X6_refused : GoodIn wsX6_progress (wsV RX6 89 RX6 yX6_refused wsX6_refused) := goodIn_app (goodIn_of _ (by decide +kernel)) ggX6_progress_X6_refused
theorem dX6_progress_0 : decode cX6_progress 0 = .ok (.aload_n 0, 1) := by decide +kernel
theorem dX6_progress_1 : decode cX6_progress 1 = .ok (.aload_n 0, 1) := by decide +kernel
theorem dX6_progress_2 : decode cX6_progress 2 = .ok (.iload_n 1, 1) := by decide +kernel
theorem dX6_progress_3 : decode cX6_progress 3 = .ok (.invokevirtual 156, 3) := by decide +kernel
theorem dX6_progress_6 : decode cX6_progress 6 = .ok (.ifCond .eq 7, 3) := by decide +kernel
theorem dX6_progress_9 : decode cX6_progress 9 = .ok (.iconst 0, 1) := by decide +kernel
theorem dX6_progress_10 : decode cX6_progress 10 = .ok (.goto 4, 3) := by decide +kernel
theorem dX6_progress_13 : decode cX6_progress 13 = .ok (.iconst 1, 1) := by decide +kernel
theorem dX6_progress_14 : decode cX6_progress 14 = .ok (.invokevirtual 89, 3) := by decide +kernel
theorem dX6_progress_17 : decode cX6_progress 17 = .ok (.ifCond .eq 7, 3) := by decide +kernel
theorem dX6_progress_20 : decode cX6_progress 20 = .ok (.iconst 0, 1) := by decide +kernel
theorem dX6_progress_21 : decode cX6_progress 21 = .ok (.goto 9, 3) := by decide +kernel
theorem dX6_progress_24 : decode cX6_progress 24 = .ok (.aload_n 0, 1) := by decide +kernel
theorem dX6_progress_25 : decode cX6_progress 25 = .ok (.getfield 65, 3) := by decide +kernel
theorem dX6_progress_28 : decode cX6_progress 28 = .ok (.iload_n 1, 1) := by decide +kernel
theorem dX6_progress_29 : decode cX6_progress 29 = .ok (.iaload, 1) := by decide +kernel
theorem dX6_progress_30 : decode cX6_progress 30 = .ok (.ireturn, 1) := by decide +kernel
end
section
theorem dJ9_max_7cf53_0 : decode cJ9_max_7cf53 0 = .ok (.iload_n 0, 1) := by decide +kernel
theorem dJ9_max_7cf53_1 : decode cJ9_max_7cf53 1 = .ok (.iload_n 1, 1) := by decide +kernel
theorem dJ9_max_7cf53_2 : decode cJ9_max_7cf53 2 = .ok (.if_icmp .lt 7, 3) := by decide +kernel
theorem dJ9_max_7cf53_5 : decode cJ9_max_7cf53 5 = .ok (.iload_n 0, 1) := by decide +kernel
theorem dJ9_max_7cf53_6 : decode cJ9_max_7cf53 6 = .ok (.goto 4, 3) := by decide +kernel
theorem dJ9_max_7cf53_9 : decode cJ9_max_7cf53 9 = .ok (.iload_n 1, 1) := by decide +kernel
theorem dJ9_max_7cf53_10 : decode cJ9_max_7cf53 10 = .ok (.ireturn, 1) := by decide +kernel
theorem dJ9_min_7cf53_0 : decode cJ9_min_7cf53 0 = .ok (.iload_n 0, 1) := by decide +kernel
theorem dJ9_min_7cf53_1 : decode cJ9_min_7cf53 1 = .ok (.iload_n 1, 1) := by decide +kernel
theorem dJ9_min_7cf53_2 : decode cJ9_min_7cf53 2 = .ok (.if_icmp .gt 7, 3) := by decide +kernel
theorem dJ9_min_7cf53_5 : decode cJ9_min_7cf53 5 = .ok (.iload_n 0, 1) := by decide +kernel
theorem dJ9_min_7cf53_6 : decode cJ9_min_7cf53 6 = .ok (.goto 4, 3) := by decide +kernel
theorem dJ9_min_7cf53_9 : decode cJ9_min_7cf53 9 = .ok (.iload_n 1, 1) := by decide +kernel
theorem dJ9_min_7cf53_10 : decode cJ9_min_7cf53 10 = .ok (.ireturn, 1) := by decide +kernel
theorem dJxa1e45_init_da8c8_0 : decode cJxa1e45_init_da8c8 0 = .ok (.aload_n 0, 1) := by decide +kernel
theorem dJxa1e45_init_da8c8_1 : decode cJxa1e45_init_da8c8 1 = .ok (.invokespecial 1, 3) := by decide +kernel
theorem dJxa1e45_init_da8c8_4 : decode cJxa1e45_init_da8c8 4 = .ok (.return_, 1) := by decide +kernel
set_option maxRecDepth 20000 in
theorem ggJxc12de_init_da8c8_Jxa1e45_init_da8c8 : GoodIn wsJxc12de_init_da8c8 wsJxa1e45_init_da8c8 := goodIn_r _ [5, 6, 7, 8] (by decide +kernel) (by decide +kernel)
set_option maxRecDepth 20000 in
theorem gJxc12de_init_da8c8_Jxa1e45_init_da8c8 : GoodIn wsJxc12de_init_da8c8 (wsJxa1e45_init_da8c8) := ggJxc12de_init_da8c8_Jxa1e45_init_da8c8
theorem dJxc12de_init_da8c8_0 : decode cJxc12de_init_da8c8 0 = .ok (.aload_n 0, 1) := by decide +kernel
theorem dJxc12de_init_da8c8_1 : decode cJxc12de_init_da8c8 1 = .ok (.invokespecial 1, 3) := by decide +kernel
theorem dJxc12de_init_da8c8_4 : decode cJxc12de_init_da8c8 4 = .ok (.aload_n 0, 1) := by decide +kernel
theorem dJxc12de_init_da8c8_5 : decode cJxc12de_init_da8c8 5 = .ok (.iconst 0, 1) := by decide +kernel
theorem dJxc12de_init_da8c8_6 : decode cJxc12de_init_da8c8 6 = .ok (.putfield 7, 3) := by decide +kernel
theorem dJxc12de_init_da8c8_9 : decode cJxc12de_init_da8c8 9 = .ok (.return_, 1) := by decide +kernel
set_option maxRecDepth 20000 in
theorem ggJx4a65c_init_da8c8_Jxc12de_init_da8c8 : GoodIn wsJx4a65c_init_da8c8 wsJxc12de_init_da8c8 := goodIn_r _ [6, 7, 8, 9, 10, 11, 12, 13, 14, 15, 16, 17] (by decide +kernel) (by decide +kernel)
set_option maxRecDepth 20000 in
theorem gJx4a65c_init_da8c8_Jxc12de_init_da8c8 : GoodIn wsJx4a65c_init_da8c8 (wsJxc12de_init_da8c8) := ggJx4a65c_init_da8c8_Jxc12de_init_da8c8
theorem dJx4a65c_init_da8c8_0 : decode cJx4a65c_init_da8c8 0 = .ok (.aload_n 0, 1) := by decide +kernel
theorem dJx4a65c_init_da8c8_1 : decode cJx4a65c_init_da8c8 1 = .ok (.invokespecial 1, 3) := by decide +kernel
theorem dJx4a65c_init_da8c8_4 : decode cJx4a65c_init_da8c8 4 = .ok (.aload_n 0, 1) := by decide +kernel
theorem dJx4a65c_init_da8c8_5 : decode cJx4a65c_init_da8c8 5 = .ok (.getstatic 39, 3) := by decide +kernel
theorem dJx4a65c_init_da8c8_8 : decode cJx4a65c_init_da8c8 8 = .ok (.putfield 9, 3) := by decide +kernel
theorem dJx4a65c_init_da8c8_11 : decode cJx4a65c_init_da8c8 11 = .ok (.return_, 1) := by decide +kernel
set_option maxRecDepth 20000 in
theorem ggJx4a65c_grow_92f84_J8_newLength_cabcc : GoodIn wsJx4a65c_grow_92f84 wsJ8_newLength_cabcc := goodIn_r _ [11, 12, 4, 5, 6, 13, 14, 15, 10, 16] (by decide +kernel) (by decide +kernel)
set_option maxRecDepth 20000 in
theorem gJx4a65c_grow_92f84_J8_newLength_cabcc : GoodIn wsJx4a65c_grow_92f84 (va_wsS RJx4a65c 73 yJ8_newLength_cabcc wsJ8_newLength_cabcc) := goodIn_app (goodIn_of _ (by decide +kernel)) ggJx4a65c_grow_92f84_J8_newLength_cabcc
set_option maxRecDepth 20000 in
theorem ggJx4a65c_grow_92f84_J7_copyOf_1904c : GoodIn wsJx4a65c_grow_92f84 wsJ7_copyOf_1904c := goodIn_r _ [20, 21, 22, 23, 24, 25, 26, 19, 27, 28, 29, 30, 31, 5, 32, 33, 34, 35, 36] (by decide +kernel) (by decide +kernel)
set_option maxRecDepth 20000 in
theorem gJx4a65c_grow_92f84_J7_copyOf_1904c : GoodIn wsJx4a65c_grow_92f84 (va_wsS RJx4a65c 66 yJ7_copyOf_1904c wsJ7_copyOf_1904c) := goodIn_app (goodIn_of _ (by decide +kernel)) ggJx4a65c_grow_92f84_J7_copyOf_1904c
theorem dJx4a65c_grow_92f84_0 : decode cJx4a65c_grow_92f84 0 = .ok (.aload_n 0, 1) := by decide +kernel
theorem dJx4a65c_grow_92f84_1 : decode cJx4a65c_grow_92f84 1 = .ok (.getfield 9, 3) := by decide +kernel
theorem dJx4a65c_grow_92f84_4 : decode cJx4a65c_grow_92f84 4 = .ok (.arraylength, 1) := by decide +kernel
theorem dJx4a65c_grow_92f84_5 : decode cJx4a65c_grow_92f84 5 = .ok (.istore_n 2, 1) := by decide +kernel
theorem dJx4a65c_grow_92f84_6 : decode cJx4a65c_grow_92f84 6 = .ok (.iload_n 2, 1) := by decide +kernel
theorem dJx4a65c_grow_92f84_7 : decode cJx4a65c_grow_92f84 7 = .ok (.ifCond .gt 13, 3) := by decide +kernel
theorem dJx4a65c_grow_92f84_10 : decode cJx4a65c_grow_92f84 10 = .ok (.aload_n 0, 1) := by decide +kernel
theorem dJx4a65c_grow_92f84_11 : decode cJx4a65c_grow_92f84 11 = .ok (.getfield 9, 3) := by decide +kernel
theorem dJx4a65c_grow_92f84_14 : decode cJx4a65c_grow_92f84 14 = .ok (.getstatic 39, 3) := by decide +kernel
theorem dJx4a65c_grow_92f84_17 : decode cJx4a65c_grow_92f84 17 = .ok (.if_acmp .eq 28, 3) := by decide +kernel
theorem dJx4a65c_grow_92f84_20 : decode cJx4a65c_grow_92f84 20 = .ok (.iload_n 2, 1) := by decide +kernel
theorem dJx4a65c_grow_92f84_21 : decode cJx4a65c_grow_92f84 21 = .ok (.iload_n 1, 1) := by decide +kernel
theorem dJx4a65c_grow_92f84_22 : decode cJx4a65c_grow_92f84 22 = .ok (.iload_n 2, 1) := by decide +kernel
theorem dJx4a65c_grow_92f84_23 : decode cJx4a65c_grow_92f84 23 = .ok (.isub, 1) := by decide +kernel
theorem dJx4a65c_grow_92f84_24 : decode cJx4a65c_grow_92f84 24 = .ok (.iload_n 2, 1) := by decide +kernel
theorem dJx4a65c_grow_92f84_25 : decode cJx4a65c_grow_92f84 25 = .ok (.iconst 1, 1) := by decide +kernel
theorem dJx4a65c_grow_92f84_26 : decode cJx4a65c_grow_92f84 26 = .ok (.ishr, 1) := by decide +kernel
theorem dJx4a65c_grow_92f84_27 : decode cJx4a65c_grow_92f84 27 = .ok (.invokestatic 73, 3) := by decide +kernel
theorem dJx4a65c_grow_92f84_30 : decode cJx4a65c_grow_92f84 30 = .ok (.istore_n 3, 1) := by decide +kernel
theorem dJx4a65c_grow_92f84_31 : decode cJx4a65c_grow_92f84 31 = .ok (.aload_n 0, 1) := by decide +kernel
theorem dJx4a65c_grow_92f84_32 : decode cJx4a65c_grow_92f84 32 = .ok (.aload_n 0, 1) := by decide +kernel
theorem dJx4a65c_grow_92f84_33 : decode cJx4a65c_grow_92f84 33 = .ok (.getfield 9, 3) := by decide +kernel
theorem dJx4a65c_grow_92f84_36 : decode cJx4a65c_grow_92f84 36 = .ok (.iload_n 3, 1) := by decide +kernel
theorem dJx4a65c_grow_92f84_37 : decode cJx4a65c_grow_92f84 37 = .ok (.invokestatic 66, 3) := by decide +kernel
theorem dJx4a65c_grow_92f84_40 : decode cJx4a65c_grow_92f84 40 = .ok (.dup_x1, 1) := by decide +kernel
theorem dJx4a65c_grow_92f84_41 : decode cJx4a65c_grow_92f84 41 = .ok (.putfield 9, 3) := by decide +kernel
theorem dJx4a65c_grow_92f84_44 : decode cJx4a65c_grow_92f84 44 = .ok (.areturn, 1) := by decide +kernel
theorem dJx4a65c_grow_92f84_45 : decode cJx4a65c_grow_92f84 45 = .ok (.aload_n 0, 1) := by decide +kernel
theorem dJx4a65c_grow_92f84_46 : decode cJx4a65c_grow_92f84 46 = .ok (.bipush 10, 2) := by decide +kernel
theorem dJx4a65c_grow_92f84_48 : decode cJx4a65c_grow_92f84 48 = .ok (.iload_n 1, 1) := by decide +kernel
theorem dJx4a65c_grow_92f84_49 : decode cJx4a65c_grow_92f84 49 = .ok (.invokestatic 79, 3) := by decide +kernel
theorem dJx4a65c_grow_92f84_52 : decode cJx4a65c_grow_92f84 52 = .ok (.anewarray 7, 3) := by decide +kernel
theorem dJx4a65c_grow_92f84_55 : decode cJx4a65c_grow_92f84 55 = .ok (.dup_x1, 1) := by decide +kernel
theorem dJx4a65c_grow_92f84_56 : decode cJx4a65c_grow_92f84 56 = .ok (.putfield 9, 3) := by decide +kernel
theorem dJx4a65c_grow_92f84_59 : decode cJx4a65c_grow_92f84 59 = .ok (.areturn, 1) := by decide +kernel
set_option maxRecDepth 20000 in
theorem ggJx4a65c_grow_d5877_Jx4a65c_grow_92f84 : GoodIn wsJx4a65c_grow_d5877 wsJx4a65c_grow_92f84 := goodIn_r _ [6, 7, 8, 9, 10, 11, 12, 13, 14, 15, 16, 17, 18, 19, 20, 21, 22, 23, 24, 25, 26, 27, 28, 29, 30, 31, 32, 33, 34, 35, 36, 37, 38, 39, 40, 41, 42, 43, 44, 45] (by decide +kernel) (by decide +kernel)
set_option maxRecDepth 20000 in
theorem gJx4a65c_grow_d5877_Jx4a65c_grow_92f84 : GoodIn wsJx4a65c_grow_d5877 (wsV RJx4a65c 69 RJx4a65c yJx4a65c_grow_92f84 wsJx4a65c_grow_92f84) := goodIn_app (goodIn_of _ (by decide +kernel)) ggJx4a65c_grow_d5877_Jx4a65c_grow_92f84
theorem dJx4a65c_grow_d5877_0 : decode cJx4a65c_grow_d5877 0 = .ok (.aload_n 0, 1) := by decide +kernel
theorem dJx4a65c_grow_d5877_1 : decode cJx4a65c_grow_d5877 1 = .ok (.aload_n 0, 1) := by decide +kernel
theorem dJx4a65c_grow_d5877_2 : decode cJx4a65c_grow_d5877 2 = .ok (.getfield 48, 3) := by decide +kernel
theorem dJx4a65c_grow_d5877_5 : decode cJx4a65c_grow_d5877 5 = .ok (.iconst 1, 1) := by decide +kernel
theorem dJx4a65c_grow_d5877_6 : decode cJx4a65c_grow_d5877 6 = .ok (.iadd, 1) := by decide +kernel
theorem dJx4a65c_grow_d5877_7 : decode cJx4a65c_grow_d5877 7 = .ok (.invokevirtual 69, 3) := by decide +kernel
theorem dJx4a65c_grow_d5877_10 : decode cJx4a65c_grow_d5877 10 = .ok (.areturn, 1) := by decide +kernel
theorem dJx4a65c_size_8abf5_0 : decode cJx4a65c_size_8abf5 0 = .ok (.aload_n 0, 1) := by decide +kernel
theorem dJx4a65c_size_8abf5_1 : decode cJx4a65c_size_8abf5 1 = .ok (.getfield 48, 3) := by decide +kernel
theorem dJx4a65c_size_8abf5_4 : decode cJx4a65c_size_8abf5 4 = .ok (.ireturn, 1) := by decide +kernel
theorem dJx4a65c_elementData_915e3_0 : decode cJx4a65c_elementData_915e3 0 = .ok (.aload_n 0, 1) := by decide +kernel
theorem dJx4a65c_elementData_915e3_1 : decode cJx4a65c_elementData_915e3 1 = .ok (.getfield 9, 3) := by decide +kernel
theorem dJx4a65c_elementData_915e3_4 : decode cJx4a65c_elementData_915e3 4 = .ok (.iload_n 1, 1) := by decide +kernel
theorem dJx4a65c_elementData_915e3_5 : decode cJx4a65c_elementData_915e3 5 = .ok (.aaload, 1) := by decide +kernel
theorem dJx4a65c_elementData_915e3_6 : decode cJx4a65c_elementData_915e3 6 = .ok (.areturn, 1) := by decide +kernel
set_option maxRecDepth 20000 in
theorem ggJx4a65c_get_915e3_J15_checkIndex_7cf53 : GoodIn wsJx4a65c_get_915e3 wsJ15_checkIndex_7cf53 := goodIn_r _ [5, 6, 7, 8, 9] (by decide +kernel) (by decide +kernel)
set_option maxRecDepth 20000 in
theorem gJx4a65c_get_915e3_J15_checkIndex_7cf53 : GoodIn wsJx4a65c_get_915e3 (va_wsS RJx4a65c 118 yJ15_checkIndex_7cf53 wsJ15_checkIndex_7cf53) := goodIn_app (goodIn_of _ (by decide +kernel)) ggJx4a65c_get_915e3_J15_checkIndex_7cf53
set_option maxRecDepth 20000 in
theorem ggJx4a65c_get_915e3_Jx4a65c_elementData_915e3 : GoodIn wsJx4a65c_get_915e3 wsJx4a65c_elementData_915e3 := goodIn_r _ [14, 15, 16, 17, 18] (by decide +kernel) (by decide +kernel)
set_option maxRecDepth 20000 in
theorem gJx4a65c_get_915e3_Jx4a65c_elementData_915e3 : GoodIn wsJx4a65c_get_915e3 (wsV RJx4a65c 123 RJx4a65c yJx4a65c_elementData_915e3 wsJx4a65c_elementData_915e3) := goodIn_app (goodIn_of _ (by decide +kernel)) ggJx4a65c_get_915e3_Jx4a65c_elementData_915e3
theorem dJx4a65c_get_915e3_0 : decode cJx4a65c_get_915e3 0 = .ok (.iload_n 1, 1) := by decide +kernel
theorem dJx4a65c_get_915e3_1 : decode cJx4a65c_get_915e3 1 = .ok (.aload_n 0, 1) := by decide +kernel
theorem dJx4a65c_get_915e3_2 : decode cJx4a65c_get_915e3 2 = .ok (.getfield 48, 3) := by decide +kernel
theorem dJx4a65c_get_915e3_5 : decode cJx4a65c_get_915e3 5 = .ok (.invokestatic 118, 3) := by decide +kernel
theorem dJx4a65c_get_915e3_8 : decode cJx4a65c_get_915e3 8 = .ok (.pop, 1) := by decide +kernel
theorem dJx4a65c_get_915e3_9 : decode cJx4a65c_get_915e3 9 = .ok (.aload_n 0, 1) := by decide +kernel
theorem dJx4a65c_get_915e3_10 : decode cJx4a65c_get_915e3 10 = .ok (.iload_n 1, 1) := by decide +kernel
theorem dJx4a65c_get_915e3_11 : decode cJx4a65c_get_915e3 11 = .ok (.invokevirtual 123, 3) := by decide +kernel
theorem dJx4a65c_get_915e3_14 : decode cJx4a65c_get_915e3 14 = .ok (.areturn, 1) := by decide +kernel
set_option maxRecDepth 20000 in
theorem ggJx4a65c_add_72be8_Jx4a65c_grow_d5877 : GoodIn wsJx4a65c_add_72be8 wsJx4a65c_grow_d5877 := goodIn_r _ [6, 1, 7, 8, 9, 5, 10, 11, 12, 13, 14, 15, 16, 17, 18, 19, 20, 21, 22, 23, 24, 25, 26, 27, 28, 29, 30, 31, 32, 33, 34, 35, 36, 37, 38, 39, 40, 41, 42, 43, 44, 45, 46, 47, 48, 49] (by decide +kernel) (by decide +kernel)
set_option maxRecDepth 20000 in
theorem gJx4a65c_add_72be8_Jx4a65c_grow_d5877 : GoodIn wsJx4a65c_add_72be8 (wsV RJx4a65c 129 RJx4a65c yJx4a65c_grow_d5877 wsJx4a65c_grow_d5877) := goodIn_app (goodIn_of _ (by decide +kernel)) ggJx4a65c_add_72be8_Jx4a65c_grow_d5877
theorem dJx4a65c_add_72be8_0 : decode cJx4a65c_add_72be8 0 = .ok (.iload_n 3, 1) := by decide +kernel
theorem dJx4a65c_add_72be8_1 : decode cJx4a65c_add_72be8 1 = .ok (.aload_n 2, 1) := by decide +kernel
theorem dJx4a65c_add_72be8_2 : decode cJx4a65c_add_72be8 2 = .ok (.arraylength, 1) := by decide +kernel
theorem dJx4a65c_add_72be8_3 : decode cJx4a65c_add_72be8 3 = .ok (.if_icmp .ne 8, 3) := by decide +kernel
theorem dJx4a65c_add_72be8_6 : decode cJx4a65c_add_72be8 6 = .ok (.aload_n 0, 1) := by decide +kernel
theorem dJx4a65c_add_72be8_7 : decode cJx4a65c_add_72be8 7 = .ok (.invokevirtual 129, 3) := by decide +kernel
theorem dJx4a65c_add_72be8_10 : decode cJx4a65c_add_72be8 10 = .ok (.astore_n 2, 1) := by decide +kernel
theorem dJx4a65c_add_72be8_11 : decode cJx4a65c_add_72be8 11 = .ok (.aload_n 2, 1) := by decide +kernel
theorem dJx4a65c_add_72be8_12 : decode cJx4a65c_add_72be8 12 = .ok (.iload_n 3, 1) := by decide +kernel
theorem dJx4a65c_add_72be8_13 : decode cJx4a65c_add_72be8 13 = .ok (.aload_n 1, 1) := by decide +kernel
theorem dJx4a65c_add_72be8_14 : decode cJx4a65c_add_72be8 14 = .ok (.aastore, 1) := by decide +kernel
theorem dJx4a65c_add_72be8_15 : decode cJx4a65c_add_72be8 15 = .ok (.aload_n 0, 1) := by decide +kernel
theorem dJx4a65c_add_72be8_16 : decode cJx4a65c_add_72be8 16 = .ok (.iload_n 3, 1) := by decide +kernel
theorem dJx4a65c_add_72be8_17 : decode cJx4a65c_add_72be8 17 = .ok (.iconst 1, 1) := by decide +kernel
theorem dJx4a65c_add_72be8_18 : decode cJx4a65c_add_72be8 18 = .ok (.iadd, 1) := by decide +kernel
theorem dJx4a65c_add_72be8_19 : decode cJx4a65c_add_72be8 19 = .ok (.putfield 48, 3) := by decide +kernel
theorem dJx4a65c_add_72be8_22 : decode cJx4a65c_add_72be8 22 = .ok (.return_, 1) := by decide +kernel
set_option maxRecDepth 20000 in
theorem ggJx4a65c_add_9ea2d_Jx4a65c_add_72be8 : GoodIn wsJx4a65c_add_9ea2d wsJx4a65c_add_72be8 := goodIn_r _ [9, 4, 10, 11, 12, 8, 13, 14, 15, 16, 17, 3, 18, 19, 20, 21, 22, 23, 24, 25, 26, 27, 28, 29, 30, 31, 32, 33, 34, 35, 36, 37, 38, 39, 40, 41, 42, 43, 44, 45, 46, 47, 48, 49, 50, 51, 52, 53, 54, 55] (by decide +kernel) (by decide +kernel)
set_option maxRecDepth 20000 in
theorem gJx4a65c_add_9ea2d_Jx4a65c_add_72be8 : GoodIn wsJx4a65c_add_9ea2d (wsV RJx4a65c 131 RJx4a65c yJx4a65c_add_72be8 wsJx4a65c_add_72be8) := goodIn_app (goodIn_of _ (by decide +kernel)) ggJx4a65c_add_9ea2d_Jx4a65c_add_72be8
theorem dJx4a65c_add_9ea2d_0 : decode cJx4a65c_add_9ea2d 0 = .ok (.aload_n 0, 1) := by decide +kernel
theorem dJx4a65c_add_9ea2d_1 : decode cJx4a65c_add_9ea2d 1 = .ok (.dup, 1) := by decide +kernel
theorem dJx4a65c_add_9ea2d_2 : decode cJx4a65c_add_9ea2d 2 = .ok (.getfield 63, 3) := by decide +kernel
theorem dJx4a65c_add_9ea2d_5 : decode cJx4a65c_add_9ea2d 5 = .ok (.iconst 1, 1) := by decide +kernel
theorem dJx4a65c_add_9ea2d_6 : decode cJx4a65c_add_9ea2d 6 = .ok (.iadd, 1) := by decide +kernel
theorem dJx4a65c_add_9ea2d_7 : decode cJx4a65c_add_9ea2d 7 = .ok (.putfield 63, 3) := by decide +kernel
theorem dJx4a65c_add_9ea2d_10 : decode cJx4a65c_add_9ea2d 10 = .ok (.aload_n 0, 1) := by decide +kernel
theorem dJx4a65c_add_9ea2d_11 : decode cJx4a65c_add_9ea2d 11 = .ok (.aload_n 1, 1) := by decide +kernel
theorem dJx4a65c_add_9ea2d_12 : decode cJx4a65c_add_9ea2d 12 = .ok (.aload_n 0, 1) := by decide +kernel
theorem dJx4a65c_add_9ea2d_13 : decode cJx4a65c_add_9ea2d 13 = .ok (.getfield 9, 3) := by decide +kernel
theorem dJx4a65c_add_9ea2d_16 : decode cJx4a65c_add_9ea2d 16 = .ok (.aload_n 0, 1) := by decide +kernel
theorem dJx4a65c_add_9ea2d_17 : decode cJx4a65c_add_9ea2d 17 = .ok (.getfield 48, 3) := by decide +kernel
theorem dJx4a65c_add_9ea2d_20 : decode cJx4a65c_add_9ea2d 20 = .ok (.invokevirtual 131, 3) := by decide +kernel
theorem dJx4a65c_add_9ea2d_23 : decode cJx4a65c_add_9ea2d 23 = .ok (.iconst 1, 1) := by decide +kernel
theorem dJx4a65c_add_9ea2d_24 : decode cJx4a65c_add_9ea2d 24 = .ok (.ireturn, 1) := by decide +kernel
set_option maxRecDepth 20000 in
theorem ggJ7_copyOf_1904c_J7_copyOf_6403c : GoodIn wsJ7_copyOf_1904c wsJ7_copyOf_6403c := goodIn_r _ [8, 9, 10, 11, 12, 13, 14, 15, 16, 17, 18] (by decide +kernel) (by decide +kernel)
set_option maxRecDepth 20000 in
theorem gJ7_copyOf_1904c_J7_copyOf_6403c : GoodIn wsJ7_copyOf_1904c (va_wsS RJ7 300 yJ7_copyOf_6403c wsJ7_copyOf_6403c) := goodIn_app (goodIn_of _ (by decide +kernel)) ggJ7_copyOf_1904c_J7_copyOf_6403c
theorem dJ7_copyOf_1904c_0 : decode cJ7_copyOf_1904c 0 = .ok (.aload_n 0, 1) := by decide +kernel
theorem dJ7_copyOf_1904c_1 : decode cJ7_copyOf_1904c 1 = .ok (.iload_n 1, 1) := by decide +kernel
theorem dJ7_copyOf_1904c_2 : decode cJ7_copyOf_1904c 2 = .ok (.aload_n 0, 1) := by decide +kernel
theorem dJ7_copyOf_1904c_3 : decode cJ7_copyOf_1904c 3 = .ok (.invokevirtual 86, 3) := by decide +kernel
theorem dJ7_copyOf_1904c_6 : decode cJ7_copyOf_1904c 6 = .ok (.invokestatic 300, 3) := by decide +kernel
theorem dJ7_copyOf_1904c_9 : decode cJ7_copyOf_1904c 9 = .ok (.areturn, 1) := by decide +kernel
theorem dJ7_copyOf_6403c_0 : decode cJ7_copyOf_6403c 0 = .ok (.aload_n 2, 1) := by decide +kernel
theorem dJ7_copyOf_6403c_1 : decode cJ7_copyOf_6403c 1 = .ok (.ldc 110, 2) := by decide +kernel
theorem dJ7_copyOf_6403c_3 : decode cJ7_copyOf_6403c 3 = .ok (.if_acmp .ne 10, 3) := by decide +kernel
theorem dJ7_copyOf_6403c_6 : decode cJ7_copyOf_6403c 6 = .ok (.iload_n 1, 1) := by decide +kernel
theorem dJ7_copyOf_6403c_7 : decode cJ7_copyOf_6403c 7 = .ok (.anewarray 2, 3) := by decide +kernel
theorem dJ7_copyOf_6403c_10 : decode cJ7_copyOf_6403c 10 = .ok (.goto 14, 3) := by decide +kernel
theorem dJ7_copyOf_6403c_13 : decode cJ7_copyOf_6403c 13 = .ok (.aload_n 2, 1) := by decide +kernel
theorem dJ7_copyOf_6403c_14 : decode cJ7_copyOf_6403c 14 = .ok (.invokevirtual 90, 3) := by decide +kernel
theorem dJ7_copyOf_6403c_17 : decode cJ7_copyOf_6403c 17 = .ok (.iload_n 1, 1) := by decide +kernel
theorem dJ7_copyOf_6403c_18 : decode cJ7_copyOf_6403c 18 = .ok (.invokestatic 95, 3) := by decide +kernel
theorem dJ7_copyOf_6403c_21 : decode cJ7_copyOf_6403c 21 = .ok (.checkcast 110, 3) := by decide +kernel
theorem dJ7_copyOf_6403c_24 : decode cJ7_copyOf_6403c 24 = .ok (.astore_n 3, 1) := by decide +kernel
theorem dJ7_copyOf_6403c_25 : decode cJ7_copyOf_6403c 25 = .ok (.aload_n 0, 1) := by decide +kernel
theorem dJ7_copyOf_6403c_26 : decode cJ7_copyOf_6403c 26 = .ok (.iconst 0, 1) := by decide +kernel
theorem dJ7_copyOf_6403c_27 : decode cJ7_copyOf_6403c 27 = .ok (.aload_n 3, 1) := by decide +kernel
theorem dJ7_copyOf_6403c_28 : decode cJ7_copyOf_6403c 28 = .ok (.iconst 0, 1) := by decide +kernel
theorem dJ7_copyOf_6403c_29 : decode cJ7_copyOf_6403c 29 = .ok (.aload_n 0, 1) := by decide +kernel
theorem dJ7_copyOf_6403c_30 : decode cJ7_copyOf_6403c 30 = .ok (.arraylength, 1) := by decide +kernel
theorem dJ7_copyOf_6403c_31 : decode cJ7_copyOf_6403c 31 = .ok (.iload_n 1, 1) := by decide +kernel
theorem dJ7_copyOf_6403c_32 : decode cJ7_copyOf_6403c 32 = .ok (.invokestatic 304, 3) := by decide +kernel
theorem dJ7_copyOf_6403c_35 : decode cJ7_copyOf_6403c 35 = .ok (.invokestatic 150, 3) := by decide +kernel
theorem dJ7_copyOf_6403c_38 : decode cJ7_copyOf_6403c 38 = .ok (.aload_n 3, 1) := by decide +kernel
theorem dJ7_copyOf_6403c_39 : decode cJ7_copyOf_6403c 39 = .ok (.areturn, 1) := by decide +kernel
set_option maxRecDepth 20000 in
theorem ggJ15_checkIndex_7cf53_J3_checkIndex_8e157 : GoodIn wsJ15_checkIndex_7cf53 wsJ3_checkIndex_8e157 := goodIn_r _ [4] (by decide +kernel) (by decide +kernel)
set_option maxRecDepth 20000 in
theorem gJ15_checkIndex_7cf53_J3_checkIndex_8e157 : GoodIn wsJ15_checkIndex_7cf53 (va_wsS RJ15 105 yJ3_checkIndex_8e157 wsJ3_checkIndex_8e157) := goodIn_app (goodIn_of _ (by decide +kernel)) ggJ15_checkIndex_7cf53_J3_checkIndex_8e157
theorem dJ15_checkIndex_7cf53_0 : decode cJ15_checkIndex_7cf53 0 = .ok (.iload_n 0, 1) := by decide +kernel
theorem dJ15_checkIndex_7cf53_1 : decode cJ15_checkIndex_7cf53 1 = .ok (.iload_n 1, 1) := by decide +kernel
theorem dJ15_checkIndex_7cf53_2 : decode cJ15_checkIndex_7cf53 2 = .ok (.aconst_null, 1) := by decide +kernel
theorem dJ15_checkIndex_7cf53_3 : decode cJ15_checkIndex_7cf53 3 = .ok (.invokestatic 105, 3) := by decide +kernel
theorem dJ15_checkIndex_7cf53_6 : decode cJ15_checkIndex_7cf53 6 = .ok (.ireturn, 1) := by decide +kernel
set_option maxRecDepth 20000 in
theorem ggJ8_newLength_cabcc_J8_hugeLength_7cf53 : GoodIn wsJ8_newLength_cabcc wsJ8_hugeLength_7cf53 := goodIn_r _ [9, 5] (by decide +kernel) (by decide +kernel)
set_option maxRecDepth 20000 in
theorem gJ8_newLength_cabcc_J8_hugeLength_7cf53 : GoodIn wsJ8_newLength_cabcc (va_wsS RJ8 201 yJ8_hugeLength_7cf53 wsJ8_hugeLength_7cf53) := goodIn_app (goodIn_of _ (by decide +kernel)) ggJ8_newLength_cabcc_J8_hugeLength_7cf53
theorem dJ8_newLength_cabcc_0 : decode cJ8_newLength_cabcc 0 = .ok (.iload_n 0, 1) := by decide +kernel
theorem dJ8_newLength_cabcc_1 : decode cJ8_newLength_cabcc 1 = .ok (.iload_n 1, 1) := by decide +kernel
theorem dJ8_newLength_cabcc_2 : decode cJ8_newLength_cabcc 2 = .ok (.iload_n 2, 1) := by decide +kernel
theorem dJ8_newLength_cabcc_3 : decode cJ8_newLength_cabcc 3 = .ok (.invokestatic 194, 3) := by decide +kernel
theorem dJ8_newLength_cabcc_6 : decode cJ8_newLength_cabcc 6 = .ok (.iadd, 1) := by decide +kernel
theorem dJ8_newLength_cabcc_7 : decode cJ8_newLength_cabcc 7 = .ok (.istore_n 3, 1) := by decide +kernel
theorem dJ8_newLength_cabcc_8 : decode cJ8_newLength_cabcc 8 = .ok (.iconst 0, 1) := by decide +kernel
theorem dJ8_newLength_cabcc_9 : decode cJ8_newLength_cabcc 9 = .ok (.iload_n 3, 1) := by decide +kernel
theorem dJ8_newLength_cabcc_10 : decode cJ8_newLength_cabcc 10 = .ok (.if_icmp .ge 11, 3) := by decide +kernel
theorem dJ8_newLength_cabcc_13 : decode cJ8_newLength_cabcc 13 = .ok (.iload_n 3, 1) := by decide +kernel
theorem dJ8_newLength_cabcc_14 : decode cJ8_newLength_cabcc 14 = .ok (.ldc 200, 2) := by decide +kernel
theorem dJ8_newLength_cabcc_16 : decode cJ8_newLength_cabcc 16 = .ok (.if_icmp .gt 5, 3) := by decide +kernel
theorem dJ8_newLength_cabcc_19 : decode cJ8_newLength_cabcc 19 = .ok (.iload_n 3, 1) := by decide +kernel
theorem dJ8_newLength_cabcc_20 : decode cJ8_newLength_cabcc 20 = .ok (.ireturn, 1) := by decide +kernel
theorem dJ8_newLength_cabcc_21 : decode cJ8_newLength_cabcc 21 = .ok (.iload_n 0, 1) := by decide +kernel
theorem dJ8_newLength_cabcc_22 : decode cJ8_newLength_cabcc 22 = .ok (.iload_n 1, 1) := by decide +kernel
theorem dJ8_newLength_cabcc_23 : decode cJ8_newLength_cabcc 23 = .ok (.invokestatic 201, 3) := by decide +kernel
theorem dJ8_newLength_cabcc_26 : decode cJ8_newLength_cabcc 26 = .ok (.ireturn, 1) := by decide +kernel
theorem dJ8_hugeLength_7cf53_0 : decode cJ8_hugeLength_7cf53 0 = .ok (.iload_n 0, 1) := by decide +kernel
theorem dJ8_hugeLength_7cf53_1 : decode cJ8_hugeLength_7cf53 1 = .ok (.iload_n 1, 1) := by decide +kernel
theorem dJ8_hugeLength_7cf53_2 : decode cJ8_hugeLength_7cf53 2 = .ok (.iadd, 1) := by decide +kernel
theorem dJ8_hugeLength_7cf53_3 : decode cJ8_hugeLength_7cf53 3 = .ok (.istore_n 2, 1) := by decide +kernel
theorem dJ8_hugeLength_7cf53_4 : decode cJ8_hugeLength_7cf53 4 = .ok (.iload_n 2, 1) := by decide +kernel
theorem dJ8_hugeLength_7cf53_5 : decode cJ8_hugeLength_7cf53 5 = .ok (.ifCond .ge 44, 3) := by decide +kernel
theorem dJ8_hugeLength_7cf53_8 : decode cJ8_hugeLength_7cf53 8 = .ok (.new 204, 3) := by decide +kernel
theorem dJ8_hugeLength_7cf53_11 : decode cJ8_hugeLength_7cf53 11 = .ok (.dup, 1) := by decide +kernel
theorem dJ8_hugeLength_7cf53_12 : decode cJ8_hugeLength_7cf53 12 = .ok (.new 89, 3) := by decide +kernel
theorem dJ8_hugeLength_7cf53_15 : decode cJ8_hugeLength_7cf53 15 = .ok (.dup, 1) := by decide +kernel
theorem dJ8_hugeLength_7cf53_16 : decode cJ8_hugeLength_7cf53 16 = .ok (.invokespecial 91, 3) := by decide +kernel
theorem dJ8_hugeLength_7cf53_19 : decode cJ8_hugeLength_7cf53 19 = .ok (.ldc 206, 2) := by decide +kernel
theorem dJ8_hugeLength_7cf53_21 : decode cJ8_hugeLength_7cf53 21 = .ok (.invokevirtual 94, 3) := by decide +kernel
theorem dJ8_hugeLength_7cf53_24 : decode cJ8_hugeLength_7cf53 24 = .ok (.iload_n 0, 1) := by decide +kernel
theorem dJ8_hugeLength_7cf53_25 : decode cJ8_hugeLength_7cf53 25 = .ok (.invokevirtual 98, 3) := by decide +kernel
theorem dJ8_hugeLength_7cf53_28 : decode cJ8_hugeLength_7cf53 28 = .ok (.ldc 208, 2) := by decide +kernel
theorem dJ8_hugeLength_7cf53_30 : decode cJ8_hugeLength_7cf53 30 = .ok (.invokevirtual 94, 3) := by decide +kernel
theorem dJ8_hugeLength_7cf53_33 : decode cJ8_hugeLength_7cf53 33 = .ok (.iload_n 1, 1) := by decide +kernel
theorem dJ8_hugeLength_7cf53_34 : decode cJ8_hugeLength_7cf53 34 = .ok (.invokevirtual 98, 3) := by decide +kernel
theorem dJ8_hugeLength_7cf53_37 : decode cJ8_hugeLength_7cf53 37 = .ok (.ldc 210, 2) := by decide +kernel
theorem dJ8_hugeLength_7cf53_39 : decode cJ8_hugeLength_7cf53 39 = .ok (.invokevirtual 94, 3) := by decide +kernel
theorem dJ8_hugeLength_7cf53_42 : decode cJ8_hugeLength_7cf53 42 = .ok (.invokevirtual 101, 3) := by decide +kernel
theorem dJ8_hugeLength_7cf53_45 : decode cJ8_hugeLength_7cf53 45 = .ok (.invokespecial 212, 3) := by decide +kernel
theorem dJ8_hugeLength_7cf53_48 : decode cJ8_hugeLength_7cf53 48 = .ok (.athrow, 1) := by decide +kernel
theorem dJ8_hugeLength_7cf53_49 : decode cJ8_hugeLength_7cf53 49 = .ok (.iload_n 2, 1) := by decide +kernel
theorem dJ8_hugeLength_7cf53_50 : decode cJ8_hugeLength_7cf53 50 = .ok (.ldc 200, 2) := by decide +kernel
theorem dJ8_hugeLength_7cf53_52 : decode cJ8_hugeLength_7cf53 52 = .ok (.if_icmp .gt 6, 3) := by decide +kernel
theorem dJ8_hugeLength_7cf53_55 : decode cJ8_hugeLength_7cf53 55 = .ok (.ldc 200, 2) := by decide +kernel
theorem dJ8_hugeLength_7cf53_57 : decode cJ8_hugeLength_7cf53 57 = .ok (.ireturn, 1) := by decide +kernel
theorem dJ8_hugeLength_7cf53_58 : decode cJ8_hugeLength_7cf53 58 = .ok (.iload_n 2, 1) := by decide +kernel
theorem dJ8_hugeLength_7cf53_59 : decode cJ8_hugeLength_7cf53 59 = .ok (.ireturn, 1) := by decide +kernel
theorem dJ3_checkIndex_8e157_0 : decode cJ3_checkIndex_8e157 0 = .ok (.iload_n 0, 1) := by decide +kernel
theorem dJ3_checkIndex_8e157_1 : decode cJ3_checkIndex_8e157 1 = .ok (.ifCond .lt 8, 3) := by decide +kernel
theorem dJ3_checkIndex_8e157_4 : decode cJ3_checkIndex_8e157 4 = .ok (.iload_n 0, 1) := by decide +kernel
theorem dJ3_checkIndex_8e157_5 : decode cJ3_checkIndex_8e157 5 = .ok (.iload_n 1, 1) := by decide +kernel
theorem dJ3_checkIndex_8e157_6 : decode cJ3_checkIndex_8e157 6 = .ok (.if_icmp .lt 10, 3) := by decide +kernel
theorem dJ3_checkIndex_8e157_9 : decode cJ3_checkIndex_8e157 9 = .ok (.aload_n 2, 1) := by decide +kernel
theorem dJ3_checkIndex_8e157_10 : decode cJ3_checkIndex_8e157 10 = .ok (.iload_n 0, 1) := by decide +kernel
theorem dJ3_checkIndex_8e157_11 : decode cJ3_checkIndex_8e157 11 = .ok (.iload_n 1, 1) := by decide +kernel
theorem dJ3_checkIndex_8e157_12 : decode cJ3_checkIndex_8e157 12 = .ok (.invokestatic 95, 3) := by decide +kernel
theorem dJ3_checkIndex_8e157_15 : decode cJ3_checkIndex_8e157 15 = .ok (.athrow, 1) := by decide +kernel
theorem dJ3_checkIndex_8e157_16 : decode cJ3_checkIndex_8e157 16 = .ok (.iload_n 0, 1) := by decide +kernel
theorem dJ3_checkIndex_8e157_17 : decode cJ3_checkIndex_8e157 17 = .ok (.ireturn, 1) := by decide +kernel
end
section
/-! THE BASE: the launch's data, what every method finds (kE), the world of a method (kV), calls, numbers as Nat -/
abbrev kG : Type := va_G × (ClassId × ClassId × ClassId × ClassId) × (Nat × Nat × Nat) × (Nat → Nat)
abbrev kD (G : kG) : va_G := G.1
abbrev kcI (G : kG) : ClassId := G.2.1.1
abbrev kcZ (G : kG) : ClassId := G.2.1.2.1
abbrev kcO (G : kG) : ClassId := G.2.1.2.2.1
abbrev kcL (G : kG) : ClassId := G.2.1.2.2.2
abbrev kB (G : kG) : Nat := G.2.2.1.1
abbrev kE0 (G : kG) : Nat := G.2.2.1.2.1
abbrev kMi (G : kG) : Nat := G.2.2.1.2.2
abbrev kSt (G : kG) : Nat → Nat := G.2.2.2
abbrev kT (G : kG) : List (ClassId × FieldType) := [(kcI G, .int), (kcZ G, .boolean), (kcO G, .object "java/lang/Object"), (kcL G, .long)]
def kA (G : kG) : Nat → Prop := fun q => kB G ≤ q
abbrev kIOB : String := "java/lang/IndexOutOfBoundsException"
abbrev kIAE : String := "java/lang/IllegalArgumentException"
abbrev kISE : String := "java/lang/IllegalStateException"
abbrev kUp : List String := ["java/lang/RuntimeException", "java/lang/Exception"]
/-- links between nest mates, and what the tables alone say of the exceptions' classes -/
def kNw : List Cond := [
  .fieldLinkNest "Yarncourt$Pattern" 52 "Yarncourt$Program" "lineCount" "I" "Yarncourt",
  .fieldLinkNest "Yarncourt$Pattern" 65 "Yarncourt$Program" "knits" "[I" "Yarncourt",
  .fieldLinkNest "Yarncourt$Pattern" 69 "Yarncourt$Program" "purls" "[I" "Yarncourt",
  .fieldLinkNest "Yarncourt$Pattern" 72 "Yarncourt$Program" "shaping" "[I" "Yarncourt",
  .methodLinkNest "Yarncourt$Chart" 29 yX5_widthAfter "Yarncourt",
  .methodLinkNest "Yarncourt$Program" 31 yX5_forGauge "Yarncourt",
  .methodLinkNest "Yarncourt$Program" 46 yX5_widthAfter "Yarncourt",
  .castable kIOB kIOB, .castable kIAE kIAE, .castable kISE kISE, .castable "Yarncourt$Pattern" "java/lang/Object", .castable "Yarncourt$Lot" "java/lang/Object", .castable "Yarncourt$Project" "java/lang/Object",
  .declares (Bundle.initS "java/lang/RuntimeException"), .declares (Bundle.initS "java/lang/Exception"), .declares (Bundle.initS "java/lang/Throwable")]
def kNc : List (String × String) := [(kIOB, kIAE), (kIOB, kISE), (kIAE, kIOB), (kIAE, kISE), (kISE, kIOB), (kISE, kIAE)]
def kTx : List (Nat × String) := [(103, "the pattern can't be worked out for that gauge"), (126, "the pattern can't be published"), (161, "the pattern is not for sale to that person"), (170, "the pattern is no copy, or is barred"), (176, "no more lots"), (189, "both lots are one person's"), (194, "the project can't be begun"), (206, "the lot is another one's"), (221, "no such pattern"), (228, "no such lot"), (230, "no such project"), (232, "no more patterns"), (239, "no such person"), (241, "no such row or place"), (243, "out of range"), (56, "a line without stitches"), (71, "the pattern takes no such line")]
abbrev kArr : String := "java/util/ArrayList"
abbrev kDef : String := "DEFAULTCAPACITY_EMPTY_ELEMENTDATA"
abbrev kObs : String := "[Ljava/lang/Object;"
def kX (G : kG) (U : State) (H : Heap) : Prop :=
  (∀ w ∈ kNw, va_Nw w U) ∧ (∀ q ∈ kNc, va_Nc q.1 q.2 U) ∧ (∀ q ∈ kTx, vk_R RX5 q.1 q.2 (kSt G q.1) U) ∧
  vx_Zq Bundle.tN "UNASSIGNED_STACK" Bundle.steD (kA G) U H ∧ vx_Zq Bundle.tN "SUPPRESSED_SENTINEL" Bundle.listD (kA G) U H ∧
  va_Z kArr kDef kObs (.ref (kE0 G)) (kA G) U H ∧ va_T (.object "java/lang/Object") (kE0 G) 0 (fun _ => .null) (kA G) U H ∧ va_Mi kObs (kMi G) U ∧ va_Dc U ∧ va_AO "java/lang/Object" U
def kE (G : kG) (U : State) (H : Heap) : Prop := va_K (kD G) vwCl (kT G) U ∧ kB G ≤ H.size ∧ kX G U H
theorem kNw_warm {s U : State} (hW : s.WarmedH U.vm) (h : ∀ w ∈ kNw, va_Nw w s) : ∀ w ∈ kNw, va_Nw w U := by
  have hF : ∀ a i b n d o, Cond.fieldLinkNest a i b n d o ∈ kNw → va_Nw (.fieldLinkNest a i b n d o) U := fun a i b n d o hm => va_Nw.warmF hW (h _ hm)
  have hM : ∀ a i b o, Cond.methodLinkNest a i b o ∈ kNw → va_Nw (.methodLinkNest a i b o) U := fun a i b o hm => va_Nw.warmM hW (h _ hm)
  have hC : ∀ a b, Cond.castable a b ∈ kNw → va_Nw (.castable a b) U := fun a b hm => va_Nw.warmC hW (h _ hm)
  have hL : ∀ a, Cond.declares a ∈ kNw → va_Nw (.declares a) U := fun a hm => va_Nw.warmD hW (h _ hm)
  intro w hw
  have hw0 := hw
  unfold kNw at hw
  simp only [List.mem_cons, List.not_mem_nil, or_false] at hw
  rcases hw with rfl | rfl | rfl | rfl | rfl | rfl | rfl | rfl | rfl | rfl | rfl | rfl | rfl | rfl | rfl | rfl
  · exact hF _ _ _ _ _ _ hw0
  · exact hF _ _ _ _ _ _ hw0
  · exact hF _ _ _ _ _ _ hw0
  · exact hF _ _ _ _ _ _ hw0
  · exact hM _ _ _ _ hw0
  · exact hM _ _ _ _ hw0
  · exact hM _ _ _ _ hw0
  · exact hC _ _ hw0
  · exact hC _ _ hw0
  · exact hC _ _ hw0
  · exact hC _ _ hw0
  · exact hC _ _ hw0
  · exact hC _ _ hw0
  · exact hL _ hw0
  · exact hL _ hw0
  · exact hL _ hw0
theorem kNw_same {u U : State} (hv : u.vm = U.vm) (h : ∀ w ∈ kNw, va_Nw w u) : ∀ w ∈ kNw, va_Nw w U := by
  intro w hw
  refine va_Nw.same ?_ hv (h w hw)
  unfold kNw at hw
  simp only [List.mem_cons, List.not_mem_nil, or_false] at hw
  rcases hw with rfl | rfl | rfl | rfl | rfl | rfl | rfl | rfl | rfl | rfl | rfl | rfl | rfl | rfl | rfl | rfl <;> rfl
/-- from a method's start to a callee's: the machine is warmer, the heap has changed in A alone -/
theorem kE_warm {G : kG} {s U : State} {H0 H : Heap} {locs : List Loc} (hW : s.WarmedH U.vm) (hS : va_S (kA G) H0 H locs) (h : kE G s H0) : kE G U H := by
  obtain ⟨h1, h2, h3, h4, h5, h6, h7, h8, h9, h10, h11, h12⟩ := h
  have hk : ∀ a : Nat, a < H0.size → ¬ kA G a → H[a]? = H0[a]? := hS.2.1
  refine ⟨h1.moved hW.alike, Nat.le_trans h2 hS.1, kNw_warm hW h3, fun q hq => (h4 q hq).moved hW.alike, fun q hq => (h5 q hq).warm hW, ?_, ?_, ?_, ?_, h10.moved hW.alike, h11.moved hW.alike, h12.moved hW.alike⟩
  · exact vx_Zq.moved hW.alike (vx_Zq.kept h6 hk)
  · exact vx_Zq.moved hW.alike (vx_Zq.kept h7 hk)
  · exact va_Z.moved hW.alike (va_Z.kept h8 hk)
  · exact va_T.moved hW.alike (va_T.kept h9 hk)
theorem kE_blind {G : kG} {U : State} (g : JFrame) (mk : MethodId) (a : Array Value) (h : kE G U U.heap) : kE G (U.calling g mk a) (U.calling g mk a).heap := by
  obtain ⟨h1, h2, h3, h4, h5, h6, h7, h8, h9, h10, h11, h12⟩ := h
  have hv : U.vm = (U.calling g mk a).vm := rfl
  have hal : U.vm.Alike (U.calling g mk a).vm := Vm.Alike.refl U.vm
  exact ⟨va_K.moved (u := U) (U := U.calling g mk a) hal h1, h2, kNw_same hv h3, fun q hq => va_Nc.moved (u := U) (U := U.calling g mk a) hal (h4 q hq), fun q hq => vk_R.same hv.symm (h5 q hq),
    vx_Zq.moved (u := U) (U := U.calling g mk a) hal h6, vx_Zq.moved (u := U) (U := U.calling g mk a) hal h7, va_Z.moved (u := U) (U := U.calling g mk a) hal h8, va_T.moved (u := U) (U := U.calling g mk a) hal h9, va_Mi.moved (u := U) (U := U.calling g mk a) hal h10, va_Dc.moved (u := U) (U := U.calling g mk a) hal h11, va_AO.moved (u := U) (U := U.calling g mk a) hal h12⟩
/-- the world of a method -/
def kV (G : kG) (ws : va_W) (H : Heap) : Prop := va_P (kD G) vwCl ws H ∧ va_D (kA G) ws
def kPc (G : kG) (av : List Value) (ws : va_W) : Array Value → State → Prop := va_Pc av (fun U => kE G U U.heap ∧ kV G ws U.heap)
theorem kPc_blind {G : kG} {av : List Value} {ws : va_W} : FrameBlind (kPc G av ws) := fun a _ g mk q => ⟨q.1, kE_blind g mk a q.2.1, q.2.2⟩
abbrev kQi (G : kG) {S : Type} (post : Int32 → S → Prop) (wf : S → va_W) : Array Value → State → Outcome → State → Prop := va_Qi post (fun u t => kV G (wf u) t.heap) (kA G)
abbrev kQv (G : kG) {S : Type} (post : S → Prop) (wf : S → va_W) : Array Value → State → Outcome → State → Prop := va_Qv post (fun u t => kV G (wf u) t.heap) (kA G)
abbrev kQq (G : kG) {S : Type} (post : Option Nat → S → Prop) (wf : S → va_W) : Array Value → State → Outcome → State → Prop := va_Qq post (fun u t => kV G (wf u) t.heap) (kA G)
/-- a method that throws leaves its world as it was -/
abbrev kXC (G : kG) (xc : String → Prop) (ws : va_W) : String → State → State → Prop := vx_X (S := Unit) (fun _ => True) (fun E _ t => xc E ∧ kV G ws t.heap) (kA G)
section KVXQ
variable {p : Program} {l : Launch} {e : Env} {R : Room} {s : State} {m : MethodId} {args : Array Value} {below : List Frame} {meth : Method} {c : Code} {H : Heap} {locs : List Loc} {cells slots : Nat} {Q : State → Prop}
variable {pc : Nat} {ls : Array Slot} {rest st0 : List Value} {a : Array Value} {A0 A1 : Nat → Prop} {H0 : Heap} {mc ms : Nat} {free : Addr → Prop}
theorem vx_callq {S SX : Type} {post : Option Nat → S → Prop} {px : SX → Prop} {B : S → State → Prop} {BX : String → SX → State → Prop} {AX : Nat → Prop} (hr : vx_Run p l e R s m args below meth c H locs cells slots mc ms (F0 m pc ls st0) rest (va_Qq post B A1 a) (vx_X px BX AX) free) (hS : va_S A0 H0 H locs) (hA : ∀ q, q < H.size → A1 q → A0 q) (hf : ∀ q, free q → A0 q) (hAX : ∀ q, q < H.size → AX q → A0 q)
    (kx : ∀ (E : String) (ce : Cell) (q9 : Addr) (u : SX) (t : State) (H1 : Heap) (locs1 : List Loc), t.heap = H1 → s.vm.Alike t.vm → px u → BX E u t → H.size ≤ H1.size → (∀ q : Nat, q < H.size → ¬ AX q → H1[q]? = H[q]?) → va_S A0 H0 H1 locs1 → H1[q9]? = some ce → ce.vm = .none → s.vm.findClass E = some ce.cls → vx_W p l e R s m args below meth c H1 locs1 (cells + mc) (slots + ms) Q (F0 m pc ls rest) q9)
    (kk : ∀ (r : Option Nat) (u : S) (t : State) (H1 : Heap) (locs1 : List Loc), t.heap = H1 → s.vm.Alike t.vm → post r u → B u t → H.size ≤ H1.size → (∀ q : Nat, q < H.size → ¬ A1 q → H1[q]? = H[q]?) → va_S A0 H0 H1 locs1 → W p l e R s m args below meth c H1 locs1 (cells + mc) (slots + ms) Q (F0 m (pc + 3) ls (va_rf r :: rest))) : W p l e R s m args below meth c H locs cells slots Q (F0 m pc ls st0) := by
  intro T hT X
  rcases hr T hT X with ⟨v, st₀, t, T', L, h0, X', hL, e1, e2, ⟨⟨r, u, hv, hp, hb⟩, hF⟩, st⟩ | ⟨q, st₀, t, T', L, E, ce, h0, X', hL, e1, e2, ⟨u, hp, hb, hF⟩, hce, hcv, hcl, st⟩
  · cases hv
    obtain ⟨k1, k2, k3⟩ := vx_keep h0 e1 hS hA hf hL hF
    obtain ⟨t2, a1, b1⟩ := kk r u t T'.heap (locs ++ L) e1.symm (by rw [← e2]; exact X'.warmed.alike) hp hb k1 k2 k3 T' rfl X'
    exact ⟨t2, st t2 a1, b1⟩
  · obtain ⟨k1, k2, k3⟩ := vx_keep h0 e1 hS hAX hf hL hF
    obtain ⟨t2, a1, b1⟩ := kx E ce q u t T'.heap (locs ++ L) e1.symm (by rw [← e2]; exact X'.warmed.alike) hp hb k1 k2 k3 (by rw [e1]; exact hce) hcv hcl T' rfl X'
    exact ⟨t2, st.trans a1, b1⟩
end KVXQ
section KCALL
variable {p : Program} {l : Launch} {e : Env} {R : Room} {s : State} {m : MethodId} {args : Array Value} {below : List Frame} {meth : Method} {c : Code} {H : Heap} {locs : List Loc} {cells slots : Nat} {Q : State → Prop}
variable {pc : Nat} {ls : Array Slot} {rest st0 : List Value} {a : Array Value} {mc ms : Nat} {G : kG} {H0 : Heap}
theorem kPreS {w0 : va_W} {As : List Value} (hE : kE G s H0) (hS : va_S (kA G) H0 H locs) (hV : kV G w0 H) : PreS s H (kPc G As w0) As :=
  ⟨kPc_blind, fun U hU hW => ⟨rfl, by rw [hU]; exact kE_warm hW hS hE, by rw [hU]; exact hV⟩⟩
theorem kPreV {w0 : va_W} {As : List Value} {b ci : Nat} {fs : List Value} {C : String} {T : u_T} {N : Nat} (hE : kE G s H0) (hS : va_S (kA G) H0 H locs) (hV : kV G w0 H) (q0 : Nat) (he : w0[q0]? = some (b, .inr (ci, fs))) (hc : vwCl[ci]? = some (C, T, N)) : PreV s H C b (kPc G (.ref b :: As) w0) As :=
  ⟨kPc_blind, va_recv (tys := kT G) hE.1 hV.1 hc he, fun U hU hW => ⟨rfl, by rw [hU]; exact kE_warm hW hS hE, by rw [hU]; exact hV⟩⟩
theorem kPreI {w0 : va_W} {As : List Value} {b : Nat} (hE : kE G s H0) (hS : va_S (kA G) H0 H locs) (hV : kV G w0 H) : PreS s H (kPc G (.ref b :: As) w0) (.ref b :: As) := kPreS hE hS hV
theorem kc_i {S : Type} {post : Int32 → S → Prop} {wf : S → va_W} (hr : va_Run p l e R s m args below meth c H locs cells slots mc ms (F0 m pc ls st0) rest (kQi G post wf a) (kA G)) (hS : va_S (kA G) H0 H locs)
    (kk : ∀ (r : Int32) (u : S) (H1 : Heap) (locs1 : List Loc), post r u → kV G (wf u) H1 → va_S (kA G) H0 H1 locs1 → W p l e R s m args below meth c H1 locs1 (cells + mc) (slots + ms) Q (F0 m (pc + 3) ls (.int r :: rest))) : W p l e R s m args below meth c H locs cells slots Q (F0 m pc ls st0) :=
  va_calli hr hS (fun _ _ h => h) (fun _ h => h) (fun r u t H1 locs1 ht _ hp hB _ _ hS1 => kk r u H1 locs1 hp (ht ▸ hB) hS1)
theorem kc_v {S : Type} {post : S → Prop} {wf : S → va_W} (hr : va_Run p l e R s m args below meth c H locs cells slots mc ms (F0 m pc ls st0) rest (kQv G post wf a) (kA G)) (hS : va_S (kA G) H0 H locs)
    (kk : ∀ (u : S) (H1 : Heap) (locs1 : List Loc), post u → kV G (wf u) H1 → va_S (kA G) H0 H1 locs1 → W p l e R s m args below meth c H1 locs1 (cells + mc) (slots + ms) Q (F0 m (pc + 3) ls rest)) : W p l e R s m args below meth c H locs cells slots Q (F0 m pc ls st0) :=
  va_callv hr hS (fun _ _ h => h) (fun _ h => h) (fun u t H1 locs1 ht _ hp hB _ _ hS1 => kk u H1 locs1 hp (ht ▸ hB) hS1)
theorem kc_q {S : Type} {post : Option Nat → S → Prop} {wf : S → va_W} (hr : va_Run p l e R s m args below meth c H locs cells slots mc ms (F0 m pc ls st0) rest (kQq G post wf a) (kA G)) (hS : va_S (kA G) H0 H locs)
    (kk : ∀ (r : Option Nat) (u : S) (H1 : Heap) (locs1 : List Loc), post r u → kV G (wf u) H1 → va_S (kA G) H0 H1 locs1 → W p l e R s m args below meth c H1 locs1 (cells + mc) (slots + ms) Q (F0 m (pc + 3) ls (va_rf r :: rest))) : W p l e R s m args below meth c H locs cells slots Q (F0 m pc ls st0) :=
  va_callq hr hS (fun _ _ h => h) (fun _ h => h) (fun r u t H1 locs1 ht _ hp hB _ _ hS1 => kk r u H1 locs1 hp (ht ▸ hB) hS1)
theorem kx_i {S : Type} {post : Int32 → S → Prop} {wf : S → va_W} {xc : String → Prop} {w0 : va_W} (hr : vx_Run p l e R s m args below meth c H locs cells slots mc ms (F0 m pc ls st0) rest (kQi G post wf a) (kXC G xc w0) (kA G)) (hS : va_S (kA G) H0 H locs)
    (kx : ∀ (E : String) (ce : Cell) (q9 : Addr) (H1 : Heap) (locs1 : List Loc), xc E → kV G w0 H1 → va_S (kA G) H0 H1 locs1 → H1[q9]? = some ce → ce.vm = .none → s.vm.findClass E = some ce.cls → vx_W p l e R s m args below meth c H1 locs1 (cells + mc) (slots + ms) Q (F0 m pc ls rest) q9)
    (kk : ∀ (r : Int32) (u : S) (H1 : Heap) (locs1 : List Loc), post r u → kV G (wf u) H1 → va_S (kA G) H0 H1 locs1 → W p l e R s m args below meth c H1 locs1 (cells + mc) (slots + ms) Q (F0 m (pc + 3) ls (.int r :: rest))) : W p l e R s m args below meth c H locs cells slots Q (F0 m pc ls st0) :=
  vx_calli hr hS (fun _ _ h => h) (fun _ h => h) (fun _ _ h => h) (fun E ce q9 _ t H1 locs1 ht _ _ hB _ _ hS1 g1 g2 g3 => kx E ce q9 H1 locs1 hB.1 (ht ▸ hB.2) hS1 g1 g2 g3) (fun r u t H1 locs1 ht _ hp hB _ _ hS1 => kk r u H1 locs1 hp (ht ▸ hB) hS1)
theorem kx_v {S : Type} {post : S → Prop} {wf : S → va_W} {xc : String → Prop} {w0 : va_W} (hr : vx_Run p l e R s m args below meth c H locs cells slots mc ms (F0 m pc ls st0) rest (kQv G post wf a) (kXC G xc w0) (kA G)) (hS : va_S (kA G) H0 H locs)
    (kx : ∀ (E : String) (ce : Cell) (q9 : Addr) (H1 : Heap) (locs1 : List Loc), xc E → kV G w0 H1 → va_S (kA G) H0 H1 locs1 → H1[q9]? = some ce → ce.vm = .none → s.vm.findClass E = some ce.cls → vx_W p l e R s m args below meth c H1 locs1 (cells + mc) (slots + ms) Q (F0 m pc ls rest) q9)
    (kk : ∀ (u : S) (H1 : Heap) (locs1 : List Loc), post u → kV G (wf u) H1 → va_S (kA G) H0 H1 locs1 → W p l e R s m args below meth c H1 locs1 (cells + mc) (slots + ms) Q (F0 m (pc + 3) ls rest)) : W p l e R s m args below meth c H locs cells slots Q (F0 m pc ls st0) :=
  vx_callv hr hS (fun _ _ h => h) (fun _ h => h) (fun _ _ h => h) (fun E ce q9 _ t H1 locs1 ht _ _ hB _ _ hS1 g1 g2 g3 => kx E ce q9 H1 locs1 hB.1 (ht ▸ hB.2) hS1 g1 g2 g3) (fun u t H1 locs1 ht _ hp hB _ _ hS1 => kk u H1 locs1 hp (ht ▸ hB) hS1)
theorem kx_q {S : Type} {post : Option Nat → S → Prop} {wf : S → va_W} {xc : String → Prop} {w0 : va_W} (hr : vx_Run p l e R s m args below meth c H locs cells slots mc ms (F0 m pc ls st0) rest (kQq G post wf a) (kXC G xc w0) (kA G)) (hS : va_S (kA G) H0 H locs)
    (kx : ∀ (E : String) (ce : Cell) (q9 : Addr) (H1 : Heap) (locs1 : List Loc), xc E → kV G w0 H1 → va_S (kA G) H0 H1 locs1 → H1[q9]? = some ce → ce.vm = .none → s.vm.findClass E = some ce.cls → vx_W p l e R s m args below meth c H1 locs1 (cells + mc) (slots + ms) Q (F0 m pc ls rest) q9)
    (kk : ∀ (r : Option Nat) (u : S) (H1 : Heap) (locs1 : List Loc), post r u → kV G (wf u) H1 → va_S (kA G) H0 H1 locs1 → W p l e R s m args below meth c H1 locs1 (cells + mc) (slots + ms) Q (F0 m (pc + 3) ls (va_rf r :: rest))) : W p l e R s m args below meth c H locs cells slots Q (F0 m pc ls st0) :=
  vx_callq hr hS (fun _ _ h => h) (fun _ h => h) (fun _ _ h => h) (fun E ce q9 _ t H1 locs1 ht _ _ hB _ _ hS1 g1 g2 g3 => kx E ce q9 H1 locs1 hB.1 (ht ▸ hB.2) hS1 g1 g2 g3) (fun r u t H1 locs1 ht _ hp hB _ _ hS1 => kk r u H1 locs1 hp (ht ▸ hB) hS1)
end KCALL
/-! cells whose numbers are counts -/
abbrev aN (cA : ClassId) (n : Nat) (g : Nat → Nat) : va_E := .inl (cA, n, .inl (fun i => nI (g i)))
def zI (z : Int) : Int32 := Int32.ofInt z
abbrev aZ (cA : ClassId) (n : Nat) (g : Nat → Int) : va_E := .inl (cA, n, .inl (fun i => zI (g i)))
abbrev aR (cA : ClassId) (n : Nat) (g : Nat → Int32) : va_E := .inl (cA, n, .inl g)
theorem kn_upd {g : Nat → Nat} {j v : Nat} (hj : j < 2 ^ 31) : upd (fun i => nI (g i)) (nI j).toNatClampNeg (nI v) = fun i => nI (va_up g j v i) := by
  rw [nI_clamp hj]
  funext i
  simp only [upd, va_up]
  by_cases h : i = j <;> simp [h]
theorem kz_upd {g : Nat → Int} {j : Nat} {v : Int} (hj : j < 2 ^ 31) : upd (fun i => zI (g i)) (nI j).toNatClampNeg (zI v) = fun i => zI (va_up g j v i) := by
  rw [nI_clamp hj]
  funext i
  simp only [upd, va_up]
  by_cases h : i = j <;> simp [h]
theorem kr_upd {g : Nat → Int32} {j : Nat} {v : Int32} (hj : j < 2 ^ 31) : upd g (nI j).toNatClampNeg v = va_up g j v := by
  rw [nI_clamp hj]
  funext i
  simp only [upd, va_up]
section KNUM
variable {p : Program} {l : Launch} {e : Env} {R : Room} {s : State} {m : MethodId} {args : Array Value} {below : List Frame} {meth : Method} {c : Code} {H : Heap} {locs : List Loc} {cells slots : Nat} {Q : State → Prop}
variable {cc : ByteArray} {pc : Nat} {ls : Array Slot} {rest : List Value} {G : kG} {H0 : Heap} {ws : va_W} {a : Nat}
theorem kn_add (hexec : p.tables.exec = Jvm.exec) (hb : c.code = cc) {x y : Nat} (hdg : decode cc pc = .ok (.iadd, 1))
    (k : W p l e R s m args below meth c H locs cells slots Q (F0 m (pc + 1) ls (.int (nI (x + y)) :: rest))) : W p l e R s m args below meth c H locs cells slots Q (F0 m pc ls (.int (nI y) :: .int (nI x) :: rest)) :=
  lv_iadd hexec hb hdg (by rw [nI_add]; exact k)
theorem kn_sub (hexec : p.tables.exec = Jvm.exec) (hb : c.code = cc) {x y : Nat} (h : y ≤ x) (hdg : decode cc pc = .ok (.isub, 1))
    (k : W p l e R s m args below meth c H locs cells slots Q (F0 m (pc + 1) ls (.int (nI (x - y)) :: rest))) : W p l e R s m args below meth c H locs cells slots Q (F0 m pc ls (.int (nI y) :: .int (nI x) :: rest)) :=
  lv_isub hexec hb hdg (by rw [pk_sub h]; exact k)
theorem kn_mul (hexec : p.tables.exec = Jvm.exec) (hb : c.code = cc) {x y : Nat} (hdg : decode cc pc = .ok (.imul, 1))
    (k : W p l e R s m args below meth c H locs cells slots Q (F0 m (pc + 1) ls (.int (nI (x * y)) :: rest))) : W p l e R s m args below meth c H locs cells slots Q (F0 m pc ls (.int (nI y) :: .int (nI x) :: rest)) :=
  lv_imul hexec hb hdg (by rw [pk_mul]; exact k)
theorem kn_div (hexec : p.tables.exec = Jvm.exec) (hb : c.code = cc) {x y : Nat} (hx : x < 2 ^ 31) (h0 : 0 < y) (hy : y < 2 ^ 31) (hdg : decode cc pc = .ok (.idiv, 1))
    (k : W p l e R s m args below meth c H locs cells slots Q (F0 m (pc + 1) ls (.int (nI (x / y)) :: rest))) : W p l e R s m args below meth c H locs cells slots Q (F0 m pc ls (.int (nI y) :: .int (nI x) :: rest)) :=
  lv_idiv hexec hb hdg (nI_ne0 h0 hy) (by rw [pk_div hx h0 hy]; exact k)
theorem kn_rem (hexec : p.tables.exec = Jvm.exec) (hb : c.code = cc) {x y : Nat} (hx : x < 2 ^ 31) (h0 : 0 < y) (hy : y < 2 ^ 31) (hdg : decode cc pc = .ok (.irem, 1))
    (k : W p l e R s m args below meth c H locs cells slots Q (F0 m (pc + 1) ls (.int (nI (x % y)) :: rest))) : W p l e R s m args below meth c H locs cells slots Q (F0 m pc ls (.int (nI y) :: .int (nI x) :: rest)) :=
  lv_irem hexec hb hdg (nI_ne0 h0 hy) (by rw [pk_rem hx h0 hy]; exact k)
theorem kn_lt (hexec : p.tables.exec = Jvm.exec) (hb : c.code = cc) {x y : Nat} {off : Int} {tgt : Nat} (hx : x < 2 ^ 31) (hy : y < 2 ^ 31) (hdg : decode cc pc = .ok (.if_icmp .lt off, 3)) (ht : (pc : Int) + off = (tgt : Int))
    (kt : x < y → W p l e R s m args below meth c H locs cells slots Q (F0 m tgt ls rest)) (kf : y ≤ x → W p l e R s m args below meth c H locs cells slots Q (F0 m (pc + 3) ls rest)) : W p l e R s m args below meth c H locs cells slots Q (F0 m pc ls (.int (nI y) :: .int (nI x) :: rest)) :=
  lv_icmp_lt hexec hb hdg ht (fun h => kt ((nI_ltI hx hy).mp h)) (fun h => kf (Nat.not_lt.mp (fun z => h ((nI_ltI hx hy).mpr z))))
theorem kn_ge (hexec : p.tables.exec = Jvm.exec) (hb : c.code = cc) {x y : Nat} {off : Int} {tgt : Nat} (hx : x < 2 ^ 31) (hy : y < 2 ^ 31) (hdg : decode cc pc = .ok (.if_icmp .ge off, 3)) (ht : (pc : Int) + off = (tgt : Int))
    (kt : y ≤ x → W p l e R s m args below meth c H locs cells slots Q (F0 m tgt ls rest)) (kf : x < y → W p l e R s m args below meth c H locs cells slots Q (F0 m (pc + 3) ls rest)) : W p l e R s m args below meth c H locs cells slots Q (F0 m pc ls (.int (nI y) :: .int (nI x) :: rest)) :=
  lv_icmp_ge hexec hb hdg ht (fun h => kt ((nI_leI hy hx).mp h)) (fun h => kf (Nat.not_le.mp (fun z => h ((nI_leI hy hx).mpr z))))
theorem kn_gt (hexec : p.tables.exec = Jvm.exec) (hb : c.code = cc) {x y : Nat} {off : Int} {tgt : Nat} (hx : x < 2 ^ 31) (hy : y < 2 ^ 31) (hdg : decode cc pc = .ok (.if_icmp .gt off, 3)) (ht : (pc : Int) + off = (tgt : Int))
    (kt : y < x → W p l e R s m args below meth c H locs cells slots Q (F0 m tgt ls rest)) (kf : x ≤ y → W p l e R s m args below meth c H locs cells slots Q (F0 m (pc + 3) ls rest)) : W p l e R s m args below meth c H locs cells slots Q (F0 m pc ls (.int (nI y) :: .int (nI x) :: rest)) :=
  lv_icmp_gt hexec hb hdg ht (fun h => kt ((nI_ltI hy hx).mp h)) (fun h => kf (Nat.not_lt.mp (fun z => h ((nI_ltI hy hx).mpr z))))
theorem kn_le (hexec : p.tables.exec = Jvm.exec) (hb : c.code = cc) {x y : Nat} {off : Int} {tgt : Nat} (hx : x < 2 ^ 31) (hy : y < 2 ^ 31) (hdg : decode cc pc = .ok (.if_icmp .le off, 3)) (ht : (pc : Int) + off = (tgt : Int))
    (kt : x ≤ y → W p l e R s m args below meth c H locs cells slots Q (F0 m tgt ls rest)) (kf : y < x → W p l e R s m args below meth c H locs cells slots Q (F0 m (pc + 3) ls rest)) : W p l e R s m args below meth c H locs cells slots Q (F0 m pc ls (.int (nI y) :: .int (nI x) :: rest)) :=
  lv_icmp_le hexec hb hdg ht (fun h => kt ((nI_leI hx hy).mp h)) (fun h => kf (Nat.not_le.mp (fun z => h ((nI_leI hx hy).mpr z))))
theorem kn_eq (hexec : p.tables.exec = Jvm.exec) (hb : c.code = cc) {x y : Nat} {off : Int} {tgt : Nat} (hx : x < 2 ^ 31) (hy : y < 2 ^ 31) (hdg : decode cc pc = .ok (.if_icmp .eq off, 3)) (ht : (pc : Int) + off = (tgt : Int))
    (kt : x = y → W p l e R s m args below meth c H locs cells slots Q (F0 m tgt ls rest)) (kf : x ≠ y → W p l e R s m args below meth c H locs cells slots Q (F0 m (pc + 3) ls rest)) : W p l e R s m args below meth c H locs cells slots Q (F0 m pc ls (.int (nI y) :: .int (nI x) :: rest)) :=
  lv_icmp_eq hexec hb hdg ht (fun h => kt ((nI_eq hx hy).mp h)) (fun h => kf (fun z => h ((nI_eq hx hy).mpr z)))
theorem kn_ne (hexec : p.tables.exec = Jvm.exec) (hb : c.code = cc) {x y : Nat} {off : Int} {tgt : Nat} (hx : x < 2 ^ 31) (hy : y < 2 ^ 31) (hdg : decode cc pc = .ok (.if_icmp .ne off, 3)) (ht : (pc : Int) + off = (tgt : Int))
    (kt : x ≠ y → W p l e R s m args below meth c H locs cells slots Q (F0 m tgt ls rest)) (kf : x = y → W p l e R s m args below meth c H locs cells slots Q (F0 m (pc + 3) ls rest)) : W p l e R s m args below meth c H locs cells slots Q (F0 m pc ls (.int (nI y) :: .int (nI x) :: rest)) :=
  lv_icmp_ne hexec hb hdg ht (fun h => kt (fun z => h ((nI_eq hx hy).mpr z))) (fun h => kf ((nI_eq hx hy).mp h))
theorem kn_if_eq (hexec : p.tables.exec = Jvm.exec) (hb : c.code = cc) {x : Nat} {off : Int} {tgt : Nat} (hx : x < 2 ^ 31) (hdg : decode cc pc = .ok (.ifCond .eq off, 3)) (ht : (pc : Int) + off = (tgt : Int))
    (kt : x = 0 → W p l e R s m args below meth c H locs cells slots Q (F0 m tgt ls rest)) (kf : x ≠ 0 → W p l e R s m args below meth c H locs cells slots Q (F0 m (pc + 3) ls rest)) : W p l e R s m args below meth c H locs cells slots Q (F0 m pc ls (.int (nI x) :: rest)) :=
  lv_if_eq hexec hb hdg ht (fun h => kt ((nI_eq hx (by decide)).mp (h.trans nI_0.symm))) (fun h => kf (fun z => h (by rw [z]; exact nI_0)))
theorem kn_if_ne (hexec : p.tables.exec = Jvm.exec) (hb : c.code = cc) {x : Nat} {off : Int} {tgt : Nat} (hx : x < 2 ^ 31) (hdg : decode cc pc = .ok (.ifCond .ne off, 3)) (ht : (pc : Int) + off = (tgt : Int))
    (kt : x ≠ 0 → W p l e R s m args below meth c H locs cells slots Q (F0 m tgt ls rest)) (kf : x = 0 → W p l e R s m args below meth c H locs cells slots Q (F0 m (pc + 3) ls rest)) : W p l e R s m args below meth c H locs cells slots Q (F0 m pc ls (.int (nI x) :: rest)) :=
  lv_if_ne hexec hb hdg ht (fun h => kt (fun z => h (by rw [z]; exact nI_0))) (fun h => kf ((nI_eq hx (by decide)).mp (h.trans nI_0.symm)))
theorem kn_iald (hexec : p.tables.exec = Jvm.exec) (hb : c.code = cc) (hK : va_K (kD G) vwCl (kT G) s) (hV : kV G ws H) (q0 : Nat) {n : Nat} {g : Nat → Nat} (ha : ws[q0]? = some (a, aN (kcI G) n g)) {j : Nat} (hj : j < n) (hn : n < 2 ^ 31) (hdg : decode cc pc = .ok (.iaload, 1))
    (kk : W p l e R s m args below meth c H locs cells slots Q (F0 m (pc + 1) ls (.int (nI (g j)) :: rest))) : W p l e R s m args below meth c H locs cells slots Q (F0 m pc ls (.int (nI j) :: .ref a :: rest)) :=
  va_iald hexec hb hK hV.1 q0 0 ha rfl (vp_in_nI hj hn) hdg (by rw [nI_clamp (Nat.lt_trans hj hn)]; exact kk)
theorem kz_iald (hexec : p.tables.exec = Jvm.exec) (hb : c.code = cc) (hK : va_K (kD G) vwCl (kT G) s) (hV : kV G ws H) (q0 : Nat) {n : Nat} {g : Nat → Int} (ha : ws[q0]? = some (a, aZ (kcI G) n g)) {j : Nat} (hj : j < n) (hn : n < 2 ^ 31) (hdg : decode cc pc = .ok (.iaload, 1))
    (kk : W p l e R s m args below meth c H locs cells slots Q (F0 m (pc + 1) ls (.int (zI (g j)) :: rest))) : W p l e R s m args below meth c H locs cells slots Q (F0 m pc ls (.int (nI j) :: .ref a :: rest)) :=
  va_iald hexec hb hK hV.1 q0 0 ha rfl (vp_in_nI hj hn) hdg (by rw [nI_clamp (Nat.lt_trans hj hn)]; exact kk)
theorem kr_iald (hexec : p.tables.exec = Jvm.exec) (hb : c.code = cc) (hK : va_K (kD G) vwCl (kT G) s) (hV : kV G ws H) (q0 : Nat) {n : Nat} {g : Nat → Int32} (ha : ws[q0]? = some (a, aR (kcI G) n g)) {j : Nat} (hj : j < n) (hn : n < 2 ^ 31) (hdg : decode cc pc = .ok (.iaload, 1))
    (kk : W p l e R s m args below meth c H locs cells slots Q (F0 m (pc + 1) ls (.int (g j) :: rest))) : W p l e R s m args below meth c H locs cells slots Q (F0 m pc ls (.int (nI j) :: .ref a :: rest)) :=
  va_iald hexec hb hK hV.1 q0 0 ha rfl (vp_in_nI hj hn) hdg (by rw [nI_clamp (Nat.lt_trans hj hn)]; exact kk)
theorem kn_zald (hexec : p.tables.exec = Jvm.exec) (hb : c.code = cc) (hK : va_K (kD G) vwCl (kT G) s) (hV : kV G ws H) (q0 : Nat) {n : Nat} {g : Nat → Nat} (ha : ws[q0]? = some (a, aN (kcZ G) n g)) {j : Nat} (hj : j < n) (hn : n < 2 ^ 31) (hdg : decode cc pc = .ok (.baload, 1))
    (kk : W p l e R s m args below meth c H locs cells slots Q (F0 m (pc + 1) ls (.int (nI (g j)) :: rest))) : W p l e R s m args below meth c H locs cells slots Q (F0 m pc ls (.int (nI j) :: .ref a :: rest)) :=
  va_zald hexec hb hK hV.1 q0 1 ha rfl (vp_in_nI hj hn) hdg (by rw [nI_clamp (Nat.lt_trans hj hn)]; exact kk)
theorem kn_iast (hexec : p.tables.exec = Jvm.exec) (hb : c.code = cc) (hK : va_K (kD G) vwCl (kT G) s) (hV : kV G ws H) (hS : va_S (kA G) H0 H locs) (q0 : Nat) {n : Nat} {g : Nat → Nat} (ha : ws[q0]? = some (a, aN (kcI G) n g)) {j v : Nat} (hj : j < n) (hn : n < 2 ^ 31) (hdg : decode cc pc = .ok (.iastore, 1))
    (kk : ∀ (H1 : Heap) (locs1 : List Loc), kV G (ws.set q0 (a, aN (kcI G) n (va_up g j v))) H1 → va_S (kA G) H0 H1 locs1 → W p l e R s m args below meth c H1 locs1 cells slots Q (F0 m (pc + 1) ls rest)) : W p l e R s m args below meth c H locs cells slots Q (F0 m pc ls (.int (nI v) :: .int (nI j) :: .ref a :: rest)) :=
  va_iast hexec hb hK hV.1 hV.2 hS q0 0 ha rfl (vp_in_nI hj hn) hdg (by rw [kn_upd (Nat.lt_trans hj hn)]; exact fun H1 locs1 h1 h2 h3 => kk H1 locs1 ⟨h1, h2⟩ h3)
theorem kz_iast (hexec : p.tables.exec = Jvm.exec) (hb : c.code = cc) (hK : va_K (kD G) vwCl (kT G) s) (hV : kV G ws H) (hS : va_S (kA G) H0 H locs) (q0 : Nat) {n : Nat} {g : Nat → Int} (ha : ws[q0]? = some (a, aZ (kcI G) n g)) {j : Nat} {v : Int} (hj : j < n) (hn : n < 2 ^ 31) (hdg : decode cc pc = .ok (.iastore, 1))
    (kk : ∀ (H1 : Heap) (locs1 : List Loc), kV G (ws.set q0 (a, aZ (kcI G) n (va_up g j v))) H1 → va_S (kA G) H0 H1 locs1 → W p l e R s m args below meth c H1 locs1 cells slots Q (F0 m (pc + 1) ls rest)) : W p l e R s m args below meth c H locs cells slots Q (F0 m pc ls (.int (zI v) :: .int (nI j) :: .ref a :: rest)) :=
  va_iast hexec hb hK hV.1 hV.2 hS q0 0 ha rfl (vp_in_nI hj hn) hdg (by rw [kz_upd (Nat.lt_trans hj hn)]; exact fun H1 locs1 h1 h2 h3 => kk H1 locs1 ⟨h1, h2⟩ h3)
theorem kr_iast (hexec : p.tables.exec = Jvm.exec) (hb : c.code = cc) (hK : va_K (kD G) vwCl (kT G) s) (hV : kV G ws H) (hS : va_S (kA G) H0 H locs) (q0 : Nat) {n : Nat} {g : Nat → Int32} (ha : ws[q0]? = some (a, aR (kcI G) n g)) {j : Nat} {v : Int32} (hj : j < n) (hn : n < 2 ^ 31) (hdg : decode cc pc = .ok (.iastore, 1))
    (kk : ∀ (H1 : Heap) (locs1 : List Loc), kV G (ws.set q0 (a, aR (kcI G) n (va_up g j v))) H1 → va_S (kA G) H0 H1 locs1 → W p l e R s m args below meth c H1 locs1 cells slots Q (F0 m (pc + 1) ls rest)) : W p l e R s m args below meth c H locs cells slots Q (F0 m pc ls (.int v :: .int (nI j) :: .ref a :: rest)) :=
  va_iast hexec hb hK hV.1 hV.2 hS q0 0 ha rfl (vp_in_nI hj hn) hdg (by rw [kr_upd (Nat.lt_trans hj hn)]; exact fun H1 locs1 h1 h2 h3 => kk H1 locs1 ⟨h1, h2⟩ h3)
/-- a boolean array is told 1 -/
theorem kn_zast1 (hexec : p.tables.exec = Jvm.exec) (hb : c.code = cc) (hK : va_K (kD G) vwCl (kT G) s) (hV : kV G ws H) (hS : va_S (kA G) H0 H locs) (q0 : Nat) {n : Nat} {g : Nat → Nat} (ha : ws[q0]? = some (a, aN (kcZ G) n g)) {j : Nat} (hj : j < n) (hn : n < 2 ^ 31) (hdg : decode cc pc = .ok (.bastore, 1))
    (kk : ∀ (H1 : Heap) (locs1 : List Loc), kV G (ws.set q0 (a, aN (kcZ G) n (va_up g j 1))) H1 → va_S (kA G) H0 H1 locs1 → W p l e R s m args below meth c H1 locs1 cells slots Q (F0 m (pc + 1) ls rest)) : W p l e R s m args below meth c H locs cells slots Q (F0 m pc ls (.int (nI 1) :: .int (nI j) :: .ref a :: rest)) :=
  va_zast hexec hb hK hV.1 hV.2 hS q0 1 ha rfl (vp_in_nI hj hn) hdg (by rw [show vp_nar .boolean (nI 1) = nI 1 from by decide, kn_upd (Nat.lt_trans hj hn)]; exact fun H1 locs1 h1 h2 h3 => kk H1 locs1 ⟨h1, h2⟩ h3)
end KNUM
theorem kn_iinc (x : Nat) (n : Nat) : nI x + Int32.ofInt (n : Int) = nI (x + n) := by
  rw [show Int32.ofInt (n : Int) = nI n from rfl, nI_add]
/-! truth values as 0 and 1; a choice that asks for no decision -/
noncomputable def kb (c : Prop) : Nat := @ite _ c (Classical.propDecidable c) 1 0
theorem kb_t {c : Prop} (h : c) : kb c = 1 := by unfold kb; exact if_pos h
theorem kb_f {c : Prop} (h : ¬ c) : kb c = 0 := by unfold kb; exact if_neg h
theorem kb_lt (c : Prop) : kb c < 2 ^ 31 := by
  by_cases h : c
  · rw [kb_t h]; decide
  · rw [kb_f h]; decide
theorem kb_nar (c : Prop) : narrow .boolean (.int (nI (kb c))) = .int (nI (kb c)) := by
  by_cases h : c
  · rw [kb_t h]; decide
  · rw [kb_f h]; decide
noncomputable def kif {α : Sort _} (c : Prop) (a b : α) : α := @ite α c (Classical.propDecidable c) a b
theorem kif_t {α : Sort _} {c : Prop} {a b : α} (h : c) : kif c a b = a := by unfold kif; exact if_pos h
theorem kif_f {α : Sort _} {c : Prop} {a b : α} (h : ¬ c) : kif c a b = b := by unfold kif; exact if_neg h
section KNUM2
variable {p : Program} {l : Launch} {e : Env} {R : Room} {s : State} {m : MethodId} {args : Array Value} {below : List Frame} {meth : Method} {c : Code} {H : Heap} {locs : List Loc} {cells slots : Nat} {Q : State → Prop}
variable {cc : ByteArray} {pc : Nat} {ls : Array Slot} {rest : List Value}
theorem kb_if_eq (hexec : p.tables.exec = Jvm.exec) (hb : c.code = cc) {x : Prop} {off : Int} {tgt : Nat} (hdg : decode cc pc = .ok (.ifCond .eq off, 3)) (ht : (pc : Int) + off = (tgt : Int))
    (kt : ¬ x → W p l e R s m args below meth c H locs cells slots Q (F0 m tgt ls rest)) (kf : x → W p l e R s m args below meth c H locs cells slots Q (F0 m (pc + 3) ls rest)) : W p l e R s m args below meth c H locs cells slots Q (F0 m pc ls (.int (nI (kb x)) :: rest)) :=
  kn_if_eq hexec hb (kb_lt x) hdg ht (fun h => kt (fun z => by rw [kb_t z] at h; cases h)) (fun h => kf (Classical.byContradiction fun z => h (kb_f z)))
theorem kb_if_ne (hexec : p.tables.exec = Jvm.exec) (hb : c.code = cc) {x : Prop} {off : Int} {tgt : Nat} (hdg : decode cc pc = .ok (.ifCond .ne off, 3)) (ht : (pc : Int) + off = (tgt : Int))
    (kt : x → W p l e R s m args below meth c H locs cells slots Q (F0 m tgt ls rest)) (kf : ¬ x → W p l e R s m args below meth c H locs cells slots Q (F0 m (pc + 3) ls rest)) : W p l e R s m args below meth c H locs cells slots Q (F0 m pc ls (.int (nI (kb x)) :: rest)) :=
  kn_if_ne hexec hb (kb_lt x) hdg ht (fun h => kt (Classical.byContradiction fun z => h (kb_f z))) (fun h => kf (fun z => by rw [kb_t z] at h; cases h))
theorem kn_if_eq_lit (hexec : p.tables.exec = Jvm.exec) (hb : c.code = cc) {x : Nat} {off : Int} {tgt : Nat} (hx : x = 0) (hdg : decode cc pc = .ok (.ifCond .eq off, 3)) (ht : (pc : Int) + off = (tgt : Int))
    (k : W p l e R s m args below meth c H locs cells slots Q (F0 m tgt ls rest)) : W p l e R s m args below meth c H locs cells slots Q (F0 m pc ls (.int (nI x) :: rest)) :=
  lv_if_eq hexec hb hdg ht (fun _ => k) (fun h => absurd (by rw [hx]; exact nI_0) h)
theorem kn_if_eq_not (hexec : p.tables.exec = Jvm.exec) (hb : c.code = cc) {x : Nat} {off : Int} (hx : 0 < x ∧ x < 2 ^ 31) (hdg : decode cc pc = .ok (.ifCond .eq off, 3))
    (k : W p l e R s m args below meth c H locs cells slots Q (F0 m (pc + 3) ls rest)) (tgt : Nat) (ht : (pc : Int) + off = (tgt : Int)) : W p l e R s m args below meth c H locs cells slots Q (F0 m pc ls (.int (nI x) :: rest)) :=
  lv_if_eq hexec hb hdg ht (fun h => absurd h (nI_ne0 hx.1 hx.2)) (fun _ => k)
theorem kn_if_ne_lit (hexec : p.tables.exec = Jvm.exec) (hb : c.code = cc) {x : Nat} {off : Int} {tgt : Nat} (hx : 0 < x ∧ x < 2 ^ 31) (hdg : decode cc pc = .ok (.ifCond .ne off, 3)) (ht : (pc : Int) + off = (tgt : Int))
    (k : W p l e R s m args below meth c H locs cells slots Q (F0 m tgt ls rest)) : W p l e R s m args below meth c H locs cells slots Q (F0 m pc ls (.int (nI x) :: rest)) :=
  lv_if_ne hexec hb hdg ht (fun _ => k) (fun h => absurd h (nI_ne0 hx.1 hx.2))
theorem kn_if_ne_not (hexec : p.tables.exec = Jvm.exec) (hb : c.code = cc) {x : Nat} {off : Int} (hx : x = 0) (hdg : decode cc pc = .ok (.ifCond .ne off, 3))
    (k : W p l e R s m args below meth c H locs cells slots Q (F0 m (pc + 3) ls rest)) (tgt : Nat) (ht : (pc : Int) + off = (tgt : Int)) : W p l e R s m args below meth c H locs cells slots Q (F0 m pc ls (.int (nI x) :: rest)) :=
  lv_if_ne hexec hb hdg ht (fun h => absurd (by rw [hx]; exact nI_0) h) (fun _ => k)
theorem kn_if_le (hexec : p.tables.exec = Jvm.exec) (hb : c.code = cc) {x : Nat} {off : Int} {tgt : Nat} (hx : x < 2 ^ 31) (hdg : decode cc pc = .ok (.ifCond .le off, 3)) (ht : (pc : Int) + off = (tgt : Int))
    (kt : x = 0 → W p l e R s m args below meth c H locs cells slots Q (F0 m tgt ls rest)) (kf : 0 < x → W p l e R s m args below meth c H locs cells slots Q (F0 m (pc + 3) ls rest)) : W p l e R s m args below meth c H locs cells slots Q (F0 m pc ls (.int (nI x) :: rest)) :=
  lv_if_le hexec hb hdg ht (fun h => kt (by
    rcases Nat.eq_zero_or_pos x with q | q
    · exact q
    · exact absurd h (nI_nle q hx))) (fun h => kf (by
    rcases Nat.eq_zero_or_pos x with q | q
    · subst q; exact absurd (by decide) h
    · exact q))
theorem kn_if_gt (hexec : p.tables.exec = Jvm.exec) (hb : c.code = cc) {x : Nat} {off : Int} {tgt : Nat} (hx : x < 2 ^ 31) (hdg : decode cc pc = .ok (.ifCond .gt off, 3)) (ht : (pc : Int) + off = (tgt : Int))
    (kt : 0 < x → W p l e R s m args below meth c H locs cells slots Q (F0 m tgt ls rest)) (kf : x = 0 → W p l e R s m args below meth c H locs cells slots Q (F0 m (pc + 3) ls rest)) : W p l e R s m args below meth c H locs cells slots Q (F0 m pc ls (.int (nI x) :: rest)) :=
  lv_if_gt hexec hb hdg ht (fun h => kt (by
    rcases Nat.eq_zero_or_pos x with q | q
    · subst q; exact absurd h (by decide)
    · exact q)) (fun h => kf (by
    rcases Nat.eq_zero_or_pos x with q | q
    · exact q
    · exact absurd ((nI_ltI (a := 0) (by decide) hx).mpr q) h))
/-- a negative jump's row for a value that may be a reference or null -/
theorem kq_ifnull (hexec : p.tables.exec = Jvm.exec) (hb : c.code = cc) {o : Option Nat} {off : Int} {tgt : Nat} (hdg : decode cc pc = .ok (.ifnull off, 3)) (ht : (pc : Int) + off = (tgt : Int))
    (kt : o = none → W p l e R s m args below meth c H locs cells slots Q (F0 m tgt ls rest)) (kf : o ≠ none → W p l e R s m args below meth c H locs cells slots Q (F0 m (pc + 3) ls rest)) : W p l e R s m args below meth c H locs cells slots Q (F0 m pc ls (va_rf o :: rest)) := by
  cases o with
  | none => exact lv_ifnullN hexec hb hdg ht (kt rfl)
  | some x => exact lv_ifnull hexec hb hdg (kf (fun h => nomatch h))
theorem kq_ifnonnull (hexec : p.tables.exec = Jvm.exec) (hb : c.code = cc) {o : Option Nat} {off : Int} {tgt : Nat} (hdg : decode cc pc = .ok (.ifnonnull off, 3)) (ht : (pc : Int) + off = (tgt : Int))
    (kt : o ≠ none → W p l e R s m args below meth c H locs cells slots Q (F0 m tgt ls rest)) (kf : o = none → W p l e R s m args below meth c H locs cells slots Q (F0 m (pc + 3) ls rest)) : W p l e R s m args below meth c H locs cells slots Q (F0 m pc ls (va_rf o :: rest)) := by
  cases o with
  | none => exact lv_ifnonnullN hexec hb hdg (kf rfl)
  | some x => exact lv_ifnonnull hexec hb hdg ht (kt (fun h => nomatch h))
theorem zI_add (a b : Int) : zI a + zI b = zI (a + b) := (Int32.ofInt_add a b).symm
theorem zI_nI (n : Nat) : nI n = zI (n : Int) := rfl
theorem kz_add (hexec : p.tables.exec = Jvm.exec) (hb : c.code = cc) {x : Nat} {y : Int} (hdg : decode cc pc = .ok (.iadd, 1))
    (k : W p l e R s m args below meth c H locs cells slots Q (F0 m (pc + 1) ls (.int (zI ((x : Int) + y)) :: rest))) : W p l e R s m args below meth c H locs cells slots Q (F0 m pc ls (.int (zI y) :: .int (nI x) :: rest)) :=
  lv_iadd hexec hb hdg (by rw [zI_nI, zI_add]; exact k)
end KNUM2
theorem kn_idec {x n : Nat} (h : n ≤ x) : nI x + Int32.ofInt (-(n : Int)) = nI (x - n) := by
  rw [show Int32.ofInt (-(n : Int)) = zI (-(n : Int)) from rfl, zI_nI, zI_add, zI_nI]
  congr 1
  omega
/-- a list's words by their places -/
theorem tb_of {big ws : List Cond} (ps : List Nat) (hp : ws = ps.filterMap (fun i => big[i]?)) : ∀ w ∈ ws, w ∈ big := by
  intro w hw
  rw [hp] at hw
  obtain ⟨i, -, hi⟩ := List.mem_filterMap.mp hw
  exact List.mem_of_getElem? hi
/-- a world's known cells, in another order -/
theorem kV_part {G : kG} {X cx pl : va_W} {H : Heap} (h : kV G (X ++ pl) H) (is : List Nat) (hn : va_nd is = true) (hs : is.map (fun i => X[i]?) = cx.map some) : kV G (cx ++ pl) H := ⟨h.1.part is hs, h.2.part is hn hs⟩
end
section
/-! THE STATE, as the reference holds it: kS. Its first part holds, by the number of the reference's field, rows of counts (place 0 of a field that is no row); then the shapings, then the money -/
abbrev kS : Type := (Nat → Nat → Nat) × (Nat → Int) × (Nat → Int32)
def st (S : kS) (k i v : Nat) : kS := (va_up S.1 k (va_up (S.1 k) i v), S.2)
def stz (S : kS) (i : Nat) (v : Int) : kS := (S.1, va_up S.2.1 i v, S.2.2)
def stm (S : kS) (i : Nat) (v : Int32) : kS := (S.1, S.2.1, va_up S.2.2 i v)
theorem st_k (S : kS) (k i v : Nat) : (st S k i v).1 k = va_up (S.1 k) i v := va_up_self _ _ _
theorem st_ne (S : kS) {k j : Nat} (i v : Nat) (h : j ≠ k) : (st S k i v).1 j = S.1 j := va_up_ne _ _ h
theorem st_1 (S : kS) (k i v j a : Nat) : (st S k i v).1 j a = if j = k ∧ a = i then v else S.1 j a := by
  unfold st va_up
  by_cases h : j = k
  · subst h
    by_cases h2 : a = i <;> simp [h2]
  · simp [h]
theorem st_2 (S : kS) (k i v : Nat) : (st S k i v).2 = S.2 := rfl
theorem stz_1 (S : kS) (i : Nat) (v : Int) : (stz S i v).1 = S.1 := rfl
theorem stz_2 (S : kS) (i : Nat) (v : Int) (a : Nat) : (stz S i v).2.1 a = if a = i then v else S.2.1 a := rfl
theorem stm_1 (S : kS) (i : Nat) (v : Int32) : (stm S i v).1 = S.1 := rfl
theorem stm_z (S : kS) (i : Nat) (v : Int32) : (stm S i v).2.1 = S.2.1 := rfl
theorem stm_2 (S : kS) (i : Nat) (v : Int32) (a : Nat) : (stm S i v).2.2 a = if a = i then v else S.2.2 a := rfl
theorem stz_m (S : kS) (i : Nat) (v : Int) : (stz S i v).2.2 = S.2.2 := rfl
/-- the reference's object and its rows -/
def kM (G : kG) (h : Nat) (ad : Nat → Nat) (rf rl rw : Nat) (S : kS) : va_W := [
  (h, .inr (7, [.int (nI rf), .int (nI (S.1 1 0)), .ref (ad 2), .ref (ad 3), .ref (ad 4), .ref (ad 5), .ref (ad 6), .ref (ad 7), .ref (ad 8), .ref (ad 9), .ref (ad 10), .int (nI (S.1 11 0)), .ref (ad 12), .ref (ad 13), .ref (ad 14), .int (nI (S.1 15 0)), .ref (ad 16), .ref (ad 17), .ref (ad 18), .int (nI (S.1 19 0)), .ref (ad 20), .ref (ad 21), .ref (ad 22), .ref (ad 23), .int (nI rl), .int (nI rw)])),
  (ad 2, aN (kcI G) 16 (S.1 2)), (ad 3, aN (kcI G) 16 (S.1 3)), (ad 4, aN (kcI G) 16 (S.1 4)), (ad 5, aN (kcI G) 16 (S.1 5)),
  (ad 6, aN (kcI G) 96 (S.1 6)), (ad 7, aN (kcI G) 96 (S.1 7)), (ad 8, aZ (kcI G) 96 S.2.1), (ad 9, aN (kcI G) 96 (S.1 9)), (ad 10, aN (kcI G) 16 (S.1 10)),
  (ad 12, aN (kcZ G) 16 (S.1 12)), (ad 13, aN (kcI G) 16 (S.1 13)), (ad 14, aR (kcI G) 5 S.2.2),
  (ad 16, aN (kcI G) 20 (S.1 16)), (ad 17, aN (kcI G) 20 (S.1 17)), (ad 18, aN (kcI G) 20 (S.1 18)),
  (ad 20, aN (kcI G) 12 (S.1 20)), (ad 21, aN (kcI G) 12 (S.1 21)), (ad 22, aN (kcI G) 12 (S.1 22)), (ad 23, aN (kcI G) 12 (S.1 23))]
/-! what the chart of a pattern is -/
def sumN (f : Nat → Nat) : Nat → Nat
  | 0 => 0
  | n + 1 => sumN f n + f n
theorem sumN_0 (f : Nat → Nat) : sumN f 0 = 0 := rfl
theorem sumN_s (f : Nat → Nat) (n : Nat) : sumN f (n + 1) = sumN f n + f n := rfl
theorem sumN_cong {f g : Nat → Nat} : ∀ {n : Nat}, (∀ k, k < n → f k = g k) → sumN f n = sumN g n
  | 0, _ => rfl
  | n + 1, h => by rw [sumN_s, sumN_s, sumN_cong (fun k hk => h k (by omega)), h n (by omega)]
theorem sumN_le {f : Nat → Nat} : ∀ {a b : Nat}, a ≤ b → sumN f a ≤ sumN f b := by
  intro a b h
  induction b with
  | zero => have : a = 0 := by omega
            subst this; exact Nat.le_refl _
  | succ b ih =>
    rcases Nat.lt_or_ge a (b + 1) with q | q
    · have := ih (by omega)
      rw [sumN_s]; omega
    · have : a = b + 1 := by omega
      subst this; exact Nat.le_refl _
theorem sumN_bd {f : Nat → Nat} {c : Nat} : ∀ {n : Nat}, (∀ k, k < n → f k ≤ c) → sumN f n ≤ n * c
  | 0, _ => by simp [sumN]
  | n + 1, h => by
    have h1 := sumN_bd (n := n) (fun k hk => h k (by omega))
    have h2 := h n (by omega)
    rw [sumN_s, Nat.succ_mul]; omega
def clampW (z : Int) : Nat := if z < 1 then 1 else if 40 < z then 40 else z.toNat
theorem clampW_in (z : Int) : 1 ≤ clampW z ∧ clampW z ≤ 40 := by unfold clampW; split <;> (try split) <;> omega
/-- row by row: the line (from b on), how often it is still worked, the width -/
def goS (t : Nat → Nat) (sh : Nat → Int) (b w : Nat) : Nat → Nat × Nat × Nat
  | 0 => (b, t b, w)
  | r + 1 =>
    if (goS t sh b w r).2.1 = 1 then ((goS t sh b w r).1 + 1, t ((goS t sh b w r).1 + 1), clampW (((goS t sh b w r).2.2 : Int) + sh (goS t sh b w r).1))
    else ((goS t sh b w r).1, (goS t sh b w r).2.1 - 1, clampW (((goS t sh b w r).2.2 : Int) + sh (goS t sh b w r).1))
def pG (S : kS) (p r : Nat) : Nat × Nat × Nat := goS (S.1 9) S.2.1 (6 * p) (S.1 3 p) r
/-- the line of a row of a pattern (its place), and the row's width -/
def pL (S : kS) (p r : Nat) : Nat := (pG S p r).1
def pW (S : kS) (p r : Nat) : Nat := (pG S p r).2.2
def stV (k pu w c : Nat) : Nat := if w ≤ c then 0 else if c % (k + pu) < k then 1 else 2
def pSt (S : kS) (p r c : Nat) : Nat := stV (S.1 6 (pL S p r)) (S.1 7 (pL S p r)) (pW S p r) c
def ynV (k pu w : Nat) : Nat := sumN (fun c => if stV k pu w c = 1 then 2 else 3) w
def pYn (S : kS) (p r : Nat) : Nat := ynV (S.1 6 (pL S p r)) (S.1 7 (pL S p r)) (pW S p r)
def pRows (S : kS) (p : Nat) : Nat := sumN (fun k => S.1 9 (6 * p + k)) (S.1 5 p)
def pAlike (S : kS) (a b : Nat) : Prop := pRows S a = pRows S b ∧ ∀ r, r < pRows S a → ∀ c, c < 40 → pSt S a r c = pSt S b r c
noncomputable def pOrigN (S : kS) (p : Nat) : Nat → Nat
  | 0 => p
  | k + 1 => kif (S.1 10 k < S.1 10 (pOrigN S p k) ∧ pAlike S k p) k (pOrigN S p k)
noncomputable def pOrig (S : kS) (p : Nat) : Nat := pOrigN S p (S.1 1 0)
/-- a pattern whose lines are in order -/
def okP (S : kS) (p : Nat) : Prop := S.1 5 p ≤ 6 ∧ 1 ≤ S.1 3 p ∧ S.1 3 p ≤ 20 ∧ pRows S p ≤ 40 ∧ ∀ k, k < S.1 5 p → S.1 6 (6 * p + k) ≤ 9 ∧ S.1 7 (6 * p + k) ≤ 9 ∧ 1 ≤ S.1 6 (6 * p + k) + S.1 7 (6 * p + k) ∧ 1 ≤ S.1 9 (6 * p + k) ∧ S.1 9 (6 * p + k) ≤ 40 ∧ -3 ≤ S.2.1 (6 * p + k) ∧ S.2.1 (6 * p + k) ≤ 3
theorem goS_w {t : Nat → Nat} {sh : Nat → Int} {b w : Nat} (hw : 1 ≤ w ∧ w ≤ 40) (r : Nat) : 1 ≤ (goS t sh b w r).2.2 ∧ (goS t sh b w r).2.2 ≤ 40 := by
  cases r with
  | zero => exact hw
  | succ r => unfold goS; split <;> exact clampW_in _
/-- where a row below all rows stands: in a line, with some rows of it behind -/
theorem goS_at {t : Nat → Nat} {sh : Nat → Int} {b w : Nat} : ∀ (r n : Nat), (∀ k, k < n → 1 ≤ t (b + k)) → r < sumN (fun k => t (b + k)) n →
    ∃ i, i < n ∧ (goS t sh b w r).1 = b + i ∧ 1 ≤ (goS t sh b w r).2.1 ∧ (goS t sh b w r).2.1 ≤ t (b + i) ∧ r + (goS t sh b w r).2.1 = sumN (fun k => t (b + k)) (i + 1) := by
  intro r
  induction r with
  | zero =>
    intro n ht hr
    have hn : 0 < n := by
      rcases Nat.eq_zero_or_pos n with q | q
      · subst q; simp [sumN] at hr
      · exact q
    exact ⟨0, hn, rfl, by have := ht 0 hn; exact this, Nat.le_refl _, by simp [goS, sumN]⟩
  | succ r ih =>
    intro n ht hr
    obtain ⟨i, hi, e1, e2, e3, e4⟩ := ih n ht (by omega)
    unfold goS
    by_cases c : (goS t sh b w r).2.1 = 1
    · rw [if_pos c]
      have hi1 : i + 1 < n := by
        rcases Nat.lt_or_ge (i + 1) n with q | q
        · exact q
        · have := sumN_le (f := fun k => t (b + k)) q
          omega
      have ht1 := ht (i + 1) hi1
      refine ⟨i + 1, hi1, by dsimp only; rw [e1]; omega, ?_, ?_, ?_⟩
      · dsimp only; rw [e1, Nat.add_assoc]; exact ht1
      · dsimp only; rw [e1, Nat.add_assoc]; exact Nat.le_refl _
      · dsimp only
        rw [sumN_s, ← e4, c, e1, Nat.add_assoc b i 1]
    · rw [if_neg c]
      exact ⟨i, hi, e1, by dsimp only; omega, by dsimp only; omega, by dsimp only; omega⟩
theorem pG_at {S : kS} {p r : Nat} (h : okP S p) (hr : r < pRows S p) : ∃ i, i < S.1 5 p ∧ (pG S p r).1 = 6 * p + i ∧ 1 ≤ (pG S p r).2.1 ∧ (pG S p r).2.1 ≤ S.1 9 (6 * p + i) ∧ r + (pG S p r).2.1 = sumN (fun k => S.1 9 (6 * p + k)) (i + 1) :=
  goS_at r (S.1 5 p) (fun k hk => (h.2.2.2.2 k hk).2.2.2.1) hr
theorem pW_in {S : kS} {p : Nat} (h : okP S p) (r : Nat) : 1 ≤ pW S p r ∧ pW S p r ≤ 40 := goS_w ⟨h.2.1, Nat.le_trans h.2.2.1 (by decide)⟩ r
theorem pL_at {S : kS} {p r : Nat} (h : okP S p) (hr : r < pRows S p) : ∃ i, i < S.1 5 p ∧ pL S p r = 6 * p + i := by
  obtain ⟨i, h1, h2, -⟩ := pG_at h hr
  exact ⟨i, h1, h2⟩
end
section
/-! WHAT EACH CALL IS, on the state: which exception (0: none), the answer, the state then -/
def isIn (x : Int32) (n : Nat) : Prop := ∃ j : Nat, j < n ∧ x = nI j
abbrev inI (x lo hi : Int32) : Prop := lo ≤ x ∧ x ≤ hi
def tn (x : Int32) : Nat := x.toNatClampNeg
def tz (x : Int32) : Int := x.toInt
theorem tn_nI {j : Nat} (h : j < 2 ^ 31) : tn (nI j) = j := nI_clamp h
abbrev kR : Type := Nat × Int32 × kS
def addS (S : kS) (o w c : Nat) : kS := st (st (st (st (st S 2 (S.1 1 0) o) 3 (S.1 1 0) w) 4 (S.1 1 0) c) 10 (S.1 1 0) 99) 1 0 (S.1 1 0 + 1)
def putS (S : kS) (p k u : Nat) (z : Int) (t : Nat) : kS := st (st (stz (st (st S 6 (6 * p + S.1 5 p) k) 7 (6 * p + S.1 5 p) u) (6 * p + S.1 5 p) z) 9 (6 * p + S.1 5 p) t) 5 p (S.1 5 p + 1)
noncomputable def opBegin (S : kS) (o w c : Int32) : kR :=
  kif (¬ isIn o 5) (1, 0, S) (kif (¬ (inI w (nI 1) (nI 20) ∧ inI c (nI 0) (nI 1000))) (2, 0, S) (kif (S.1 1 0 = 16) (3, 0, S) (0, nI (S.1 1 0), addS S (tn o) (tn w) (tn c))))
def lineArgs (k u z t : Int32) : Prop := inI k (nI 0) (nI 9) ∧ inI u (nI 0) (nI 9) ∧ 1 ≤ tn k + tn u ∧ inI z (-3) (nI 3) ∧ inI t (nI 1) (nI 20)
def lineCan (S : kS) (p t : Nat) : Prop := S.1 10 p = 99 ∧ S.1 5 p < 6 ∧ pRows S p + t ≤ 40
noncomputable def opLine (S : kS) (p k u z t : Int32) : kR :=
  kif (¬ isIn p (S.1 1 0)) (1, 0, S) (kif (¬ lineArgs k u z t) (2, 0, S) (kif (¬ lineCan S (tn p) (tn t)) (3, 0, S)
    (0, nI (pRows (putS S (tn p) (tn k) (tn u) (tz z) (tn t)) (tn p)), putS S (tn p) (tn k) (tn u) (tz z) (tn t))))
def oftN (t g : Nat) : Nat := if t * g / 10 < 1 then 1 else t * g / 10
def clampF (w : Nat) : Nat := if w < 1 then 1 else if 20 < w then 20 else w
def anewRows (S : kS) (p g : Nat) : Nat := sumN (fun k => oftN (S.1 9 (6 * p + k)) g) (S.1 5 p)
def anewN (S : kS) (p g : Nat) : Nat → kS
  | 0 => addS S (S.1 2 p) (clampF (S.1 3 p * g / 10)) (S.1 4 p)
  | k + 1 => putS (anewN S p g k) (S.1 1 0) (S.1 6 (6 * p + k)) (S.1 7 (6 * p + k)) (S.2.1 (6 * p + k)) (oftN (S.1 9 (6 * p + k)) g)
def anewCan (S : kS) (p g : Nat) : Prop := 0 < anewRows S p g ∧ anewRows S p g ≤ 40 ∧ S.1 1 0 < 16
noncomputable def opAnew (S : kS) (p g : Int32) : kR :=
  kif (¬ isIn p (S.1 1 0)) (1, 0, S) (kif (¬ inI g (nI 5) (nI 20)) (2, 0, S) (kif (¬ anewCan S (tn p) (tn g)) (3, 0, S) (0, nI (S.1 1 0), anewN S (tn p) (tn g) (S.1 5 (tn p)))))
def pubS (S : kS) (p : Nat) : kS := st (st S 10 p (S.1 11 0)) 11 0 (S.1 11 0 + 1)
noncomputable def opPublish (S : kS) (p : Int32) : kR :=
  kif (¬ isIn p (S.1 1 0)) (1, 0, S) (kif (¬ (S.1 10 (tn p) = 99 ∧ 0 < S.1 5 (tn p))) (2, 0, S) (0, nI (pOrig (pubS S (tn p)) (tn p)), pubS S (tn p)))
noncomputable def opOriginal (S : kS) (p : Int32) : kR := kif (¬ isIn p (S.1 1 0)) (1, 0, S) (0, kif (S.1 10 (tn p) ≠ 99) (nI (pOrig S (tn p))) (-1), S)
noncomputable def opRows (S : kS) (p : Int32) : kR := kif (¬ isIn p (S.1 1 0)) (1, 0, S) (0, nI (pRows S (tn p)), S)
noncomputable def opStitch (S : kS) (p r c : Int32) : kR := kif (¬ (isIn p (S.1 1 0) ∧ isIn r (pRows S (tn p)) ∧ 0 ≤ c)) (1, 0, S) (0, nI (pSt S (tn p) (tn r) (tn c)), S)
noncomputable def opNeed (S : kS) (p g : Int32) : kR :=
  kif (¬ isIn p (S.1 1 0)) (1, 0, S) (kif (¬ inI g (nI 5) (nI 20)) (2, 0, S) (0, nI (sumN (fun r => tn g * pYn S (tn p) r) (pRows S (tn p))), S))
def bought (S : kS) (p j : Nat) : Prop := (S.1 13 p).testBit j = true
def buyS (S : kS) (p j : Nat) : kS :=
  stm (stm (st S 13 p (S.1 13 p ||| 2 ^ j)) j (S.2.2 j - nI (S.1 4 p))) (S.1 2 p) ((stm (st S 13 p (S.1 13 p ||| 2 ^ j)) j (S.2.2 j - nI (S.1 4 p))).2.2 (S.1 2 p) + nI (S.1 4 p))
def buyCan (S : kS) (p j : Nat) : Prop := S.1 10 p ≠ 99 ∧ S.1 12 p = 0 ∧ S.1 2 p ≠ j ∧ ¬ bought S p j
noncomputable def opBuy (S : kS) (p j : Int32) : kR :=
  kif (¬ (isIn p (S.1 1 0) ∧ isIn j 5)) (1, 0, S) (kif (¬ buyCan S (tn p) (tn j)) (2, 0, S) (0, (buyS S (tn p) (tn j)).2.2 (S.1 2 (tn p)), buyS S (tn p) (tn j)))
noncomputable def took (S : kS) (p : Nat) : Nat := sumN (fun j => kif (bought S p j) (S.1 4 p) 0) 5
noncomputable def ruleS (S : kS) (p : Nat) : kS :=
  stm (stm (st S 12 p 1) (S.1 2 p) (S.2.2 (S.1 2 p) - nI (took S p))) (S.1 2 (pOrig S p)) ((stm (st S 12 p 1) (S.1 2 p) (S.2.2 (S.1 2 p) - nI (took S p))).2.2 (S.1 2 (pOrig S p)) + nI (took S p))
def ruleCan (S : kS) (p : Nat) : Prop := S.1 10 p ≠ 99 ∧ S.1 12 p = 0 ∧ S.1 2 (pOrig S p) ≠ S.1 2 p
noncomputable def opRule (S : kS) (p : Int32) : kR :=
  kif (¬ isIn p (S.1 1 0)) (1, 0, S) (kif (¬ ruleCan S (tn p)) (2, 0, S) (0, nI (took S (tn p)), ruleS S (tn p)))
noncomputable def opMoney (S : kS) (x : Int32) : kR := kif (¬ isIn x 5) (1, 0, S) (0, S.2.2 (tn x), S)
def lotS (S : kS) (x g y : Nat) : kS := st (st (st (st S 16 (S.1 15 0) x) 17 (S.1 15 0) g) 18 (S.1 15 0) y) 15 0 (S.1 15 0 + 1)
noncomputable def opLot (S : kS) (x g y : Int32) : kR :=
  kif (¬ isIn x 5) (1, 0, S) (kif (¬ (inI g (nI 5) (nI 20) ∧ inI y (nI 1) (nI 100000))) (2, 0, S) (kif (S.1 15 0 = 20) (3, 0, S) (0, nI (S.1 15 0), lotS S (tn x) (tn g) (tn y))))
def swapS (S : kS) (a b : Nat) : kS := st (st S 16 a (S.1 16 b)) 16 b (S.1 16 a)
noncomputable def opSwap (S : kS) (a b : Int32) : kR :=
  kif (¬ (isIn a (S.1 15 0) ∧ isIn b (S.1 15 0))) (1, 0, S) (kif (S.1 16 (tn a) = S.1 16 (tn b)) (2, 0, S) (0, nI (S.1 16 (tn b)), swapS S (tn a) (tn b)))
noncomputable def opLeft (S : kS) (a : Int32) : kR := kif (¬ isIn a (S.1 15 0)) (1, 0, S) (0, nI (S.1 18 (tn a)), S)
def projS (S : kS) (x p a : Nat) : kS := st (st (st (st S 20 (S.1 19 0) x) 21 (S.1 19 0) p) 22 (S.1 19 0) a) 19 0 (S.1 19 0 + 1)
def projCan (S : kS) (x p a : Nat) : Prop := S.1 10 p ≠ 99 ∧ (S.1 2 p = x ∨ bought S p x) ∧ S.1 16 a = x ∧ S.1 19 0 < 12
noncomputable def opProject (S : kS) (x p a : Int32) : kR :=
  kif (¬ (isIn x 5 ∧ isIn p (S.1 1 0) ∧ isIn a (S.1 15 0))) (1, 0, S) (kif (¬ projCan S (tn x) (tn p) (tn a)) (2, 0, S) (0, nI (S.1 19 0), projS S (tn x) (tn p) (tn a)))
noncomputable def opTake (S : kS) (j a : Int32) : kR :=
  kif (¬ (isIn j (S.1 19 0) ∧ isIn a (S.1 15 0))) (1, 0, S) (kif (¬ S.1 16 (tn a) = S.1 20 (tn j)) (2, 0, S) (0, nI (S.1 22 (tn j)), st S 22 (tn j) (tn a)))
def rowNd (S : kS) (j : Nat) : Nat := S.1 17 (S.1 22 j) * pYn S (S.1 21 j) (S.1 23 j)
def knitCan (S : kS) (j : Nat) : Prop := S.1 16 (S.1 22 j) = S.1 20 j ∧ S.1 23 j ≠ pRows S (S.1 21 j) ∧ rowNd S j ≤ S.1 18 (S.1 22 j)
def knit1 (S : kS) (j : Nat) : kS := st (st S 18 (S.1 22 j) (S.1 18 (S.1 22 j) - rowNd S j)) 23 j (S.1 23 j + 1)
noncomputable def knitN : kS → Nat → Nat → Nat × kS
  | S, _, 0 => (0, S)
  | S, j, n + 1 => kif (knitCan S j) ((knitN (knit1 S j) j n).1 + 1, (knitN (knit1 S j) j n).2) (0, S)
noncomputable def opKnit (S : kS) (j n : Int32) : kR :=
  kif (¬ isIn j (S.1 19 0)) (1, 0, S) (kif (¬ inI n (nI 1) (nI 40)) (2, 0, S) (0, nI (knitN S (tn j) (tn n)).1, (knitN S (tn j) (tn n)).2))
noncomputable def opProgress (S : kS) (j : Int32) : kR := kif (¬ isIn j (S.1 19 0)) (1, 0, S) (0, nI (S.1 23 (tn j)), S)
/-- the bounds that the state keeps -/
def kInv (S : kS) : Prop :=
  (S.1 1 0 ≤ 16 ∧ S.1 15 0 ≤ 20 ∧ S.1 19 0 ≤ 12 ∧ S.1 11 0 ≤ 16) ∧
  (∀ p, p < S.1 1 0 → okP S p ∧ S.1 2 p < 5 ∧ S.1 4 p ≤ 1000 ∧ (S.1 10 p = 99 ∨ S.1 10 p < S.1 11 0) ∧ (S.1 10 p ≠ 99 → 0 < S.1 5 p) ∧ S.1 13 p < 32 ∧ S.1 12 p ≤ 1) ∧
  (∀ p, S.1 1 0 ≤ p → p < 16 → S.1 5 p = 0 ∧ S.1 13 p = 0 ∧ S.1 12 p = 0) ∧
  (∀ a, a < S.1 15 0 → S.1 16 a < 5 ∧ 5 ≤ S.1 17 a ∧ S.1 17 a ≤ 20 ∧ S.1 18 a ≤ 100000) ∧
  (∀ j, j < S.1 19 0 → S.1 20 j < 5 ∧ S.1 21 j < S.1 1 0 ∧ S.1 10 (S.1 21 j) ≠ 99 ∧ S.1 22 j < S.1 15 0 ∧ S.1 23 j ≤ pRows S (S.1 21 j)) ∧
  (∀ j, S.1 19 0 ≤ j → j < 12 → S.1 23 j = 0) ∧
  (∀ p q, p < S.1 1 0 → q < S.1 1 0 → S.1 10 p = S.1 10 q → S.1 10 p ≠ 99 → p = q) ∧
  (∀ o, o < S.1 11 0 → ∃ p, p < S.1 1 0 ∧ S.1 10 p = o)
/-! order of ints -/
theorem i_lt (a b : Int32) : a < b ↔ a.toInt < b.toInt := Int32.lt_iff_toInt_lt
theorem i_le (a b : Int32) : a ≤ b ↔ a.toInt ≤ b.toInt := Int32.le_iff_toInt_le
theorem i_nlt {a b : Int32} (h : ¬ a < b) : b ≤ a := by rw [i_lt] at h; rw [i_le]; omega
theorem i_nle {a b : Int32} (h : ¬ a ≤ b) : b < a := by rw [i_le] at h; rw [i_lt]; omega
theorem i_lt_nle {a b : Int32} (h : a < b) : ¬ b ≤ a := by rw [i_lt] at h; rw [i_le]; omega
theorem i_nI {n : Nat} (h : n < 2 ^ 31) : (nI n).toInt = (n : Int) := nI_toInt h
theorem rng_nI {x : Int32} {a b : Nat} (h : inI x (nI a) (nI b)) (hb : b < 2 ^ 31) (ha : a < 2 ^ 31) : ∃ j : Nat, a ≤ j ∧ j ≤ b ∧ x = nI j := by
  obtain ⟨h1, h2⟩ := h
  rw [i_le, i_nI ha] at h1
  rw [i_le, i_nI hb] at h2
  refine ⟨x.toInt.toNat, by omega, by omega, ?_⟩
  apply Int32.toInt.inj
  rw [i_nI (by omega)]
  omega
theorem nI_rng {j a b : Nat} (h1 : a ≤ j) (h2 : j ≤ b) (hb : b < 2 ^ 31) : inI (nI j) (nI a) (nI b) := ⟨(nI_leI (by omega) (by omega)).mpr h1, (nI_leI (by omega) hb).mpr h2⟩
theorem isIn_iff {x : Int32} {n : Nat} (hn : n < 2 ^ 31) : (nI 0 ≤ x ∧ x ≤ nI n - nI 1) ↔ isIn x n := by
  have e0 : (nI 0).toInt = 0 := i_nI (by decide)
  have en : (nI n - nI 1).toInt = (n : Int) - 1 := by
    rw [show nI n - nI 1 = zI ((n : Int) - 1) from by
      rw [zI_nI, zI_nI]; exact (Int32.ofInt_sub _ _).symm]
    exact Int32.toInt_ofInt_of_le (by omega) (by omega)
  constructor
  · rintro ⟨h1, h2⟩
    rw [i_le, e0] at h1
    rw [i_le, en] at h2
    refine ⟨x.toInt.toNat, by omega, ?_⟩
    apply Int32.toInt.inj
    rw [i_nI (by omega)]
    omega
  · rintro ⟨j, hj, rfl⟩
    rw [i_le, i_le, e0, en, i_nI (by omega)]
    omega
theorem isIn_5 {x : Int32} : (nI 0 ≤ x ∧ x ≤ nI 4) ↔ isIn x 5 := by
  have h := isIn_iff (x := x) (n := 5) (by decide)
  rw [show nI 5 - nI 1 = nI 4 from by decide] at h
  exact h
theorem isIn_nI {j n : Nat} (h : j < n) : isIn (nI j) n := ⟨j, h, rfl⟩
theorem isIn_nat {j n : Nat} (hj : j < 2 ^ 31) (hn : n < 2 ^ 31) (h : isIn (nI j) n) : j < n := by
  obtain ⟨k, hk, e⟩ := h
  have := (nI_eq hj (by omega)).mp e
  omega
theorem z_rng {x : Int32} (h : inI x (-3) (nI 3)) : ∃ z : Int, -3 ≤ z ∧ z ≤ 3 ∧ x = zI z := by
  obtain ⟨h1, h2⟩ := h
  rw [i_le, show ((-3 : Int32)).toInt = -3 from by decide] at h1
  rw [i_le, i_nI (by decide)] at h2
  refine ⟨x.toInt, h1, by omega, ?_⟩
  exact (Int32.ofInt_toInt x).symm
theorem tz_zI {z : Int} (h1 : -3 ≤ z) (h2 : z ≤ 3) : tz (zI z) = z := Int32.toInt_ofInt_of_le (by omega) (by omega)
theorem kz_cmp {z : Int} {n : Nat} (h1 : -1000 ≤ z) (h2 : z ≤ 1000) (hn : n ≤ 1000) : ((zI z < nI n) ↔ z < n) ∧ ((zI z ≤ nI n) ↔ z ≤ n) ∧ ((nI n < zI z) ↔ (n : Int) < z) ∧ ((nI n ≤ zI z) ↔ (n : Int) ≤ z) := by
  have e1 : (zI z).toInt = z := Int32.toInt_ofInt_of_le (by omega) (by omega)
  have e2 : (nI n).toInt = (n : Int) := i_nI (by omega)
  refine ⟨?_, ?_, ?_, ?_⟩ <;> simp only [i_lt, i_le, e1, e2]
end
section
section KZ
variable {p : Program} {l : Launch} {e : Env} {R : Room} {s : State} {m : MethodId} {args : Array Value} {below : List Frame} {meth : Method} {c : Code} {H : Heap} {locs : List Loc} {cells slots : Nat} {Q : State → Prop}
variable {cc : ByteArray} {pc : Nat} {ls : Array Slot} {rest : List Value}
theorem kz_ge (hexec : p.tables.exec = Jvm.exec) (hb : c.code = cc) {z : Int} {n : Nat} {off : Int} {tgt : Nat} (hz : -1000 ≤ z ∧ z ≤ 1000) (hn : n ≤ 1000) (hdg : decode cc pc = .ok (.if_icmp .ge off, 3)) (ht : (pc : Int) + off = (tgt : Int))
    (kt : (n : Int) ≤ z → W p l e R s m args below meth c H locs cells slots Q (F0 m tgt ls rest)) (kf : z < n → W p l e R s m args below meth c H locs cells slots Q (F0 m (pc + 3) ls rest)) : W p l e R s m args below meth c H locs cells slots Q (F0 m pc ls (.int (nI n) :: .int (zI z) :: rest)) :=
  lv_icmp_ge hexec hb hdg ht (fun h => kt ((kz_cmp hz.1 hz.2 hn).2.2.2.mp h)) (fun h => kf (by have := mt (kz_cmp hz.1 hz.2 hn).2.2.2.mpr h; omega))
theorem kz_le (hexec : p.tables.exec = Jvm.exec) (hb : c.code = cc) {z : Int} {n : Nat} {off : Int} {tgt : Nat} (hz : -1000 ≤ z ∧ z ≤ 1000) (hn : n ≤ 1000) (hdg : decode cc pc = .ok (.if_icmp .le off, 3)) (ht : (pc : Int) + off = (tgt : Int))
    (kt : z ≤ n → W p l e R s m args below meth c H locs cells slots Q (F0 m tgt ls rest)) (kf : (n : Int) < z → W p l e R s m args below meth c H locs cells slots Q (F0 m (pc + 3) ls rest)) : W p l e R s m args below meth c H locs cells slots Q (F0 m pc ls (.int (nI n) :: .int (zI z) :: rest)) :=
  lv_icmp_le hexec hb hdg ht (fun h => kt ((kz_cmp hz.1 hz.2 hn).2.1.mp h)) (fun h => kf (by have := mt (kz_cmp hz.1 hz.2 hn).2.1.mpr h; omega))
end KZ
theorem clW_lo {z : Int} (h : z < 1) : clampW z = 1 := if_pos h
theorem clW_hi {z : Int} (h1 : 1 ≤ z) (h : 40 < z) : clampW z = 40 := by unfold clampW; rw [if_neg (by omega), if_pos h]
theorem clW_mid {z : Int} (h1 : 1 ≤ z) (h : z ≤ 40) : nI (clampW z) = zI z := by
  unfold clampW; rw [if_neg (by omega), if_neg (by omega), zI_nI]; congr 1; omega
theorem pG_s1 {S : kS} {p i : Nat} (h : (pG S p i).2.1 = 1) : pG S p (i + 1) = ((pG S p i).1 + 1, S.1 9 ((pG S p i).1 + 1), clampW (((pG S p i).2.2 : Int) + S.2.1 (pG S p i).1)) := if_pos h
theorem pG_s0 {S : kS} {p i : Nat} (h : (pG S p i).2.1 ≠ 1) : pG S p (i + 1) = ((pG S p i).1, (pG S p i).2.1 - 1, clampW (((pG S p i).2.2 : Int) + S.2.1 (pG S p i).1)) := if_neg h
theorem pL_s1 {S : kS} {p i : Nat} (h : (pG S p i).2.1 = 1) : pL S p (i + 1) = pL S p i + 1 := by
  unfold pL; rw [pG_s1 h]
theorem pL_s0 {S : kS} {p i : Nat} (h : (pG S p i).2.1 ≠ 1) : pL S p (i + 1) = pL S p i := by
  unfold pL; rw [pG_s0 h]
theorem pl_s1 {S : kS} {p i : Nat} (h : (pG S p i).2.1 = 1) : (pG S p (i + 1)).2.1 = S.1 9 (pL S p i + 1) := by
  unfold pL; rw [pG_s1 h]
theorem pl_s0 {S : kS} {p i : Nat} (h : (pG S p i).2.1 ≠ 1) : (pG S p (i + 1)).2.1 = (pG S p i).2.1 - 1 := by
  rw [pG_s0 h]
theorem pW_s {S : kS} {p i : Nat} : pW S p (i + 1) = clampW ((pW S p i : Int) + S.2.1 (pL S p i)) := by
  unfold pW pL
  by_cases h : (pG S p i).2.1 = 1
  · rw [pG_s1 h]
  · rw [pG_s0 h]
/-- as far as row i, place j, two charts are alike -/
def pAl (S : kS) (a b i j : Nat) : Prop := pRows S a = pRows S b ∧ (∀ r, r < i → ∀ c, c < 40 → pSt S a r c = pSt S b r c) ∧ ∀ c, c < j → pSt S a i c = pSt S b i c
theorem pAl_0 {S : kS} {a b : Nat} : pAl S a b 0 0 ↔ pRows S a = pRows S b := ⟨fun h => h.1, fun h => ⟨h, fun _ h => absurd h (Nat.not_lt_zero _), fun _ h => absurd h (Nat.not_lt_zero _)⟩⟩
theorem pAl_row {S : kS} {a b i : Nat} : pAl S a b (i + 1) 0 ↔ pAl S a b i 40 :=
  ⟨fun h => ⟨h.1, fun r hr => h.2.1 r (by omega), fun c hc => h.2.1 i (by omega) c hc⟩, fun h => ⟨h.1, fun r hr c hc => by
    rcases Nat.lt_or_ge r i with q | q
    · exact h.2.1 r q c hc
    · have : r = i := by omega
      subst this; exact h.2.2 c hc, fun _ h => absurd h (Nat.not_lt_zero _)⟩⟩
theorem pAl_le {S : kS} {a b i j k : Nat} (hk : j ≤ k) (h : pAl S a b i k) : pAl S a b i j := ⟨h.1, h.2.1, fun c hc => h.2.2 c (by omega)⟩
theorem pAl_s {S : kS} {a b i j : Nat} (h : pAl S a b i j) : pAl S a b i (j + 1) ↔ pSt S a i j = pSt S b i j :=
  ⟨fun q => q.2.2 j (by omega), fun q => ⟨h.1, h.2.1, fun c hc => by
    rcases Nat.lt_or_ge c j with t | t
    · exact h.2.2 c t
    · have : c = j := by omega
      subst this; exact q⟩⟩
theorem pAl_end {S : kS} {a b : Nat} : pAl S a b (pRows S a) 0 ↔ pAlike S a b := ⟨fun h => ⟨h.1, h.2.1⟩, fun h => ⟨h.1, h.2, fun _ h => absurd h (Nat.not_lt_zero _)⟩⟩
theorem pAl_of {S : kS} {a b i : Nat} (hi : i ≤ pRows S a) (h : pAlike S a b) : pAl S a b i 0 := ⟨h.1, fun r hr => h.2 r (by omega), fun _ h => absurd h (Nat.not_lt_zero _)⟩
theorem pOrigN_lt {S : kS} {p n : Nat} (hp : p < n) : ∀ k, k ≤ n → pOrigN S p k < n := by
  intro k
  induction k with
  | zero => intro _; exact hp
  | succ k ih =>
    intro hk
    unfold pOrigN
    by_cases c : S.1 10 k < S.1 10 (pOrigN S p k) ∧ pAlike S k p
    · rw [kif_t c]; omega
    · rw [kif_f c]; exact ih (by omega)
theorem pYn_sum (S : kS) (p r : Nat) : pYn S p r = sumN (fun c => if pSt S p r c = 1 then 2 else 3) (pW S p r) := rfl
theorem kV_eq {G : kG} {ws : va_W} {t : State} {H : Heap} (h : t.heap = H) (hV : kV G ws H) : kV G ws t.heap := by rw [h]; exact hV
end
section
theorem kb_sl : ∀ j, j < 32 → ((nI j &&& 31).toBitVec.smod 32).toNat = j := by decide
theorem nI_or (a b : Nat) : nI a ||| nI b = nI (a ||| b) := by
  apply Int32.toBitVec.inj
  show (nI a).toBitVec ||| (nI b).toBitVec = (nI (a ||| b)).toBitVec
  apply BitVec.eq_of_toNat_eq
  simp [nI, BitVec.toNat_or, Nat.or_mod_two_pow]
section KBIT
variable {p : Program} {l : Launch} {e : Env} {R : Room} {s : State} {m : MethodId} {args : Array Value} {below : List Frame} {meth : Method} {c : Code} {H : Heap} {locs : List Loc} {cells slots : Nat} {Q : State → Prop}
variable {cc : ByteArray} {pc : Nat} {ls : Array Slot} {rest : List Value}
theorem kn_ishr (hexec : p.tables.exec = Jvm.exec) (hb : c.code = cc) {x y : Nat} (hx : x < 2 ^ 31) (hy : y < 32) (hdg : decode cc pc = .ok (.ishr, 1))
    (k : W p l e R s m args below meth c H locs cells slots Q (F0 m (pc + 1) ls (.int (nI (x / 2 ^ y)) :: rest))) : W p l e R s m args below meth c H locs cells slots Q (F0 m pc ls (.int (nI y) :: .int (nI x) :: rest)) :=
  lv_ishr hexec hb hdg (by rw [pk_shrN hx _ y (kb_sl y hy)]; exact k)
theorem kn_iand1 (hexec : p.tables.exec = Jvm.exec) (hb : c.code = cc) {x : Nat} (hx : x < 2 ^ 32) (hdg : decode cc pc = .ok (.iand, 1))
    (k : W p l e R s m args below meth c H locs cells slots Q (F0 m (pc + 1) ls (.int (nI (x % 2)) :: rest))) : W p l e R s m args below meth c H locs cells slots Q (F0 m pc ls (.int (nI 1) :: .int (nI x) :: rest)) :=
  lv_iand hexec hb hdg (by rw [pk_andN hx (m := nI 1) 1 (by decide)]; exact k)
theorem kn_ishl1 (hexec : p.tables.exec = Jvm.exec) (hb : c.code = cc) {y : Nat} (hy : y < 32) (hdg : decode cc pc = .ok (.ishl, 1))
    (k : W p l e R s m args below meth c H locs cells slots Q (F0 m (pc + 1) ls (.int (nI (2 ^ y)) :: rest))) : W p l e R s m args below meth c H locs cells slots Q (F0 m pc ls (.int (nI y) :: .int (nI 1) :: rest)) :=
  lv_ishl hexec hb hdg (by
    rw [pk_shlN (n := 1) _ y (kb_sl y hy) (by rw [Nat.one_mul]; exact Nat.pow_lt_pow_right (by decide) hy), Nat.one_mul]; exact k)
theorem kn_ior (hexec : p.tables.exec = Jvm.exec) (hb : c.code = cc) {x y : Nat} (hdg : decode cc pc = .ok (.ior, 1))
    (k : W p l e R s m args below meth c H locs cells slots Q (F0 m (pc + 1) ls (.int (nI (x ||| y)) :: rest))) : W p l e R s m args below meth c H locs cells slots Q (F0 m pc ls (.int (nI y) :: .int (nI x) :: rest)) :=
  lv_ior hexec hb hdg (by rw [nI_or]; exact k)
end KBIT
theorem bought_iff {S : kS} {p j : Nat} : bought S p j ↔ S.1 13 p / 2 ^ j % 2 = 1 := by
  unfold bought; rw [Nat.testBit_eq_decide_div_mod_eq]; simp
theorem stV_le (k u w c : Nat) : stV k u w c ≤ 2 := by unfold stV; split <;> (try split) <;> decide
theorem pSt_le (S : kS) (p r c : Nat) : pSt S p r c ≤ 2 := stV_le _ _ _ _
theorem putS_5 (S : kS) (p k u : Nat) (z : Int) (t : Nat) : (putS S p k u z t).1 5 p = S.1 5 p + 1 := by simp only [putS, st_1, and_self, if_true]
end
section
/-! what later states have of earlier ones; the bounds stay -/
theorem st_same (S : kS) (k i : Nat) : st S k i (S.1 k i) = S := by
  have h : (st S k i (S.1 k i)).1 = S.1 := by
    funext a b
    rw [st_1]
    by_cases c : a = k ∧ b = i
    · rw [if_pos c, c.1, c.2]
    · rw [if_neg c]
  exact Prod.ext h rfl
/-- the same patterns, as far as charts and the original go -/
def sameC (S T : kS) : Prop := T.1 1 = S.1 1 ∧ T.1 3 = S.1 3 ∧ T.1 5 = S.1 5 ∧ T.1 6 = S.1 6 ∧ T.1 7 = S.1 7 ∧ T.1 9 = S.1 9 ∧ T.1 10 = S.1 10 ∧ T.2.1 = S.2.1
theorem sameC_rows {S T : kS} (h : sameC S T) (p : Nat) : pRows T p = pRows S p := by
  obtain ⟨-, -, h5, -, -, h9, -, -⟩ := h
  unfold pRows; rw [h5, h9]
theorem sameC_G {S T : kS} (h : sameC S T) (p r : Nat) : pG T p r = pG S p r := by
  obtain ⟨-, h3, -, -, -, h9, -, hz⟩ := h
  unfold pG; rw [h3, h9, hz]
theorem sameC_St {S T : kS} (h : sameC S T) (p r c : Nat) : pSt T p r c = pSt S p r c := by
  have e := sameC_G h p r
  obtain ⟨-, -, -, h6, h7, -, -, -⟩ := h
  unfold pSt pL pW; rw [e, h6, h7]
theorem sameC_Yn {S T : kS} (h : sameC S T) (p r : Nat) : pYn T p r = pYn S p r := by
  have e := sameC_G h p r
  obtain ⟨-, -, -, h6, h7, -, -, -⟩ := h
  unfold pYn pL pW; rw [e, h6, h7]
theorem sameC_Al {S T : kS} (h : sameC S T) (a b : Nat) : pAlike T a b = pAlike S a b := by
  unfold pAlike
  simp only [sameC_rows h, sameC_St h]
theorem sameC_OrN {S T : kS} (h : sameC S T) (p n : Nat) : pOrigN T p n = pOrigN S p n := by
  induction n with
  | zero => rfl
  | succ n ih =>
    show kif (T.1 10 n < T.1 10 (pOrigN T p n) ∧ pAlike T n p) n (pOrigN T p n) = kif (S.1 10 n < S.1 10 (pOrigN S p n) ∧ pAlike S n p) n (pOrigN S p n)
    rw [ih, sameC_Al h, h.2.2.2.2.2.2.1]
theorem sameC_Or {S T : kS} (h : sameC S T) (p : Nat) : pOrig T p = pOrig S p := by
  unfold pOrig; rw [sameC_OrN h, h.1]
theorem sameC_ok {S T : kS} (h : sameC S T) (p : Nat) : okP T p ↔ okP S p := by
  have e := sameC_rows h p
  obtain ⟨-, h3, h5, h6, h7, h9, -, hz⟩ := h
  unfold okP; rw [e, h3, h5, h6, h7, h9, hz]
theorem kInv_knit1 {S : kS} {j : Nat} (h : kInv S) (hj : j < S.1 19 0) (hc : knitCan S j) : kInv (knit1 S j) := by
  obtain ⟨h1, h2, h3, h4, h5, h6, h7⟩ := h
  obtain ⟨c1, c2, c3⟩ := hc
  have hj5 := h5 j hj
  refine ⟨h1, h2, h3, ?_, ?_, ?_, h7⟩
  · intro a ha
    have q := h4 a ha
    have e : (knit1 S j).1 18 a = if a = S.1 22 j then S.1 18 (S.1 22 j) - rowNd S j else S.1 18 a := by simp [knit1, st_1]
    refine ⟨q.1, q.2.1, q.2.2.1, ?_⟩
    rw [e]
    have q2 := (h4 (S.1 22 j) hj5.2.2.2.1).2.2.2
    split
    · omega
    · exact q.2.2.2
  · intro i hi
    have q := h5 i hi
    have e : (knit1 S j).1 23 i = if i = j then S.1 23 j + 1 else S.1 23 i := by simp [knit1, st_1]
    refine ⟨q.1, q.2.1, q.2.2.1, q.2.2.2.1, ?_⟩
    show (knit1 S j).1 23 i ≤ pRows S (S.1 21 i)
    rw [e]
    split
    · next z => subst z; have := q.2.2.2.2; omega
    · exact q.2.2.2.2
  · intro i hi h12
    have hi : S.1 19 0 ≤ i := hi
    have e : (knit1 S j).1 23 i = if i = j then S.1 23 j + 1 else S.1 23 i := by simp [knit1, st_1]
    rw [e, if_neg (by omega)]
    exact h6 i hi h12
theorem pRows_0 {S : kS} {p : Nat} (h : S.1 5 p = 0) : pRows S p = 0 := by unfold pRows; rw [h]; rfl
theorem kInv_addS {S : kS} {o w c : Nat} (h : kInv S) (hn : S.1 1 0 < 16) (ho : o < 5) (hw : 1 ≤ w ∧ w ≤ 20) (hc : c ≤ 1000) : kInv (addS S o w c) := by
  obtain ⟨h1, h2, h3, h4, h5, h6, h7⟩ := h
  have en : (addS S o w c).1 1 0 = S.1 1 0 + 1 := by simp [addS, st_1]
  have e2 : ∀ p, (addS S o w c).1 2 p = if p = S.1 1 0 then o else S.1 2 p := fun p => by simp [addS, st_1]
  have e3 : ∀ p, (addS S o w c).1 3 p = if p = S.1 1 0 then w else S.1 3 p := fun p => by simp [addS, st_1]
  have e4 : ∀ p, (addS S o w c).1 4 p = if p = S.1 1 0 then c else S.1 4 p := fun p => by simp [addS, st_1]
  have e10 : ∀ p, (addS S o w c).1 10 p = if p = S.1 1 0 then 99 else S.1 10 p := fun p => by simp [addS, st_1]
  have q0 := h3 (S.1 1 0) (Nat.le_refl _) hn
  refine ⟨⟨by rw [en]; omega, h1.2.1, h1.2.2.1, h1.2.2.2⟩, ?_, ?_, h4, ?_, h6, ?_, ?_⟩
  · intro p hp
    rw [en] at hp
    by_cases c0 : p = S.1 1 0
    · subst c0
      have r0 : pRows (addS S o w c) (S.1 1 0) = 0 := pRows_0 q0.1
      refine ⟨⟨by rw [show (addS S o w c).1 5 (S.1 1 0) = 0 from q0.1]; omega, by rw [e3, if_pos rfl]; exact hw.1, by rw [e3, if_pos rfl]; exact hw.2, by rw [r0]; omega, ?_⟩, by rw [e2, if_pos rfl]; exact ho, by rw [e4, if_pos rfl]; exact hc, Or.inl (by rw [e10, if_pos rfl]), fun z => absurd (by rw [e10, if_pos rfl]) z, ?_, ?_⟩
      · intro k hk
        rw [show (addS S o w c).1 5 (S.1 1 0) = 0 from q0.1] at hk
        omega
      · rw [show (addS S o w c).1 13 (S.1 1 0) = 0 from q0.2.1]; omega
      · rw [show (addS S o w c).1 12 (S.1 1 0) = 0 from q0.2.2]; omega
    · obtain ⟨k1, k2, k3, k4, k5, k6, k7⟩ := h2 p (by omega)
      obtain ⟨m1, m2, m3, m4, m5⟩ := k1
      refine ⟨⟨m1, by rw [e3, if_neg c0]; exact m2, by rw [e3, if_neg c0]; exact m3, m4, m5⟩, by rw [e2, if_neg c0]; exact k2, by rw [e4, if_neg c0]; exact k3, ?_, ?_, k6, k7⟩
      · rw [e10, if_neg c0]; exact k4
      · rw [e10, if_neg c0]; exact k5
  · intro p hp h16
    rw [en] at hp
    exact h3 p (by omega) h16
  · intro i hi
    obtain ⟨k1, k2, k3, k4, k5⟩ := h5 i hi
    refine ⟨k1, by rw [en]; exact Nat.lt_succ_of_lt k2, ?_, k4, k5⟩
    show (addS S o w c).1 10 (S.1 21 i) ≠ 99
    rw [e10, if_neg (by omega)]
    exact k3
  · intro p q hp hq e hne
    rw [en] at hp hq
    rw [e10] at hne
    have hp0 : p ≠ S.1 1 0 := fun z => by rw [if_pos z] at hne; exact hne rfl
    rw [if_neg hp0] at hne
    rw [e10, e10, if_neg hp0] at e
    by_cases cq : q = S.1 1 0
    · rw [if_pos cq] at e; exact absurd e hne
    · rw [if_neg cq] at e
      exact h7.1 p q (by omega) (by omega) e hne
  · intro x hx
    obtain ⟨p, hp, e⟩ := h7.2 x hx
    exact ⟨p, by rw [en]; omega, by rw [e10, if_neg (by omega)]; exact e⟩
/-- a line more -/
theorem putS_rows {S : kS} {p k u t : Nat} {z : Int} : pRows (putS S p k u z t) p = pRows S p + t := by
  unfold pRows
  rw [putS_5, sumN_s]
  have e9 : ∀ a, (putS S p k u z t).1 9 a = if a = 6 * p + S.1 5 p then t else S.1 9 a := fun a => by simp [putS, st_1, stz_1]
  rw [e9, if_pos rfl]
  congr 1
  apply sumN_cong
  intro i hi
  rw [e9, if_neg (by omega)]
theorem putS_rows' {S : kS} {p q k u t : Nat} {z : Int} (hq : q ≠ p) (h5p : S.1 5 p < 6) (h5 : S.1 5 q ≤ 6) : pRows (putS S p k u z t) q = pRows S q := by
  unfold pRows
  have e5 : (putS S p k u z t).1 5 q = S.1 5 q := by simp [putS, st_1, stz_1, hq]
  have e9 : ∀ a, (putS S p k u z t).1 9 a = if a = 6 * p + S.1 5 p then t else S.1 9 a := fun a => by simp [putS, st_1, stz_1]
  rw [e5]
  apply sumN_cong
  intro i hi
  rw [e9, if_neg (by omega)]
theorem kInv_putS {S : kS} {p k u t : Nat} {z : Int} (h : kInv S) (hp : p < S.1 1 0) (hu : S.1 10 p = 99) (h5p : S.1 5 p < 6) (hk : k ≤ 9) (hu9 : u ≤ 9) (h1u : 1 ≤ k + u) (hz : -3 ≤ z ∧ z ≤ 3) (ht : 1 ≤ t) (ht2 : t ≤ 40) (hr : pRows S p + t ≤ 40) : kInv (putS S p k u z t) := by
  obtain ⟨h1, h2, h3, h4, h5, h6, h7⟩ := h
  have e5 : ∀ q, (putS S p k u z t).1 5 q = if q = p then S.1 5 p + 1 else S.1 5 q := fun q => by simp [putS, st_1, stz_1]
  have e6 : ∀ a, (putS S p k u z t).1 6 a = if a = 6 * p + S.1 5 p then k else S.1 6 a := fun a => by simp [putS, st_1, stz_1]
  have e7 : ∀ a, (putS S p k u z t).1 7 a = if a = 6 * p + S.1 5 p then u else S.1 7 a := fun a => by simp [putS, st_1, stz_1]
  have e9 : ∀ a, (putS S p k u z t).1 9 a = if a = 6 * p + S.1 5 p then t else S.1 9 a := fun a => by simp [putS, st_1, stz_1]
  have ez : ∀ a, (putS S p k u z t).2.1 a = if a = 6 * p + S.1 5 p then z else S.2.1 a := fun a => rfl
  refine ⟨h1, ?_, ?_, h4, ?_, h6, h7⟩
  · intro q hq
    obtain ⟨k1, k2, k3, k4, k5, k6, k7⟩ := h2 q hq
    obtain ⟨m1, m2, m3, m4, m5⟩ := k1
    refine ⟨⟨?_, m2, m3, ?_, ?_⟩, k2, k3, k4, ?_, k6, k7⟩
    · rw [e5]; split <;> omega
    · by_cases c : q = p
      · subst c; rw [putS_rows]; exact hr
      · rw [putS_rows' c h5p m1]; exact m4
    · intro i hi
      rw [e5] at hi
      rw [e6, e7, e9, ez]
      by_cases c : 6 * q + i = 6 * p + S.1 5 p
      · rw [if_pos c, if_pos c, if_pos c, if_pos c]; exact ⟨hk, hu9, h1u, ht, ht2, hz.1, hz.2⟩
      · rw [if_neg c, if_neg c, if_neg c, if_neg c]
        refine m5 i ?_
        split at hi
        · next z9 => subst z9; omega
        · exact hi
    · intro z9
      rw [e5]; split
      · omega
      · exact k5 z9
  · intro q hq h16
    have hq : S.1 1 0 ≤ q := hq
    obtain ⟨k1, k2, k3⟩ := h3 q hq h16
    exact ⟨by rw [e5, if_neg (by omega)]; exact k1, k2, k3⟩
  · intro i hi
    obtain ⟨k1, k2, k3, k4, k5⟩ := h5 i hi
    refine ⟨k1, k2, k3, k4, ?_⟩
    show S.1 23 i ≤ pRows (putS S p k u z t) (S.1 21 i)
    rw [putS_rows' (fun c => k3 (by rw [c]; exact hu)) h5p (h2 _ k2).1.1]
    exact k5
theorem oftN_in {t g : Nat} (ht : t ≤ 40) (hg : g ≤ 20) : 1 ≤ oftN t g ∧ oftN t g ≤ 80 := by
  have := Nat.mul_le_mul ht hg
  unfold oftN; split <;> omega
theorem clampF_in (w : Nat) : 1 ≤ clampF w ∧ clampF w ≤ 20 := by unfold clampF; split <;> (try split) <;> omega
/-- working out anew leaves the old pattern as it was -/
theorem anewN_at {S : kS} {p g : Nat} (hp : p < S.1 1 0) (h5 : S.1 5 p ≤ 6) (h50 : S.1 5 (S.1 1 0) = 0) : ∀ n, n ≤ S.1 5 p → (anewN S p g n).1 5 (S.1 1 0) = n ∧ (anewN S p g n).1 5 p = S.1 5 p ∧ (anewN S p g n).1 1 0 = S.1 1 0 + 1 ∧
    ∀ i, i < 6 → (anewN S p g n).1 6 (6 * p + i) = S.1 6 (6 * p + i) ∧ (anewN S p g n).1 7 (6 * p + i) = S.1 7 (6 * p + i) ∧ (anewN S p g n).2.1 (6 * p + i) = S.2.1 (6 * p + i) ∧ (anewN S p g n).1 9 (6 * p + i) = S.1 9 (6 * p + i) := by
  intro n
  induction n with
  | zero => intro _; exact ⟨h50, rfl, by simp [anewN, addS, st_1], fun i _ => ⟨rfl, rfl, rfl, rfl⟩⟩
  | succ n ih =>
    intro hn
    obtain ⟨a1, a2, a3, a4⟩ := ih (by omega)
    refine ⟨?_, ?_, ?_, ?_⟩
    · show (putS (anewN S p g n) (S.1 1 0) _ _ _ _).1 5 (S.1 1 0) = n + 1
      rw [putS_5, a1]
    · rw [← a2]; simp only [anewN, putS, st_1, stz_1]; simp; omega
    · rw [← a3]; simp [anewN, putS, st_1, stz_1]
    · intro i hi
      obtain ⟨b1, b2, b3, b4⟩ := a4 i hi
      rw [← b1, ← b2, ← b3, ← b4]
      have hne : 6 * p + i ≠ 6 * S.1 1 0 + n := by omega
      refine ⟨?_, ?_, ?_, ?_⟩ <;> simp [anewN, putS, st_1, stz_1, stz_2, st_2, a1, hne]
end
section
theorem k_holes : ∀ (m n : Nat) (f : Nat → Nat), (∀ i, i < n → f i < m) → (∀ i j, i < j → j < n → f i ≠ f j) → n ≤ m := by
  intro m
  induction m with
  | zero =>
    intro n f h1 h2
    rcases Nat.eq_zero_or_pos n with q | q
    · omega
    · exact absurd (h1 0 q) (Nat.not_lt_zero _)
  | succ m ih =>
    intro n f h1 h2
    rcases Nat.eq_zero_or_pos n with q | q
    · omega
    · by_cases hx : ∃ i, i < n ∧ f i = m
      · obtain ⟨i0, hi0, e0⟩ := hx
        have hf : ∀ i j, i < n → j < n → i ≠ j → f i ≠ f j := fun i j hi hj hij => by
          rcases Nat.lt_or_ge i j with z | z
          · exact h2 i j z hj
          · exact fun e => h2 j i (by omega) hi e.symm
        have := ih (n - 1) (fun i => if i < i0 then f i else f (i + 1)) (fun i hi => by
          try dsimp only
          split
          · have a := h1 i (by omega)
            have b := hf i i0 (by omega) hi0 (by omega)
            omega
          · have a := h1 (i + 1) (by omega)
            have b := hf (i + 1) i0 (by omega) hi0 (by omega)
            omega) (fun i j hij hj => by
          try dsimp only
          split <;> split <;> apply hf <;> omega)
        omega
      · have := ih n f (fun i hi => by
          have a := h1 i hi
          have b : f i ≠ m := fun e => hx ⟨i, hi, e⟩
          omega) h2
        omega
theorem kInv_od {S : kS} (h : kInv S) {p : Nat} (hp : p < S.1 1 0) : S.1 10 p ≤ 99 := by
  obtain ⟨h1, h2, -⟩ := h
  have := (h2 p hp).2.2.2.1
  omega
theorem pub_lt {S : kS} {p : Nat} (h : kInv S) (hp : p < S.1 1 0) (hu : S.1 10 p = 99) : S.1 11 0 + 1 ≤ S.1 1 0 := by
  obtain ⟨h1, h2, h3, h4, h5, h6, h7, h8⟩ := h
  have hc : ∀ o, ∃ q, o < S.1 11 0 → q < S.1 1 0 ∧ S.1 10 q = o := fun o => by
    by_cases c : o < S.1 11 0
    · obtain ⟨q, a, b⟩ := h8 o c
      exact ⟨q, fun _ => ⟨a, b⟩⟩
    · exact ⟨0, fun z => absurd z c⟩
  obtain ⟨f, hf⟩ := Classical.axiomOfChoice hc
  refine k_holes (S.1 1 0) (S.1 11 0 + 1) (fun i => if i < S.1 11 0 then f i else p) (fun i hi => ?_) (fun i j hij hj => ?_)
  · try dsimp only
    split
    · next c => exact (hf i c).1
    · exact hp
  · try dsimp only
    have hp16 := h1.2.2.2
    rw [if_pos (by omega : i < S.1 11 0)]
    have a := hf i (by omega)
    split
    · next c =>
      have b := hf j c
      intro e
      rw [e] at a
      omega
    · intro e
      rw [e] at a
      omega
theorem pubS_10 (S : kS) (p q : Nat) : (pubS S p).1 10 q = if q = p then S.1 11 0 else S.1 10 q := by simp [pubS, st_1]
theorem pubS_11 (S : kS) (p : Nat) : (pubS S p).1 11 0 = S.1 11 0 + 1 := by simp [pubS, st_1]
theorem kInv_pubS {S : kS} {p : Nat} (h : kInv S) (hp : p < S.1 1 0) (hu : S.1 10 p = 99) (hl : 0 < S.1 5 p) : kInv (pubS S p) := by
  have hb := pub_lt h hp hu
  obtain ⟨h1, h2, h3, h4, h5, h6, h7, h8⟩ := h
  refine ⟨⟨h1.1, h1.2.1, h1.2.2.1, by rw [pubS_11]; omega⟩, ?_, h3, h4, ?_, h6, ?_, ?_⟩
  · intro q hq
    obtain ⟨k1, k2, k3, k4, k5, k6, k7⟩ := h2 q hq
    refine ⟨k1, k2, k3, ?_, ?_, k6, k7⟩
    · rw [pubS_10, pubS_11]; split <;> omega
    · rw [pubS_10]; split
      · next z => subst z; exact fun _ => hl
      · exact k5
  · intro i hi
    obtain ⟨k1, k2, k3, k4, k5⟩ := h5 i hi
    refine ⟨k1, k2, ?_, k4, k5⟩
    show (pubS S p).1 10 (S.1 21 i) ≠ 99
    rw [pubS_10]; split
    · omega
    · exact k3
  · intro a b ha hb2 e hne
    rw [pubS_10] at hne
    rw [pubS_10, pubS_10] at e
    have ha2 := (h2 a ha).2.2.2.1
    have hb3 := (h2 b hb2).2.2.2.1
    split at e <;> split at e
    · omega
    · next c1 c2 => rw [if_pos c1] at hne; omega
    · next c1 c2 => rw [if_neg c1] at hne; omega
    · next c1 c2 => rw [if_neg c1] at hne; exact h7 a b ha hb2 e hne
  · intro o ho
    rw [pubS_11] at ho
    by_cases c : o = S.1 11 0
    · exact ⟨p, hp, by rw [pubS_10, if_pos rfl, c]⟩
    · obtain ⟨q, a, b⟩ := h8 o (by omega)
      refine ⟨q, a, ?_⟩
      rw [pubS_10, if_neg (fun z => ?_)]
      · exact b
      · rw [z, hu] at b; have := h1.2.2.2; omega
theorem anewN_10 {S : kS} {p g : Nat} : ∀ n, (anewN S p g n).1 10 (S.1 1 0) = 99 := by
  intro n
  induction n with
  | zero => simp [anewN, addS, st_1]
  | succ n ih => rw [← ih]; simp [anewN, putS, st_1, stz_1]
theorem anewN_rows {S : kS} {p g : Nat} (h50 : S.1 5 (S.1 1 0) = 0) : ∀ n, pRows (anewN S p g n) (S.1 1 0) = sumN (fun k => oftN (S.1 9 (6 * p + k)) g) n := by
  intro n
  induction n with
  | zero => exact pRows_0 h50
  | succ n ih =>
    show pRows (putS (anewN S p g n) (S.1 1 0) _ _ _ _) (S.1 1 0) = _
    rw [putS_rows, ih, sumN_s]
theorem kInv_anewN {S : kS} {p g : Nat} (h : kInv S) (hp : p < S.1 1 0) (hg : 5 ≤ g ∧ g ≤ 20) (hn : S.1 1 0 < 16) (hr : anewRows S p g ≤ 40) : ∀ n, n ≤ S.1 5 p → kInv (anewN S p g n) := by
  have hI := h
  obtain ⟨h1, h2, h3, h4, h5, h6, h7⟩ := h
  obtain ⟨k1, k2, k3, k4, k5, k6, k7⟩ := h2 p hp
  obtain ⟨m1, m2, m3, m4, m5⟩ := k1
  have h50 := (h3 (S.1 1 0) (Nat.le_refl _) hn).1
  intro n
  induction n with
  | zero => intro _; exact kInv_addS hI hn k2 (clampF_in _) k3
  | succ n ih =>
    intro hnl
    obtain ⟨a1, a2, a3, a4⟩ := anewN_at (g := g) hp m1 h50 n (by omega)
    obtain ⟨q1, q2, q3, q4, q5, q6, q7⟩ := m5 n (by omega)
    have hle : sumN (fun k => oftN (S.1 9 (6 * p + k)) g) (n + 1) ≤ anewRows S p g := sumN_le (by omega)
    rw [sumN_s] at hle
    exact kInv_putS (ih (by omega)) (by rw [a3]; omega) (anewN_10 n) (by rw [a1]; omega) q1 q2 q3 ⟨q6, q7⟩ (oftN_in q5 hg.2).1 (by have := (oftN_in (g := g) q5 hg.2).1; omega) (by rw [anewN_rows h50]; omega)
theorem kInv_buyS {S : kS} {p j : Nat} (h : kInv S) (hp : p < S.1 1 0) (hj : j < 5) : kInv (buyS S p j) := by
  obtain ⟨h1, h2, h3, h4, h5, h6, h7⟩ := h
  have e13 : ∀ q, (buyS S p j).1 13 q = if q = p then S.1 13 p ||| 2 ^ j else S.1 13 q := fun q => by simp [buyS, stm_1, st_1]
  refine ⟨h1, ?_, ?_, h4, h5, h6, h7⟩
  · intro q hq
    obtain ⟨k1, k2, k3, k4, k5, k6, k7⟩ := h2 q hq
    refine ⟨k1, k2, k3, k4, k5, ?_, k7⟩
    rw [e13]; split
    · have a := (h2 p hp).2.2.2.2.2.1
      have b : 2 ^ j < 2 ^ 5 := Nat.pow_lt_pow_right (by decide) hj
      exact Nat.or_lt_two_pow (n := 5) a b
    · exact k6
  · intro q hq h16
    obtain ⟨k1, k2, k3⟩ := h3 q hq h16
    have hq : S.1 1 0 ≤ q := hq
    exact ⟨k1, by rw [e13, if_neg (by omega)]; exact k2, k3⟩
theorem kInv_ruleS {S : kS} {p : Nat} (h : kInv S) (hp : p < S.1 1 0) : kInv (ruleS S p) := by
  obtain ⟨h1, h2, h3, h4, h5, h6, h7⟩ := h
  have e12 : ∀ q, (ruleS S p).1 12 q = if q = p then 1 else S.1 12 q := fun q => by simp [ruleS, stm_1, st_1]
  refine ⟨h1, ?_, ?_, h4, h5, h6, h7⟩
  · intro q hq
    obtain ⟨k1, k2, k3, k4, k5, k6, k7⟩ := h2 q hq
    refine ⟨k1, k2, k3, k4, k5, k6, ?_⟩
    rw [e12]; split <;> omega
  · intro q hq h16
    obtain ⟨k1, k2, k3⟩ := h3 q hq h16
    have hq : S.1 1 0 ≤ q := hq
    exact ⟨k1, k2, by rw [e12, if_neg (by omega)]; exact k3⟩
theorem kInv_lotS {S : kS} {x g y : Nat} (h : kInv S) (hn : S.1 15 0 < 20) (hx : x < 5) (hg : 5 ≤ g ∧ g ≤ 20) (hy : y ≤ 100000) : kInv (lotS S x g y) := by
  obtain ⟨h1, h2, h3, h4, h5, h6, h7⟩ := h
  have e15 : (lotS S x g y).1 15 0 = S.1 15 0 + 1 := by simp [lotS, st_1]
  have e16 : ∀ a, (lotS S x g y).1 16 a = if a = S.1 15 0 then x else S.1 16 a := fun a => by simp [lotS, st_1]
  have e17 : ∀ a, (lotS S x g y).1 17 a = if a = S.1 15 0 then g else S.1 17 a := fun a => by simp [lotS, st_1]
  have e18 : ∀ a, (lotS S x g y).1 18 a = if a = S.1 15 0 then y else S.1 18 a := fun a => by simp [lotS, st_1]
  refine ⟨⟨h1.1, by rw [e15]; omega, h1.2.2.1, h1.2.2.2⟩, h2, h3, ?_, ?_, h6, h7⟩
  · intro a ha
    rw [e15] at ha
    rw [e16, e17, e18]
    by_cases c : a = S.1 15 0
    · rw [if_pos c, if_pos c, if_pos c]; exact ⟨hx, hg.1, hg.2, hy⟩
    · rw [if_neg c, if_neg c, if_neg c]; exact h4 a (by omega)
  · intro i hi
    obtain ⟨k1, k2, k3, k4, k5⟩ := h5 i hi
    exact ⟨k1, k2, k3, by rw [e15]; exact Nat.lt_succ_of_lt k4, k5⟩
theorem kInv_swapS {S : kS} {a b : Nat} (h : kInv S) (ha : a < S.1 15 0) (hb : b < S.1 15 0) : kInv (swapS S a b) := by
  obtain ⟨h1, h2, h3, h4, h5, h6, h7⟩ := h
  have e16 : ∀ q, (swapS S a b).1 16 q = if q = b then S.1 16 a else if q = a then S.1 16 b else S.1 16 q := fun q => by simp [swapS, st_1]
  refine ⟨h1, h2, h3, ?_, h5, h6, h7⟩
  intro q hq
  obtain ⟨k1, k2⟩ := h4 q hq
  refine ⟨?_, k2⟩
  rw [e16]; split
  · exact (h4 a ha).1
  · split
    · exact (h4 b hb).1
    · exact k1
theorem kInv_projS {S : kS} {x p a : Nat} (h : kInv S) (hx : x < 5) (hp : p < S.1 1 0) (ha : a < S.1 15 0) (hc : projCan S x p a) : kInv (projS S x p a) := by
  obtain ⟨h1, h2, h3, h4, h5, h6, h7⟩ := h
  have e19 : (projS S x p a).1 19 0 = S.1 19 0 + 1 := by simp [projS, st_1]
  have e20 : ∀ i, (projS S x p a).1 20 i = if i = S.1 19 0 then x else S.1 20 i := fun i => by simp [projS, st_1]
  have e21 : ∀ i, (projS S x p a).1 21 i = if i = S.1 19 0 then p else S.1 21 i := fun i => by simp [projS, st_1]
  have e22 : ∀ i, (projS S x p a).1 22 i = if i = S.1 19 0 then a else S.1 22 i := fun i => by simp [projS, st_1]
  have h12 := hc.2.2.2
  refine ⟨⟨h1.1, h1.2.1, by rw [e19]; omega, h1.2.2.2⟩, h2, h3, h4, ?_, ?_, h7⟩
  · intro i hi
    rw [e19] at hi
    rw [e20, e21, e22]
    by_cases c : i = S.1 19 0
    · rw [if_pos c, if_pos c, if_pos c]
      refine ⟨hx, hp, hc.1, ha, ?_⟩
      subst c
      show S.1 23 (S.1 19 0) ≤ _
      rw [h6 _ (Nat.le_refl _) h12]
      exact Nat.zero_le _
    · rw [if_neg c, if_neg c, if_neg c]; exact h5 i (by omega)
  · intro i hi hi12
    rw [e19] at hi
    exact h6 i (by omega) hi12
theorem kInv_take {S : kS} {j a : Nat} (h : kInv S) (ha : a < S.1 15 0) : kInv (st S 22 j a) := by
  obtain ⟨h1, h2, h3, h4, h5, h6, h7⟩ := h
  have e22 : ∀ i, (st S 22 j a).1 22 i = if i = j then a else S.1 22 i := fun i => by simp [st_1]
  refine ⟨h1, h2, h3, h4, ?_, h6, h7⟩
  intro i hi
  obtain ⟨k1, k2, k3, k4, k5⟩ := h5 i hi
  refine ⟨k1, k2, k3, ?_, k5⟩
  rw [e22]; split
  · exact ha
  · exact k4
theorem kInv_knitN {j : Nat} : ∀ (n : Nat) {S : kS}, kInv S → j < S.1 19 0 → kInv (knitN S j n).2 := by
  intro n
  induction n with
  | zero => intro S h _; exact h
  | succ n ih =>
    intro S h hj
    unfold knitN
    by_cases c : knitCan S j
    · rw [kif_t c]; exact ih (kInv_knit1 h hj c) hj
    · rw [kif_f c]; exact h
end
section
/-! what is made: it comes last in the world, and is put ahead of what the method doesn't know -/
theorem kV_in {G : kG} {a wr b : va_W} {H : Heap} (h : kV G ((a ++ wr) ++ b) H) : kV G ((a ++ b) ++ wr) H := ⟨h.1.swap, h.2.swap⟩
def S0 : kS := (fun _ _ => 0, fun _ => 0, fun _ => 0)
def kad (l : List Nat) : Nat → Nat := fun k => l.getD k 0
theorem kT_I {G : kG} {s : State} {cA : ClassId} (hK : va_K (kD G) vwCl (kT G ++ [(cA, .int)]) s) : cA = kcI G := by
  have h1 : s.vm.findClass ("[" ++ FieldType.int.toString) = some cA := (hK.2 4 (cA, .int) rfl).2
  have h2 : s.vm.findClass ("[" ++ FieldType.int.toString) = some (kcI G) := (hK.2 0 (kcI G, .int) rfl).2
  exact Option.some.inj (h1.symm.trans h2)
theorem kT_Z {G : kG} {s : State} {cA : ClassId} (hK : va_K (kD G) vwCl (kT G ++ [(cA, .boolean)]) s) : cA = kcZ G := by
  have h1 : s.vm.findClass ("[" ++ FieldType.boolean.toString) = some cA := (hK.2 4 (cA, .boolean) rfl).2
  have h2 : s.vm.findClass ("[" ++ FieldType.boolean.toString) = some (kcZ G) := (hK.2 1 (kcZ G, .boolean) rfl).2
  exact Option.some.inj (h1.symm.trans h2)
theorem kT_L {G : kG} {s : State} {cA : ClassId} (hK : va_K (kD G) vwCl (kT G ++ [(cA, .long)]) s) : cA = kcL G := by
  have h1 : s.vm.findClass ("[" ++ FieldType.long.toString) = some cA := (hK.2 4 (cA, .long) rfl).2
  have h2 : s.vm.findClass ("[" ++ FieldType.long.toString) = some (kcL G) := (hK.2 3 (kcL G, .long) rfl).2
  exact Option.some.inj (h1.symm.trans h2)
section KNEW
variable {p : Program} {l : Launch} {e : Env} {R : Room} {s : State} {m : MethodId} {args : Array Value} {below : List Frame} {meth : Method} {c : Code} {H : Heap} {locs : List Loc} {cells slots : Nat} {Q : State → Prop}
variable {cc : ByteArray} {pc : Nat} {ls : Array Slot} {rest : List Value} {G : kG} {H0 : Heap} {a wr : va_W}
theorem kn_newI (hexec : p.tables.exec = Jvm.exec) (hb : c.code = cc) (harr : (Cond.arrayClass .int).before args s = true) (hK : va_K (kD G) vwCl (kT G) s) (hV : kV G (a ++ wr) H) (hS : va_S (kA G) H0 H locs) (hA : kB G ≤ H0.size)
    {n : Nat} (hn : n ≤ 100000) (hcells : cells + 1 ≤ R.cells) (hslots : slots + n ≤ R.slots) (hdg : decode cc pc = .ok (.newarray .int, 2))
    (kk : ∀ (q : Nat) (H1 : Heap), kV G ((a ++ [(q, aN (kcI G) n (fun _ => 0))]) ++ wr) H1 → va_S (kA G) H0 H1 locs → W p l e R s m args below meth c H1 locs (cells + 1) (slots + n) Q (F0 m (pc + 2) ls (.ref q :: rest))) : W p l e R s m args below meth c H locs cells slots Q (F0 m pc ls (.int (nI n) :: rest)) := by
  refine va_newa (atype := .int) (ty := .int) (a0 := (n, .inl (fun _ => nI 0))) hexec hb harr rfl hK hV.1 hV.2 hS (fun q h => Nat.le_trans hA h) (fun cA => rfl) (nI_pos (by omega)) (nI_clamp (by omega)) (by rw [show componentBytes .int = 4 from rfl]; omega) hcells hslots hdg (fun q cA H1 hK1 hP hD hS1 => ?_)
  have e := kT_I hK1
  subst e
  exact kk q H1 (kV_in ⟨hP, hD⟩) hS1
theorem kn_newZ (hexec : p.tables.exec = Jvm.exec) (hb : c.code = cc) (harr : (Cond.arrayClass .boolean).before args s = true) (hK : va_K (kD G) vwCl (kT G) s) (hV : kV G (a ++ wr) H) (hS : va_S (kA G) H0 H locs) (hA : kB G ≤ H0.size)
    {n : Nat} (hn : n ≤ 100000) (hcells : cells + 1 ≤ R.cells) (hslots : slots + n ≤ R.slots) (hdg : decode cc pc = .ok (.newarray .boolean, 2))
    (kk : ∀ (q : Nat) (H1 : Heap), kV G ((a ++ [(q, aN (kcZ G) n (fun _ => 0))]) ++ wr) H1 → va_S (kA G) H0 H1 locs → W p l e R s m args below meth c H1 locs (cells + 1) (slots + n) Q (F0 m (pc + 2) ls (.ref q :: rest))) : W p l e R s m args below meth c H locs cells slots Q (F0 m pc ls (.int (nI n) :: rest)) := by
  refine va_newa (atype := .boolean) (ty := .boolean) (a0 := (n, .inl (fun _ => nI 0))) hexec hb harr rfl hK hV.1 hV.2 hS (fun q h => Nat.le_trans hA h) (fun cA => rfl) (nI_pos (by omega)) (nI_clamp (by omega)) (by rw [show componentBytes .boolean = 1 from rfl]; omega) hcells hslots hdg (fun q cA H1 hK1 hP hD hS1 => ?_)
  have e := kT_Z hK1
  subst e
  exact kk q H1 (kV_in ⟨hP, hD⟩) hS1
theorem kn_newL (hexec : p.tables.exec = Jvm.exec) (hb : c.code = cc) (harr : (Cond.arrayClass .long).before args s = true) (hK : va_K (kD G) vwCl (kT G) s) (hV : kV G (a ++ wr) H) (hS : va_S (kA G) H0 H locs) (hA : kB G ≤ H0.size)
    {n : Nat} (hn : n ≤ 100000) (hcells : cells + 1 ≤ R.cells) (hslots : slots + n ≤ R.slots) (hdg : decode cc pc = .ok (.newarray .long, 2))
    (kk : ∀ (q : Nat) (H1 : Heap), kV G ((a ++ [(q, .inl (kcL G, n, .inr (.inl (fun _ => 0))))]) ++ wr) H1 → va_S (kA G) H0 H1 locs → W p l e R s m args below meth c H1 locs (cells + 1) (slots + n) Q (F0 m (pc + 2) ls (.ref q :: rest))) : W p l e R s m args below meth c H locs cells slots Q (F0 m pc ls (.int (nI n) :: rest)) := by
  refine va_newa (atype := .long) (ty := .long) (a0 := (n, .inr (.inl (fun _ => 0)))) hexec hb harr rfl hK hV.1 hV.2 hS (fun q h => Nat.le_trans hA h) (fun cA => rfl) (nI_pos (by omega)) (nI_clamp (by omega)) (by rw [show componentBytes .long = 8 from rfl]; omega) hcells hslots hdg (fun q cA H1 hK1 hP hD hS1 => ?_)
  have e := kT_L hK1
  subst e
  exact kk q H1 (kV_in ⟨hP, hD⟩) hS1
end KNEW
end
section
/-! the class's own ways to the chart -/
def iw (v lo hi : Int32) : Int32 := if hi < (if v < lo then lo else v) then hi else (if v < lo then lo else v)
theorem iw_clampW {z : Int} (h1 : -1000 ≤ z) (h2 : z ≤ 1000) : iw (zI z) (nI 1) (nI 40) = nI (clampW z) := by
  have k1 := kz_cmp h1 h2 (n := 1) (by decide)
  have k40 := kz_cmp h1 h2 (n := 40) (by decide)
  unfold iw
  by_cases a : z < 1
  · have e1 : (if zI z < nI 1 then nI 1 else zI z) = nI 1 := if_pos (k1.1.mpr (by omega))
    rw [e1, if_neg (by decide), clW_lo a]
  · have e1 : (if zI z < nI 1 then nI 1 else zI z) = zI z := if_neg (fun q => a (by have := k1.1.mp q; omega))
    rw [e1]
    by_cases b : 40 < z
    · rw [if_pos (k40.2.2.1.mpr (by omega)), clW_hi (by omega) b]
    · rw [if_neg (fun q => b (by have := k40.2.2.1.mp q; omega)), clW_mid (by omega) (by omega)]
theorem iw_clampF {a : Nat} (h : a < 2 ^ 31) : iw (nI a) (nI 1) (nI 20) = nI (clampF a) := by
  unfold iw clampF
  by_cases c : a < 1
  · have e1 : (if nI a < nI 1 then nI 1 else nI a) = nI 1 := if_pos ((nI_ltI h (by decide)).mpr c)
    rw [e1, if_neg (by decide), if_pos c]
  · have e1 : (if nI a < nI 1 then nI 1 else nI a) = nI a := if_neg (fun q => c ((nI_ltI h (by decide)).mp q))
    rw [e1, if_neg c]
    by_cases d : 20 < a
    · rw [if_pos ((nI_ltI (by decide) h).mpr d), if_pos d]
    · rw [if_neg (fun q => d ((nI_ltI (by decide) h).mp q)), if_neg d]
/-- c places of a row drawn, from st on -/
def drawP (F : Nat → Nat) (st k u w c : Nat) : Nat → Nat := fun x => if st ≤ x ∧ x < st + c then stV k u w (x - st) else F x
theorem drawP_0 (F : Nat → Nat) (st k u w : Nat) : drawP F st k u w 0 = F := by
  funext x; unfold drawP; rw [if_neg (by omega)]
theorem drawP_s {F : Nat → Nat} {st k u w c v : Nat} (h : stV k u w c = v) : drawP F st k u w (c + 1) = va_up (drawP F st k u w c) (st + c) v := by
  funext x
  unfold drawP va_up
  by_cases e : x = st + c
  · subst e; rw [if_pos (by omega), if_pos rfl, Nat.add_sub_cancel_left, h]
  · rw [if_neg e]
    by_cases d : st ≤ x ∧ x < st + c
    · rw [if_pos (by omega : st ≤ x ∧ x < st + (c + 1))]; exact (if_pos d).symm
    · rw [if_neg (by omega : ¬ (st ≤ x ∧ x < st + (c + 1)))]; exact (if_neg d).symm
def wN (w : Nat) (z : Int) : Nat → Nat
  | 0 => w
  | i + 1 => clampW ((wN w z i : Int) + z)
def dlF (F : Nat → Nat) (k u : Nat) (z : Int) (w rc : Nat) : Nat → Nat → Nat
  | 0 => F
  | i + 1 => drawP (dlF F k u z w rc i) ((rc + i) * 40) k u (wN w z i) (wN w z i)
def dlY (Y : Nat → Nat) (k u : Nat) (z : Int) (w rc : Nat) : Nat → Nat → Nat
  | 0 => Y
  | i + 1 => va_up (dlY Y k u z w rc i) (rc + i) (ynV k u (wN w z i))
theorem wN_in {w : Nat} {z : Int} (h : 1 ≤ w ∧ w ≤ 40) : ∀ i, 1 ≤ wN w z i ∧ wN w z i ≤ 40
  | 0 => h
  | _ + 1 => clampW_in _
theorem modS {c m : Nat} (h0 : 0 < m) : (c % m + 1 = m → (c + 1) % m = 0) ∧ (c % m + 1 ≠ m → (c + 1) % m = c % m + 1) := by
  have hd := Nat.div_add_mod c m
  have hl := Nat.mod_lt c h0
  constructor
  · intro h
    have e : c + 1 = m * (c / m + 1) := by rw [Nat.mul_succ]; omega
    rw [e]; exact Nat.mul_mod_right _ _
  · intro h
    have e : c + 1 = (c % m + 1) + m * (c / m) := by omega
    rw [e, Nat.add_mul_mod_self_left]
    exact Nat.mod_eq_of_lt (by omega)
theorem stV_in {k u w c : Nat} (hc : c < w) : stV k u w c = if c % (k + u) < k then 1 else 2 := by unfold stV; rw [if_neg (by omega)]
end
section
set_option maxHeartbeats 4000000 in
set_option maxRecDepth 100000 in
theorem c_X5_within (l : Launch) (G : kG) (v : Int32) (lo : Int32) (hi : Int32) (ws : va_W) : Met l yX5_within wsX5_within ({ frames := 1, cells := 0, slots := 0, locals := 21 } : Room) (kPc G [.int (v), .int (lo), .int (hi)] (ws)) (kQi G (S := Unit) (fun q _ => q = iw v lo hi) (fun _ => ws)) 0 0 (kA G) := by
  refine Met.ofW (cc := cX5_within) (maxL := 3) (ret := (some .int)) (by decide) rfl ?_
  intro pp ee s m args below meth cc0 s₁ B hml hv
  obtain ⟨rfl, hE, hV⟩ := hv
  have hK := hE.1
  have hx := B.exec
  have hb := B.bytes
  have hrt := B.returns
  have hts := atoms_spec (ws := wsX5_within) B.pre
  have hown : s.vm.findClass RX5 = some m.cls := findClass_of_methodNamed B.named
  have hlocks := B.notSynchronized
  have hF : CallFix pp m cc0 cX5_within 3 s _ wsX5_within RX5 := ⟨hx, hb, hml, hown, hts⟩
  have hS : va_S (kA G) s.heap s.heap [] := va_S.rf
  have hB0 := hE.2.1
  have hl := lv_entry ([.int (v), .int (lo), .int (hi)]) (n := 3) (Nat.le_of_ble_eq_true rfl)
  rw [lg_entry_eq]
  generalize (lg_sl ([.int (v), .int (lo), .int (hi)]) ++ List.replicate (3 - (lg_sl ([.int (v), .int (lo), .int (hi)])).length) Slot.unset).toArray = ls at hl ⊢
  have hl : lv_has ls 3 [(0, .int (v)), (1, .int (lo)), (2, .int (hi))] := hl
  refine lv_iload_n hx hb dX5_within_0 rfl (lv_at hl 0 rfl) ?_
  refine lv_iload_n hx hb dX5_within_1 rfl (lv_at hl 1 rfl) ?_
  refine va_mmax hx hb (hml.trans hl.1.symm) hown (hts (Cond.methodLink RX5 245 Lib.Math.max.name) (List.mem_of_getElem? (i := 1) rfl)) (hts (Cond.static Lib.Math.max.name) (List.mem_of_getElem? (i := 2) rfl)) (hts (Cond.initialized "java/lang/Math") (List.mem_of_getElem? (i := 3) rfl)) (hts (Cond.code Lib.Math.max.name Lib.Math.max.code 2 (some .int)) (List.mem_of_getElem? (i := 4) rfl)) (Nat.le_of_ble_eq_true rfl) (Nat.le_of_ble_eq_true rfl) (Nat.le_of_ble_eq_true rfl) (Nat.le_of_ble_eq_true rfl) dX5_within_2 ?_
  refine lv_iload_n hx hb dX5_within_5 rfl (lv_at hl 2 rfl) ?_
  refine va_mmin hx hb (hml.trans hl.1.symm) hown (hts (Cond.methodLink RX5 250 Lib.Math.min.name) (List.mem_of_getElem? (i := 5) rfl)) (hts (Cond.static Lib.Math.min.name) (List.mem_of_getElem? (i := 6) rfl)) (hts (Cond.initialized "java/lang/Math") (List.mem_of_getElem? (i := 3) rfl)) (hts (Cond.code Lib.Math.min.name Lib.Math.min.code 2 (some .int)) (List.mem_of_getElem? (i := 7) rfl)) (Nat.le_of_ble_eq_true rfl) (Nat.le_of_ble_eq_true rfl) (Nat.le_of_ble_eq_true rfl) (Nat.le_of_ble_eq_true rfl) dX5_within_6 ?_
  exact W.iret (v := (if hi < (if v < lo then lo else v) then hi else (if v < lo then lo else v))) hx hb hrt (fun t ht hW => ⟨⟨_, (), rfl, rfl, kV_eq ht hV⟩, hS.F ht⟩) hS.2.2 dX5_within_9
set_option maxHeartbeats 4000000 in
set_option maxRecDepth 100000 in
theorem c_X5_widthAfter (l : Launch) (G : kG) (w : Nat) (z : Int) (ws : va_W) (hw : w ≤ 40) (hz : -3 ≤ z ∧ z ≤ 3) : Met l yX5_widthAfter wsX5_widthAfter ({ frames := 2, cells := 0, slots := 0, locals := 43 } : Room) (kPc G [.int (nI (w)), .int (zI (z))] (ws)) (kQi G (S := Unit) (fun q _ => q = nI (clampW ((w : Int) + z))) (fun _ => ws)) 0 0 (kA G) := by
  refine Met.ofW (cc := cX5_widthAfter) (maxL := 2) (ret := (some .int)) (by decide) rfl ?_
  intro pp ee s m args below meth cc0 s₁ B hml hv
  obtain ⟨rfl, hE, hV⟩ := hv
  have hK := hE.1
  have hx := B.exec
  have hb := B.bytes
  have hrt := B.returns
  have hts := atoms_spec (ws := wsX5_widthAfter) B.pre
  have hown : s.vm.findClass RX5 = some m.cls := findClass_of_methodNamed B.named
  have hlocks := B.notSynchronized
  have hF : CallFix pp m cc0 cX5_widthAfter 2 s _ wsX5_widthAfter RX5 := ⟨hx, hb, hml, hown, hts⟩
  have hS : va_S (kA G) s.heap s.heap [] := va_S.rf
  have hB0 := hE.2.1
  have hl := lv_entry ([.int (nI (w)), .int (zI (z))]) (n := 2) (Nat.le_of_ble_eq_true rfl)
  rw [lg_entry_eq]
  generalize (lg_sl ([.int (nI (w)), .int (zI (z))]) ++ List.replicate (2 - (lg_sl ([.int (nI (w)), .int (zI (z))])).length) Slot.unset).toArray = ls at hl ⊢
  have hl : lv_has ls 2 [(0, .int (nI (w))), (1, .int (zI (z)))] := hl
  refine lv_iload_n hx hb dX5_widthAfter_0 rfl (lv_at hl 0 rfl) ?_
  refine lv_iload_n hx hb dX5_widthAfter_1 rfl (lv_at hl 1 rfl) ?_
  refine kz_add hx hb dX5_widthAfter_2 ?_
  refine lv_iconst (v := nI 1) hx hb dX5_widthAfter_3 (by decide) ?_
  refine lv_bipush (v := nI 40) hx hb dX5_widthAfter_4 (by decide) ?_
  refine kc_i (va_runS (As := [.int (zI ((w : Int) + z)), .int (nI (1)), .int (nI (40))]) (rest := []) hF (c_X5_within l G (zI ((w : Int) + z)) (nI 1) (nI 40) ws) (va_cwS 3 hts gX5_widthAfter_X5_within rfl rfl rfl (by decide +kernel) ⟨Nat.le_of_ble_eq_true rfl, Nat.le_of_ble_eq_true rfl⟩) (kPreS hE hS hV) rfl rfl hl.1 rfl (lv_room (Nat.le_of_ble_eq_true rfl)) dX5_widthAfter_6 ⟨Nat.le_of_ble_eq_true rfl, Nat.le_of_ble_eq_true rfl⟩) hS (fun r_3 u_2 H locs hp_1 hV hS => ?_)
  subst hp_1
  have hV : kV G (ws) H := hV
  exact W.iret (v := (iw (zI ((w : Int) + z)) (nI 1) (nI 40))) hx hb hrt (fun t ht hW => ⟨⟨_, (), rfl, iw_clampW (by omega) (by omega), kV_eq ht hV⟩, hS.F ht⟩) hS.2.2 dX5_widthAfter_9
set_option maxHeartbeats 4000000 in
set_option maxRecDepth 100000 in
theorem c_X5_forGauge (l : Launch) (G : kG) (a : Nat) (g : Nat) (ws : va_W) (ha : a * g < 2 ^ 31) : Met l yX5_forGauge wsX5_forGauge ({ frames := 0, cells := 0, slots := 0, locals := 0 } : Room) (kPc G [.int (nI (a)), .int (nI (g))] (ws)) (kQi G (S := Unit) (fun q _ => q = nI (a * g / 10)) (fun _ => ws)) 0 0 (kA G) := by
  refine Met.ofW (cc := cX5_forGauge) (maxL := 2) (ret := (some .int)) (by decide) rfl ?_
  intro pp ee s m args below meth cc0 s₁ B hml hv
  obtain ⟨rfl, hE, hV⟩ := hv
  have hK := hE.1
  have hx := B.exec
  have hb := B.bytes
  have hrt := B.returns
  have hts := atoms_spec (ws := wsX5_forGauge) B.pre
  have hown : s.vm.findClass RX5 = some m.cls := findClass_of_methodNamed B.named
  have hlocks := B.notSynchronized
  have hF : CallFix pp m cc0 cX5_forGauge 2 s _ wsX5_forGauge RX5 := ⟨hx, hb, hml, hown, hts⟩
  have hS : va_S (kA G) s.heap s.heap [] := va_S.rf
  have hB0 := hE.2.1
  have hl := lv_entry ([.int (nI (a)), .int (nI (g))]) (n := 2) (Nat.le_of_ble_eq_true rfl)
  rw [lg_entry_eq]
  generalize (lg_sl ([.int (nI (a)), .int (nI (g))]) ++ List.replicate (2 - (lg_sl ([.int (nI (a)), .int (nI (g))])).length) Slot.unset).toArray = ls at hl ⊢
  have hl : lv_has ls 2 [(0, .int (nI (a))), (1, .int (nI (g)))] := hl
  refine lv_iload_n hx hb dX5_forGauge_0 rfl (lv_at hl 0 rfl) ?_
  refine lv_iload_n hx hb dX5_forGauge_1 rfl (lv_at hl 1 rfl) ?_
  refine kn_mul hx hb dX5_forGauge_2 ?_
  refine lv_bipush (v := nI 10) hx hb dX5_forGauge_3 (by decide) ?_
  refine kn_div hx hb (by omega) (by omega) (by omega) dX5_forGauge_5 ?_
  exact W.iret (v := nI ((a * g) / 10)) hx hb hrt (fun t ht hW => ⟨⟨_, (), rfl, rfl, kV_eq ht hV⟩, hS.F ht⟩) hS.2.2 dX5_forGauge_6
set_option maxHeartbeats 4000000 in
set_option maxRecDepth 100000 in
theorem c_X0_drawRow (l : Launch) (G : kG) (hc : Nat) (as1 : Nat) (ay1 : Nat) (rc : Nat) (nw : Nat) (F : Nat → Nat) (Y : Nat → Nat) (wr : va_W) (st9 : Nat) (k : Nat) (u : Nat) (hst : st9 + 40 ≤ 1600) (hnw : nw ≤ 40) (hku : 1 ≤ k + u) (hk9 : k ≤ 9) (hu9 : u ≤ 9) : Met l yX0_drawRow wsX0_drawRow ({ frames := 0, cells := 0, slots := 0, locals := 0 } : Room) (kPc G [.ref (hc), .int (nI (st9)), .int (nI (k)), .int (nI (u))] ([(hc, .inr (1, [.int (nI (rc)), .ref (as1), .ref (ay1), .int (nI (nw))])), (as1, aN (kcI G) 1600 F), (ay1, aN (kcI G) 40 Y)] ++ wr)) (kQi G (S := Unit) (fun q _ => q = nI (ynV k u nw)) (fun _ => [(hc, .inr (1, [.int (nI (rc)), .ref (as1), .ref (ay1), .int (nI (nw))])), (as1, aN (kcI G) 1600 (drawP F st9 k u nw nw)), (ay1, aN (kcI G) 40 Y)] ++ wr)) 0 0 (kA G) := by
  refine Met.ofW (cc := cX0_drawRow) (maxL := 8) (ret := (some .int)) (by decide) rfl ?_
  intro pp ee s m args below meth cc0 s₁ B hml hv
  obtain ⟨rfl, hE, hV⟩ := hv
  have hK := hE.1
  have hx := B.exec
  have hb := B.bytes
  have hrt := B.returns
  have hts := atoms_spec (ws := wsX0_drawRow) B.pre
  have hown : s.vm.findClass RX0 = some m.cls := findClass_of_methodNamed B.named
  have hlocks := B.notSynchronized
  have hF : CallFix pp m cc0 cX0_drawRow 8 s _ wsX0_drawRow RX0 := ⟨hx, hb, hml, hown, hts⟩
  have hinX0 : ∀ w ∈ wsX00, w ∈ wsX0_drawRow := tb_of [3, 4, 5, 6] rfl
  have hS : va_S (kA G) s.heap s.heap [] := va_S.rf
  have hB0 := hE.2.1
  have hl := lv_entry ([.ref (hc), .int (nI (st9)), .int (nI (k)), .int (nI (u))]) (n := 8) (Nat.le_of_ble_eq_true rfl)
  rw [lg_entry_eq]
  generalize (lg_sl ([.ref (hc), .int (nI (st9)), .int (nI (k)), .int (nI (u))]) ++ List.replicate (8 - (lg_sl ([.ref (hc), .int (nI (st9)), .int (nI (k)), .int (nI (u))])).length) Slot.unset).toArray = ls at hl ⊢
  have hl : lv_has ls 8 [(0, .ref (hc)), (1, .int (nI (st9))), (2, .int (nI (k))), (3, .int (nI (u)))] := hl
  refine lv_iconst (v := nI 0) hx hb dX0_drawRow_0 (by decide) ?_
  refine lv_istore (lv' := [(4, .int (nI (0))), (0, .ref (hc)), (1, .int (nI (st9))), (2, .int (nI (k))), (3, .int (nI (u)))]) hx hb dX0_drawRow_1 hl (by decide) rfl (fun ls hl => ?_)
  refine lv_iconst (v := nI 0) hx hb dX0_drawRow_3 (by decide) ?_
  refine lv_istore (lv' := [(5, .int (nI (0))), (4, .int (nI (0))), (0, .ref (hc)), (1, .int (nI (st9))), (2, .int (nI (k))), (3, .int (nI (u)))]) hx hb dX0_drawRow_4 hl (by decide) rfl (fun ls hl => ?_)
  refine lv_iconst (v := nI 0) hx hb dX0_drawRow_6 (by decide) ?_
  refine lv_istore (lv' := [(6, .int (nI (0))), (5, .int (nI (0))), (4, .int (nI (0))), (0, .ref (hc)), (1, .int (nI (st9))), (2, .int (nI (k))), (3, .int (nI (u)))]) hx hb dX0_drawRow_7 hl (by decide) rfl (fun ls hl => ?_)
  have L9 : ∀ (nL9 : Nat) (c : Nat) (hc9 : c ≤ nw) (hmL9 : nw - c < nL9) (H : Heap) (locs : List Loc), kV G ([(hc, .inr (1, [.int (nI (rc)), .ref (as1), .ref (ay1), .int (nI (nw))])), (as1, aN (kcI G) 1600 (drawP F st9 k u nw c)), (ay1, aN (kcI G) 40 Y)] ++ wr) H → va_S (kA G) s.heap H locs → ∀ (ls : Array Slot), lv_has ls 8 [(0, .ref (hc)), (1, .int (nI (st9))), (2, .int (nI (k))), (3, .int (nI (u))), (4, .int (nI (sumN (fun c => if stV k u nw c = 1 then 2 else 3) c))), (5, .int (nI (c % (k + u)))), (6, .int (nI (c)))] → W pp l ee (headSpec wsX0_drawRow ({ frames := 0, cells := 0, slots := 0, locals := 0 } : Room)).room s m [.ref (hc), .int (nI (st9)), .int (nI (k)), .int (nI (u))].toArray below meth cc0 H locs 0 0 (MQ below (kQi G (S := Unit) (fun q _ => q = nI (ynV k u nw)) (fun _ => [(hc, .inr (1, [.int (nI (rc)), .ref (as1), .ref (ay1), .int (nI (nw))])), (as1, aN (kcI G) 1600 (drawP F st9 k u nw nw)), (ay1, aN (kcI G) 40 Y)] ++ wr)) [.ref (hc), .int (nI (st9)), .int (nI (k)), .int (nI (u))].toArray s 0 0 (kA G)) (F0 m 9 ls []) := by
    intro nL9
    induction nL9 with
    | zero => intro c hc9 hmL9; exact absurd hmL9 (Nat.not_lt_zero _)
    | succ nL9 ihL9 =>
      intro c hc9 hmL9 H locs hV hS ls hl
      refine lv_iload hx hb dX0_drawRow_9 (lv_at hl 6 rfl) ?_
      refine lv_aload_n hx hb dX0_drawRow_11 rfl (lv_at hl 0 rfl) ?_
      refine va_get (D := kD G) (ci := 1) (v := .int (nI (nw))) (C := RX0) (T := TX0) (N := 4) hx hb hts hinX0 hown hK hV.1 0 rfl rfl 3 (by decide) (hts (Cond.fieldLink RX0 22 "Yarncourt$Chart" "nextWidth" "I") (List.mem_of_getElem? (i := 1) rfl)) (fun _ h9 => h9) rfl dX0_drawRow_12 ?_
      refine kn_ge (tgt := 85) hx hb (by omega) (by omega) dX0_drawRow_15 (by decide) (fun c15 => ?_) (fun c15 => ?_)
      · refine lv_iload hx hb dX0_drawRow_85 (lv_at hl 4 rfl) ?_
        have e9 : c = nw := by omega
        rw [e9] at hV
        exact W.iret (v := nI (sumN (fun c => if stV k u nw c = 1 then 2 else 3) c)) hx hb hrt (fun t ht hW => ⟨⟨_, (), rfl, by rw [e9]; rfl, kV_eq ht hV⟩, hS.F ht⟩) hS.2.2 dX0_drawRow_87
      · have hmo := Nat.mod_lt c (show 0 < k + u by omega)
        refine lv_iload hx hb dX0_drawRow_18 (lv_at hl 5 rfl) ?_
        refine lv_iload_n hx hb dX0_drawRow_20 rfl (lv_at hl 2 rfl) ?_
        refine kn_ge (tgt := 28) hx hb (by omega) (by omega) dX0_drawRow_21 (by decide) (fun c21 => ?_) (fun c21 => ?_)
        · refine lv_iconst (v := nI 0) hx hb dX0_drawRow_28 (by decide) ?_
          refine lv_istore (lv' := [(7, .int (nI (0))), (0, .ref (hc)), (1, .int (nI (st9))), (2, .int (nI (k))), (3, .int (nI (u))), (4, .int (nI (sumN (fun c => if stV k u nw c = 1 then 2 else 3) c))), (5, .int (nI (c % (k + u)))), (6, .int (nI (c)))]) hx hb dX0_drawRow_29 hl (by decide) rfl (fun ls hl => ?_)
          have hv9 : stV k u nw c = 2 := by rw [stV_in c15, if_neg (by omega)]
          refine lv_aload_n hx hb dX0_drawRow_31 rfl (lv_at hl 1 rfl) ?_
          refine va_get (D := kD G) (ci := 1) (v := .ref (as1)) (C := RX0) (T := TX0) (N := 4) hx hb hts hinX0 hown hK hV.1 0 rfl rfl 1 (by decide) (hts (Cond.fieldLink RX0 15 "Yarncourt$Chart" "stitches" "[I") (List.mem_of_getElem? (i := 2) rfl)) (fun _ h9 => h9) rfl dX0_drawRow_32 ?_
          refine lv_iload_n hx hb dX0_drawRow_35 rfl (lv_at hl 2 rfl) ?_
          refine lv_iload hx hb dX0_drawRow_36 (lv_at hl 7 rfl) ?_
          refine kn_add hx hb dX0_drawRow_38 ?_
          refine lv_iload hx hb dX0_drawRow_39 (lv_at hl 0 rfl) ?_
          refine kn_if_eq_lit (tgt := 48) hx hb (by decide) dX0_drawRow_41 (by decide) ?_
          refine lv_iconst (v := nI 2) hx hb dX0_drawRow_48 (by decide) ?_
          refine kn_iast (G := G) (n := 1600) (g := drawP F st9 k u nw c) (j := st9 + c) (v := 2) hx hb hK hV hS 1 rfl (by omega) (by decide) dX0_drawRow_49 (fun H locs hV hS => ?_)
          have hV : kV G ([(hc, .inr (1, [.int (nI (rc)), .ref (as1), .ref (ay1), .int (nI (nw))])), (as1, aN (kcI G) 1600 (va_up (drawP F st9 k u nw c) (st9 + c) 2)), (ay1, aN (kcI G) 40 Y)] ++ wr) H := hV
          refine lv_iload hx hb dX0_drawRow_50 (lv_at hl 5 rfl) ?_
          refine lv_iload hx hb dX0_drawRow_52 (lv_at hl 0 rfl) ?_
          refine kn_if_eq_lit (tgt := 61) hx hb (by decide) dX0_drawRow_54 (by decide) ?_
          refine lv_iconst (v := nI 3) hx hb dX0_drawRow_61 (by decide) ?_
          refine kn_add hx hb dX0_drawRow_62 ?_
          refine lv_istore (lv' := [(4, .int (nI ((sumN (fun c => if stV k u nw c = 1 then 2 else 3) c) + 3))), (7, .int (nI (0))), (0, .ref (hc)), (1, .int (nI (st9))), (2, .int (nI (k))), (3, .int (nI (u))), (5, .int (nI (c % (k + u)))), (6, .int (nI (c)))]) hx hb dX0_drawRow_63 hl (by decide) rfl (fun ls hl => ?_)
          refine lv_iinc (lv' := [(5, .int (nI (c % (k + u) + 1))), (4, .int (nI ((sumN (fun c => if stV k u nw c = 1 then 2 else 3) c) + 3))), (7, .int (nI (0))), (0, .ref (hc)), (1, .int (nI (st9))), (2, .int (nI (k))), (3, .int (nI (u))), (6, .int (nI (c)))]) hx hb dX0_drawRow_65 hl (k := 6) rfl (kn_iinc (c % (k + u)) 1) (by decide) rfl (fun ls hl => ?_)
          refine lv_iload hx hb dX0_drawRow_68 (lv_at hl 0 rfl) ?_
          refine lv_iload_n hx hb dX0_drawRow_70 rfl (lv_at hl 5 rfl) ?_
          refine lv_iload_n hx hb dX0_drawRow_71 rfl (lv_at hl 6 rfl) ?_
          refine kn_add hx hb dX0_drawRow_72 ?_
          refine kn_ne (tgt := 79) hx hb (by omega) (by omega) dX0_drawRow_73 (by decide) (fun c73 => ?_) (fun c73 => ?_)
          · refine lv_iinc (lv' := [(6, .int (nI (c + 1))), (5, .int (nI (c % (k + u) + 1))), (4, .int (nI ((sumN (fun c => if stV k u nw c = 1 then 2 else 3) c) + 3))), (7, .int (nI (0))), (0, .ref (hc)), (1, .int (nI (st9))), (2, .int (nI (k))), (3, .int (nI (u)))]) hx hb dX0_drawRow_79 hl (k := 7) rfl (kn_iinc c 1) (by decide) rfl (fun ls hl => ?_)
            refine lv_goto (tgt := 9) hx hb dX0_drawRow_82 (by decide) ?_
            exact ihL9 (c + 1) (by omega) (by omega) _ _ (by rw [show drawP F st9 k u nw (c + 1) = va_up (drawP F st9 k u nw c) (st9 + c) 2 from drawP_s hv9]; exact hV) hS ls (by rw [show sumN (fun c => if stV k u nw c = 1 then 2 else 3) (c + 1) = sumN (fun c => if stV k u nw c = 1 then 2 else 3) c + 3 from by rw [sumN_s, hv9]; rfl, (modS (show 0 < k + u by omega)).2 c73]; exact lv_sub hl [4, 5, 6, 7, 2, 1, 0] rfl)
          · refine lv_iconst (v := nI 0) hx hb dX0_drawRow_76 (by decide) ?_
            refine lv_istore (lv' := [(5, .int (nI (0))), (4, .int (nI ((sumN (fun c => if stV k u nw c = 1 then 2 else 3) c) + 3))), (7, .int (nI (0))), (0, .ref (hc)), (1, .int (nI (st9))), (2, .int (nI (k))), (3, .int (nI (u))), (6, .int (nI (c)))]) hx hb dX0_drawRow_77 hl (by decide) rfl (fun ls hl => ?_)
            refine lv_iinc (lv' := [(6, .int (nI (c + 1))), (5, .int (nI (0))), (4, .int (nI ((sumN (fun c => if stV k u nw c = 1 then 2 else 3) c) + 3))), (7, .int (nI (0))), (0, .ref (hc)), (1, .int (nI (st9))), (2, .int (nI (k))), (3, .int (nI (u)))]) hx hb dX0_drawRow_79 hl (k := 7) rfl (kn_iinc c 1) (by decide) rfl (fun ls hl => ?_)
            refine lv_goto (tgt := 9) hx hb dX0_drawRow_82 (by decide) ?_
            exact ihL9 (c + 1) (by omega) (by omega) _ _ (by rw [show drawP F st9 k u nw (c + 1) = va_up (drawP F st9 k u nw c) (st9 + c) 2 from drawP_s hv9]; exact hV) hS ls (by rw [show sumN (fun c => if stV k u nw c = 1 then 2 else 3) (c + 1) = sumN (fun c => if stV k u nw c = 1 then 2 else 3) c + 3 from by rw [sumN_s, hv9]; rfl, (modS (show 0 < k + u by omega)).1 c73]; exact lv_sub hl [4, 5, 6, 7, 2, 1, 0] rfl)
        · refine lv_iconst (v := nI 1) hx hb dX0_drawRow_24 (by decide) ?_
          refine lv_goto (tgt := 29) hx hb dX0_drawRow_25 (by decide) ?_
          refine lv_istore (lv' := [(7, .int (nI (1))), (0, .ref (hc)), (1, .int (nI (st9))), (2, .int (nI (k))), (3, .int (nI (u))), (4, .int (nI (sumN (fun c => if stV k u nw c = 1 then 2 else 3) c))), (5, .int (nI (c % (k + u)))), (6, .int (nI (c)))]) hx hb dX0_drawRow_29 hl (by decide) rfl (fun ls hl => ?_)
          have hv9 : stV k u nw c = 1 := by rw [stV_in c15, if_pos c21]
          refine lv_aload_n hx hb dX0_drawRow_31 rfl (lv_at hl 1 rfl) ?_
          refine va_get (D := kD G) (ci := 1) (v := .ref (as1)) (C := RX0) (T := TX0) (N := 4) hx hb hts hinX0 hown hK hV.1 0 rfl rfl 1 (by decide) (hts (Cond.fieldLink RX0 15 "Yarncourt$Chart" "stitches" "[I") (List.mem_of_getElem? (i := 2) rfl)) (fun _ h9 => h9) rfl dX0_drawRow_32 ?_
          refine lv_iload_n hx hb dX0_drawRow_35 rfl (lv_at hl 2 rfl) ?_
          refine lv_iload hx hb dX0_drawRow_36 (lv_at hl 7 rfl) ?_
          refine kn_add hx hb dX0_drawRow_38 ?_
          refine lv_iload hx hb dX0_drawRow_39 (lv_at hl 0 rfl) ?_
          refine kn_if_eq_not hx hb (by decide) dX0_drawRow_41 ?_ 48 (by decide)
          refine lv_iconst (v := nI 1) hx hb dX0_drawRow_44 (by decide) ?_
          refine lv_goto (tgt := 49) hx hb dX0_drawRow_45 (by decide) ?_
          refine kn_iast (G := G) (n := 1600) (g := drawP F st9 k u nw c) (j := st9 + c) (v := 1) hx hb hK hV hS 1 rfl (by omega) (by decide) dX0_drawRow_49 (fun H locs hV hS => ?_)
          have hV : kV G ([(hc, .inr (1, [.int (nI (rc)), .ref (as1), .ref (ay1), .int (nI (nw))])), (as1, aN (kcI G) 1600 (va_up (drawP F st9 k u nw c) (st9 + c) 1)), (ay1, aN (kcI G) 40 Y)] ++ wr) H := hV
          refine lv_iload hx hb dX0_drawRow_50 (lv_at hl 5 rfl) ?_
          refine lv_iload hx hb dX0_drawRow_52 (lv_at hl 0 rfl) ?_
          refine kn_if_eq_not hx hb (by decide) dX0_drawRow_54 ?_ 61 (by decide)
          refine lv_iconst (v := nI 2) hx hb dX0_drawRow_57 (by decide) ?_
          refine lv_goto (tgt := 62) hx hb dX0_drawRow_58 (by decide) ?_
          refine kn_add hx hb dX0_drawRow_62 ?_
          refine lv_istore (lv' := [(4, .int (nI ((sumN (fun c => if stV k u nw c = 1 then 2 else 3) c) + 2))), (7, .int (nI (1))), (0, .ref (hc)), (1, .int (nI (st9))), (2, .int (nI (k))), (3, .int (nI (u))), (5, .int (nI (c % (k + u)))), (6, .int (nI (c)))]) hx hb dX0_drawRow_63 hl (by decide) rfl (fun ls hl => ?_)
          refine lv_iinc (lv' := [(5, .int (nI (c % (k + u) + 1))), (4, .int (nI ((sumN (fun c => if stV k u nw c = 1 then 2 else 3) c) + 2))), (7, .int (nI (1))), (0, .ref (hc)), (1, .int (nI (st9))), (2, .int (nI (k))), (3, .int (nI (u))), (6, .int (nI (c)))]) hx hb dX0_drawRow_65 hl (k := 6) rfl (kn_iinc (c % (k + u)) 1) (by decide) rfl (fun ls hl => ?_)
          refine lv_iload hx hb dX0_drawRow_68 (lv_at hl 0 rfl) ?_
          refine lv_iload_n hx hb dX0_drawRow_70 rfl (lv_at hl 5 rfl) ?_
          refine lv_iload_n hx hb dX0_drawRow_71 rfl (lv_at hl 6 rfl) ?_
          refine kn_add hx hb dX0_drawRow_72 ?_
          refine kn_ne (tgt := 79) hx hb (by omega) (by omega) dX0_drawRow_73 (by decide) (fun c73 => ?_) (fun c73 => ?_)
          · refine lv_iinc (lv' := [(6, .int (nI (c + 1))), (5, .int (nI (c % (k + u) + 1))), (4, .int (nI ((sumN (fun c => if stV k u nw c = 1 then 2 else 3) c) + 2))), (7, .int (nI (1))), (0, .ref (hc)), (1, .int (nI (st9))), (2, .int (nI (k))), (3, .int (nI (u)))]) hx hb dX0_drawRow_79 hl (k := 7) rfl (kn_iinc c 1) (by decide) rfl (fun ls hl => ?_)
            refine lv_goto (tgt := 9) hx hb dX0_drawRow_82 (by decide) ?_
            exact ihL9 (c + 1) (by omega) (by omega) _ _ (by rw [show drawP F st9 k u nw (c + 1) = va_up (drawP F st9 k u nw c) (st9 + c) 1 from drawP_s hv9]; exact hV) hS ls (by rw [show sumN (fun c => if stV k u nw c = 1 then 2 else 3) (c + 1) = sumN (fun c => if stV k u nw c = 1 then 2 else 3) c + 2 from by rw [sumN_s, hv9]; rfl, (modS (show 0 < k + u by omega)).2 c73]; exact lv_sub hl [4, 5, 6, 7, 2, 1, 0] rfl)
          · refine lv_iconst (v := nI 0) hx hb dX0_drawRow_76 (by decide) ?_
            refine lv_istore (lv' := [(5, .int (nI (0))), (4, .int (nI ((sumN (fun c => if stV k u nw c = 1 then 2 else 3) c) + 2))), (7, .int (nI (1))), (0, .ref (hc)), (1, .int (nI (st9))), (2, .int (nI (k))), (3, .int (nI (u))), (6, .int (nI (c)))]) hx hb dX0_drawRow_77 hl (by decide) rfl (fun ls hl => ?_)
            refine lv_iinc (lv' := [(6, .int (nI (c + 1))), (5, .int (nI (0))), (4, .int (nI ((sumN (fun c => if stV k u nw c = 1 then 2 else 3) c) + 2))), (7, .int (nI (1))), (0, .ref (hc)), (1, .int (nI (st9))), (2, .int (nI (k))), (3, .int (nI (u)))]) hx hb dX0_drawRow_79 hl (k := 7) rfl (kn_iinc c 1) (by decide) rfl (fun ls hl => ?_)
            refine lv_goto (tgt := 9) hx hb dX0_drawRow_82 (by decide) ?_
            exact ihL9 (c + 1) (by omega) (by omega) _ _ (by rw [show drawP F st9 k u nw (c + 1) = va_up (drawP F st9 k u nw c) (st9 + c) 1 from drawP_s hv9]; exact hV) hS ls (by rw [show sumN (fun c => if stV k u nw c = 1 then 2 else 3) (c + 1) = sumN (fun c => if stV k u nw c = 1 then 2 else 3) c + 2 from by rw [sumN_s, hv9]; rfl, (modS (show 0 < k + u by omega)).1 c73]; exact lv_sub hl [4, 5, 6, 7, 2, 1, 0] rfl)
  exact L9 ((nw - 0) + 1) 0 (by omega) (Nat.lt_succ_self _) _ _ (by rw [drawP_0]; exact hV) hS ls (by rw [Nat.zero_mod]; exact lv_sub hl [3, 4, 5, 6, 2, 1, 0] rfl)
set_option maxHeartbeats 4000000 in
set_option maxRecDepth 100000 in
theorem c_X0_drawLine (l : Launch) (G : kG) (hc : Nat) (as1 : Nat) (ay1 : Nat) (rc : Nat) (nw : Nat) (F : Nat → Nat) (Y : Nat → Nat) (wr : va_W) (k : Nat) (u : Nat) (z : Int) (t : Nat) (hrc : rc + t ≤ 40) (hnw : 1 ≤ nw ∧ nw ≤ 40) (hku : 1 ≤ k + u) (hk9 : k ≤ 9) (hu9 : u ≤ 9) (hz : -3 ≤ z ∧ z ≤ 3) : Met l yX0_drawLine wsX0_drawLine ({ frames := 3, cells := 0, slots := 0, locals := 64 } : Room) (kPc G [.ref (hc), .int (nI (k)), .int (nI (u)), .int (zI (z)), .int (nI (t))] ([(hc, .inr (1, [.int (nI (rc)), .ref (as1), .ref (ay1), .int (nI (nw))])), (as1, aN (kcI G) 1600 F), (ay1, aN (kcI G) 40 Y)] ++ wr)) (kQv G (S := Unit) (fun _ => True) (fun _ => [(hc, .inr (1, [.int (nI (rc + t)), .ref (as1), .ref (ay1), .int (nI (wN nw z t))])), (as1, aN (kcI G) 1600 (dlF F k u z nw rc t)), (ay1, aN (kcI G) 40 (dlY Y k u z nw rc t))] ++ wr)) 0 0 (kA G) := by
  refine Met.ofW (cc := cX0_drawLine) (maxL := 6) (ret := none) (by decide) rfl ?_
  intro pp ee s m args below meth cc0 s₁ B hml hv
  obtain ⟨rfl, hE, hV⟩ := hv
  have hK := hE.1
  have hx := B.exec
  have hb := B.bytes
  have hrt := B.returns
  have hts := atoms_spec (ws := wsX0_drawLine) B.pre
  have hown : s.vm.findClass RX0 = some m.cls := findClass_of_methodNamed B.named
  have hlocks := B.notSynchronized
  have hF : CallFix pp m cc0 cX0_drawLine 6 s _ wsX0_drawLine RX0 := ⟨hx, hb, hml, hown, hts⟩
  have hinX0 : ∀ w ∈ wsX00, w ∈ wsX0_drawLine := tb_of [23, 24, 25, 26] rfl
  have hS : va_S (kA G) s.heap s.heap [] := va_S.rf
  have hB0 := hE.2.1
  have hl := lv_entry ([.ref (hc), .int (nI (k)), .int (nI (u)), .int (zI (z)), .int (nI (t))]) (n := 6) (Nat.le_of_ble_eq_true rfl)
  rw [lg_entry_eq]
  generalize (lg_sl ([.ref (hc), .int (nI (k)), .int (nI (u)), .int (zI (z)), .int (nI (t))]) ++ List.replicate (6 - (lg_sl ([.ref (hc), .int (nI (k)), .int (nI (u)), .int (zI (z)), .int (nI (t))])).length) Slot.unset).toArray = ls at hl ⊢
  have hl : lv_has ls 6 [(0, .ref (hc)), (1, .int (nI (k))), (2, .int (nI (u))), (3, .int (zI (z))), (4, .int (nI (t)))] := hl
  refine lv_iconst (v := nI 0) hx hb dX0_drawLine_0 (by decide) ?_
  refine lv_istore (lv' := [(5, .int (nI (0))), (0, .ref (hc)), (1, .int (nI (k))), (2, .int (nI (u))), (3, .int (zI (z))), (4, .int (nI (t)))]) hx hb dX0_drawLine_1 hl (by decide) rfl (fun ls hl => ?_)
  have L3 : ∀ (nL3 : Nat) (i : Nat) (hi : i ≤ t) (hmL3 : t - i < nL3) (H : Heap) (locs : List Loc), kV G ([(hc, .inr (1, [.int (nI (rc + i)), .ref (as1), .ref (ay1), .int (nI (wN nw z i))])), (as1, aN (kcI G) 1600 (dlF F k u z nw rc i)), (ay1, aN (kcI G) 40 (dlY Y k u z nw rc i))] ++ wr) H → va_S (kA G) s.heap H locs → ∀ (ls : Array Slot), lv_has ls 6 [(0, .ref (hc)), (1, .int (nI (k))), (2, .int (nI (u))), (3, .int (zI (z))), (4, .int (nI (t))), (5, .int (nI (i)))] → W pp l ee (headSpec wsX0_drawLine ({ frames := 3, cells := 0, slots := 0, locals := 64 } : Room)).room s m [.ref (hc), .int (nI (k)), .int (nI (u)), .int (zI (z)), .int (nI (t))].toArray below meth cc0 H locs 0 0 (MQ below (kQv G (S := Unit) (fun _ => True) (fun _ => [(hc, .inr (1, [.int (nI (rc + t)), .ref (as1), .ref (ay1), .int (nI (wN nw z t))])), (as1, aN (kcI G) 1600 (dlF F k u z nw rc t)), (ay1, aN (kcI G) 40 (dlY Y k u z nw rc t))] ++ wr)) [.ref (hc), .int (nI (k)), .int (nI (u)), .int (zI (z)), .int (nI (t))].toArray s 0 0 (kA G)) (F0 m 3 ls []) := by
    intro nL3
    induction nL3 with
    | zero => intro i hi hmL3; exact absurd hmL3 (Nat.not_lt_zero _)
    | succ nL3 ihL3 =>
      intro i hi hmL3 H locs hV hS ls hl
      refine lv_iload hx hb dX0_drawLine_3 (lv_at hl 5 rfl) ?_
      refine lv_iload hx hb dX0_drawLine_5 (lv_at hl 4 rfl) ?_
      refine kn_ge (tgt := 69) hx hb (by omega) (by omega) dX0_drawLine_7 (by decide) (fun c7 => ?_) (fun c7 => ?_)
      · have e9 : i = t := by omega
        rw [e9] at hV
        exact W.vret hx hb hrt (fun t ht hW => ⟨⟨(), rfl, trivial, kV_eq ht hV⟩, hS.F ht⟩) hS.2.2 dX0_drawLine_69
      · have hwi := wN_in (z := z) hnw i
        refine lv_aload_n hx hb dX0_drawLine_10 rfl (lv_at hl 0 rfl) ?_
        refine va_get (D := kD G) (ci := 1) (v := .int (nI (rc + i))) (C := RX0) (T := TX0) (N := 4) hx hb hts hinX0 hown hK hV.1 0 rfl rfl 0 (by decide) (hts (Cond.fieldLink RX0 9 "Yarncourt$Chart" "rowCount" "I") (List.mem_of_getElem? (i := 1) rfl)) (fun _ h9 => h9) rfl dX0_drawLine_11 ?_
        refine lv_bipush (v := nI 40) hx hb dX0_drawLine_14 (by decide) ?_
        refine kn_ge (tgt := 69) hx hb (by omega) (by decide) dX0_drawLine_16 (by decide) (fun z => absurd z (by omega)) (fun c16 => ?_)
        refine lv_aload_n hx hb dX0_drawLine_19 rfl (lv_at hl 0 rfl) ?_
        refine va_get (D := kD G) (ci := 1) (v := .ref (ay1)) (C := RX0) (T := TX0) (N := 4) hx hb hts hinX0 hown hK hV.1 0 rfl rfl 2 (by decide) (hts (Cond.fieldLink RX0 19 "Yarncourt$Chart" "yarnOfRow" "[I") (List.mem_of_getElem? (i := 2) rfl)) (fun _ h9 => h9) rfl dX0_drawLine_20 ?_
        refine lv_aload_n hx hb dX0_drawLine_23 rfl (lv_at hl 0 rfl) ?_
        refine va_get (D := kD G) (ci := 1) (v := .int (nI (rc + i))) (C := RX0) (T := TX0) (N := 4) hx hb hts hinX0 hown hK hV.1 0 rfl rfl 0 (by decide) (hts (Cond.fieldLink RX0 9 "Yarncourt$Chart" "rowCount" "I") (List.mem_of_getElem? (i := 1) rfl)) (fun _ h9 => h9) rfl dX0_drawLine_24 ?_
        refine lv_aload_n hx hb dX0_drawLine_27 rfl (lv_at hl 0 rfl) ?_
        refine lv_aload_n hx hb dX0_drawLine_28 rfl (lv_at hl 0 rfl) ?_
        refine va_get (D := kD G) (ci := 1) (v := .int (nI (rc + i))) (C := RX0) (T := TX0) (N := 4) hx hb hts hinX0 hown hK hV.1 0 rfl rfl 0 (by decide) (hts (Cond.fieldLink RX0 9 "Yarncourt$Chart" "rowCount" "I") (List.mem_of_getElem? (i := 1) rfl)) (fun _ h9 => h9) rfl dX0_drawLine_29 ?_
        refine lv_bipush (v := nI 40) hx hb dX0_drawLine_32 (by decide) ?_
        refine kn_mul hx hb dX0_drawLine_34 ?_
        refine lv_iload_n hx hb dX0_drawLine_35 rfl (lv_at hl 1 rfl) ?_
        refine lv_iload_n hx hb dX0_drawLine_36 rfl (lv_at hl 2 rfl) ?_
        refine kc_i (va_runV (As := [.int (nI ((rc + i) * 40)), .int (nI (k)), .int (nI (u))]) (rest := [.int (nI (rc + i)), .ref (ay1)]) hF (c_X0_drawRow l G hc as1 ay1 (rc + i) (wN nw z i) (dlF F k u z nw rc i) (dlY Y k u z nw rc i) wr ((rc + i) * 40) k u (by omega) (by omega) (by omega) (by omega) (by omega)) (cwV 3 hts gX0_drawLine_X0_drawRow rfl rfl rfl (by decide +kernel) ⟨Nat.le_of_ble_eq_true rfl, Nat.le_of_ble_eq_true rfl⟩) (kPreV hE hS hV 0 rfl rfl) rfl rfl hl.1 rfl (lv_room (Nat.le_of_ble_eq_true rfl)) dX0_drawLine_37 ⟨Nat.le_of_ble_eq_true rfl, Nat.le_of_ble_eq_true rfl⟩) hS (fun r_3 u_2 H locs hp_1 hV hS => ?_)
        subst hp_1
        have hV : kV G ([(hc, .inr (1, [.int (nI (rc + i)), .ref (as1), .ref (ay1), .int (nI (wN nw z i))])), (as1, aN (kcI G) 1600 (drawP (dlF F k u z nw rc i) ((rc + i) * 40) k u (wN nw z i) (wN nw z i))), (ay1, aN (kcI G) 40 (dlY Y k u z nw rc i))] ++ wr) H := hV
        refine kn_iast (G := G) (n := 40) (g := dlY Y k u z nw rc i) (j := rc + i) (v := ynV k u (wN nw z i)) hx hb hK hV hS 2 rfl (by omega) (by decide) dX0_drawLine_40 (fun H locs hV hS => ?_)
        have hV : kV G ([(hc, .inr (1, [.int (nI (rc + i)), .ref (as1), .ref (ay1), .int (nI (wN nw z i))])), (as1, aN (kcI G) 1600 (drawP (dlF F k u z nw rc i) ((rc + i) * 40) k u (wN nw z i) (wN nw z i))), (ay1, aN (kcI G) 40 (va_up (dlY Y k u z nw rc i) (rc + i) (ynV k u (wN nw z i))))] ++ wr) H := hV
        refine lv_aload_n hx hb dX0_drawLine_41 rfl (lv_at hl 0 rfl) ?_
        refine lv_aload_n hx hb dX0_drawLine_42 rfl (lv_at hl 0 rfl) ?_
        refine va_get (D := kD G) (ci := 1) (v := .int (nI (wN nw z i))) (C := RX0) (T := TX0) (N := 4) hx hb hts hinX0 hown hK hV.1 0 rfl rfl 3 (by decide) (hts (Cond.fieldLink RX0 22 "Yarncourt$Chart" "nextWidth" "I") (List.mem_of_getElem? (i := 3) rfl)) (fun _ h9 => h9) rfl dX0_drawLine_43 ?_
        refine lv_iload_n hx hb dX0_drawLine_46 rfl (lv_at hl 3 rfl) ?_
        refine kc_i (va_runSN (As := [.int (nI (wN nw z i)), .int (zI (z))]) (rest := [.ref (hc)]) hF (c_X5_widthAfter l G (wN nw z i) z ([(hc, .inr (1, [.int (nI (rc + i)), .ref (as1), .ref (ay1), .int (nI (wN nw z i))])), (as1, aN (kcI G) 1600 (drawP (dlF F k u z nw rc i) ((rc + i) * 40) k u (wN nw z i) (wN nw z i))), (ay1, aN (kcI G) 40 (va_up (dlY Y k u z nw rc i) (rc + i) (ynV k u (wN nw z i))))] ++ wr) (by omega) (by omega)) ⟨va_cnB 2 hts gX0_drawLine_X5_widthAfter_n29 rfl rfl rfl (hE.2.2.1 (Cond.methodLinkNest "Yarncourt$Chart" 29 yX5_widthAfter "Yarncourt") (by decide +kernel)) (hts (Cond.initialized RX5) (List.mem_of_getElem? (i := 11) rfl)) (by decide +kernel) ⟨Nat.le_of_ble_eq_true rfl, Nat.le_of_ble_eq_true rfl⟩, (hts (Cond.static yX5_widthAfter) (List.mem_of_getElem? (i := 10) rfl)), trivial⟩ (kPreS hE hS hV) rfl rfl hl.1 rfl (lv_room (Nat.le_of_ble_eq_true rfl)) dX0_drawLine_47 ⟨Nat.le_of_ble_eq_true rfl, Nat.le_of_ble_eq_true rfl⟩) hS (fun r_6 u_5 H locs hp_4 hV hS => ?_)
        subst hp_4
        have hV : kV G ([(hc, .inr (1, [.int (nI (rc + i)), .ref (as1), .ref (ay1), .int (nI (wN nw z i))])), (as1, aN (kcI G) 1600 (drawP (dlF F k u z nw rc i) ((rc + i) * 40) k u (wN nw z i) (wN nw z i))), (ay1, aN (kcI G) 40 (va_up (dlY Y k u z nw rc i) (rc + i) (ynV k u (wN nw z i))))] ++ wr) H := hV
        refine va_put (D := kD G) (ci := 1) (v := .int (nI (clampW (((wN nw z i) : Int) + z)))) (ty := .int) (C := RX0) (T := TX0) (N := 4) hx hb hts hinX0 tyX0 tyX0_ok nmX0 hown hK hV.1 hV.2 hS 0 rfl rfl 3 (by decide) (hts (Cond.fieldLink RX0 22 "Yarncourt$Chart" "nextWidth" "I") (List.mem_of_getElem? (i := 3) rfl)) (fun _ h9 => h9) rfl (by decide +kernel) rfl rfl (Nat.le_of_ble_eq_true rfl) dX0_drawLine_50 (fun H locs hP hD hS => ?_)
        have hV : kV G ([(hc, .inr (1, [.int (nI (rc + i)), .ref (as1), .ref (ay1), .int (nI (clampW (((wN nw z i) : Int) + z)))])), (as1, aN (kcI G) 1600 (drawP (dlF F k u z nw rc i) ((rc + i) * 40) k u (wN nw z i) (wN nw z i))), (ay1, aN (kcI G) 40 (va_up (dlY Y k u z nw rc i) (rc + i) (ynV k u (wN nw z i))))] ++ wr) H := ⟨hP, hD⟩
        refine lv_aload_n hx hb dX0_drawLine_53 rfl (lv_at hl 0 rfl) ?_
        refine lv_dup hx hb dX0_drawLine_54 rfl ?_
        refine va_get (D := kD G) (ci := 1) (v := .int (nI (rc + i))) (C := RX0) (T := TX0) (N := 4) hx hb hts hinX0 hown hK hV.1 0 rfl rfl 0 (by decide) (hts (Cond.fieldLink RX0 9 "Yarncourt$Chart" "rowCount" "I") (List.mem_of_getElem? (i := 1) rfl)) (fun _ h9 => h9) rfl dX0_drawLine_55 ?_
        refine lv_iconst (v := nI 1) hx hb dX0_drawLine_58 (by decide) ?_
        refine kn_add hx hb dX0_drawLine_59 ?_
        refine va_put (D := kD G) (ci := 1) (v := .int (nI ((rc + i) + 1))) (ty := .int) (C := RX0) (T := TX0) (N := 4) hx hb hts hinX0 tyX0 tyX0_ok nmX0 hown hK hV.1 hV.2 hS 0 rfl rfl 0 (by decide) (hts (Cond.fieldLink RX0 9 "Yarncourt$Chart" "rowCount" "I") (List.mem_of_getElem? (i := 1) rfl)) (fun _ h9 => h9) rfl (by decide +kernel) rfl rfl (Nat.le_of_ble_eq_true rfl) dX0_drawLine_60 (fun H locs hP hD hS => ?_)
        have hV : kV G ([(hc, .inr (1, [.int (nI ((rc + i) + 1)), .ref (as1), .ref (ay1), .int (nI (clampW (((wN nw z i) : Int) + z)))])), (as1, aN (kcI G) 1600 (drawP (dlF F k u z nw rc i) ((rc + i) * 40) k u (wN nw z i) (wN nw z i))), (ay1, aN (kcI G) 40 (va_up (dlY Y k u z nw rc i) (rc + i) (ynV k u (wN nw z i))))] ++ wr) H := ⟨hP, hD⟩
        refine lv_iinc (lv' := [(5, .int (nI (i + 1))), (0, .ref (hc)), (1, .int (nI (k))), (2, .int (nI (u))), (3, .int (zI (z))), (4, .int (nI (t)))]) hx hb dX0_drawLine_63 hl (k := 5) rfl (kn_iinc i 1) (by decide) rfl (fun ls hl => ?_)
        refine lv_goto (tgt := 3) hx hb dX0_drawLine_66 (by decide) ?_
        exact ihL3 (i + 1) (by omega) (by omega) _ _ hV hS ls (lv_sub hl [1, 2, 3, 4, 5, 0] rfl)
  exact L3 ((t - 0) + 1) 0 (by omega) (Nat.lt_succ_self _) _ _ hV hS ls (lv_sub hl [1, 2, 3, 4, 5, 0] rfl)
set_option maxHeartbeats 4000000 in
set_option maxRecDepth 100000 in
theorem c_X0_stitchAt (l : Launch) (G : kG) (hc : Nat) (as1 : Nat) (ay1 : Nat) (rc : Nat) (nw : Nat) (F : Nat → Nat) (Y : Nat → Nat) (wr : va_W) (r : Nat) (c : Nat) (hr9 : r < 40) (hcc : c < 2 ^ 31) : Met l yX0_stitchAt wsX0_stitchAt ({ frames := 0, cells := 0, slots := 0, locals := 0 } : Room) (kPc G [.ref (hc), .int (nI (r)), .int (nI (c))] ([(hc, .inr (1, [.int (nI (rc)), .ref (as1), .ref (ay1), .int (nI (nw))])), (as1, aN (kcI G) 1600 F), (ay1, aN (kcI G) 40 Y)] ++ wr)) (kQi G (S := Unit) (fun q _ => q = nI (if c < 40 then F (r * 40 + c) else 0)) (fun _ => [(hc, .inr (1, [.int (nI (rc)), .ref (as1), .ref (ay1), .int (nI (nw))])), (as1, aN (kcI G) 1600 F), (ay1, aN (kcI G) 40 Y)] ++ wr)) 0 0 (kA G) := by
  refine Met.ofW (cc := cX0_stitchAt) (maxL := 3) (ret := (some .int)) (by decide) rfl ?_
  intro pp ee s m args below meth cc0 s₁ B hml hv
  obtain ⟨rfl, hE, hV⟩ := hv
  have hK := hE.1
  have hx := B.exec
  have hb := B.bytes
  have hrt := B.returns
  have hts := atoms_spec (ws := wsX0_stitchAt) B.pre
  have hown : s.vm.findClass RX0 = some m.cls := findClass_of_methodNamed B.named
  have hlocks := B.notSynchronized
  have hF : CallFix pp m cc0 cX0_stitchAt 3 s _ wsX0_stitchAt RX0 := ⟨hx, hb, hml, hown, hts⟩
  have hinX0 : ∀ w ∈ wsX00, w ∈ wsX0_stitchAt := tb_of [2, 3, 4, 5] rfl
  have hS : va_S (kA G) s.heap s.heap [] := va_S.rf
  have hB0 := hE.2.1
  have hl := lv_entry ([.ref (hc), .int (nI (r)), .int (nI (c))]) (n := 3) (Nat.le_of_ble_eq_true rfl)
  rw [lg_entry_eq]
  generalize (lg_sl ([.ref (hc), .int (nI (r)), .int (nI (c))]) ++ List.replicate (3 - (lg_sl ([.ref (hc), .int (nI (r)), .int (nI (c))])).length) Slot.unset).toArray = ls at hl ⊢
  have hl : lv_has ls 3 [(0, .ref (hc)), (1, .int (nI (r))), (2, .int (nI (c)))] := hl
  refine lv_iload_n hx hb dX0_stitchAt_0 rfl (lv_at hl 2 rfl) ?_
  refine lv_bipush (v := nI 40) hx hb dX0_stitchAt_1 (by decide) ?_
  refine kn_ge (tgt := 20) hx hb (by omega) (by decide) dX0_stitchAt_3 (by decide) (fun c3 => ?_) (fun c3 => ?_)
  · refine lv_iconst (v := nI 0) hx hb dX0_stitchAt_20 (by decide) ?_
    exact W.iret (v := nI 0) hx hb hrt (fun t ht hW => ⟨⟨_, (), rfl, by rw [if_neg (by omega)], kV_eq ht hV⟩, hS.F ht⟩) hS.2.2 dX0_stitchAt_21
  · refine lv_aload_n hx hb dX0_stitchAt_6 rfl (lv_at hl 0 rfl) ?_
    refine va_get (D := kD G) (ci := 1) (v := .ref (as1)) (C := RX0) (T := TX0) (N := 4) hx hb hts hinX0 hown hK hV.1 0 rfl rfl 1 (by decide) (hts (Cond.fieldLink RX0 15 "Yarncourt$Chart" "stitches" "[I") (List.mem_of_getElem? (i := 1) rfl)) (fun _ h9 => h9) rfl dX0_stitchAt_7 ?_
    refine lv_iload_n hx hb dX0_stitchAt_10 rfl (lv_at hl 1 rfl) ?_
    refine lv_bipush (v := nI 40) hx hb dX0_stitchAt_11 (by decide) ?_
    refine kn_mul hx hb dX0_stitchAt_13 ?_
    refine lv_iload_n hx hb dX0_stitchAt_14 rfl (lv_at hl 2 rfl) ?_
    refine kn_add hx hb dX0_stitchAt_15 ?_
    refine kn_iald (G := G) (n := 1600) (g := F) (j := (r * 40) + c) hx hb hK hV 1 rfl (by omega) (by decide) dX0_stitchAt_16 ?_
    refine lv_goto (tgt := 21) hx hb dX0_stitchAt_17 (by decide) ?_
    exact W.iret (v := nI (F ((r * 40) + c))) hx hb hrt (fun t ht hW => ⟨⟨_, (), rfl, by rw [if_pos c3], kV_eq ht hV⟩, hS.F ht⟩) hS.2.2 dX0_stitchAt_21
set_option maxHeartbeats 4000000 in
set_option maxRecDepth 100000 in
theorem c_X0_yarnOf (l : Launch) (G : kG) (hc : Nat) (as1 : Nat) (ay1 : Nat) (rc : Nat) (nw : Nat) (F : Nat → Nat) (Y : Nat → Nat) (wr : va_W) (r : Nat) (hr9 : r < 40) : Met l yX0_yarnOf wsX0_yarnOf ({ frames := 0, cells := 0, slots := 0, locals := 0 } : Room) (kPc G [.ref (hc), .int (nI (r))] ([(hc, .inr (1, [.int (nI (rc)), .ref (as1), .ref (ay1), .int (nI (nw))])), (as1, aN (kcI G) 1600 F), (ay1, aN (kcI G) 40 Y)] ++ wr)) (kQi G (S := Unit) (fun q _ => q = nI (Y r)) (fun _ => [(hc, .inr (1, [.int (nI (rc)), .ref (as1), .ref (ay1), .int (nI (nw))])), (as1, aN (kcI G) 1600 F), (ay1, aN (kcI G) 40 Y)] ++ wr)) 0 0 (kA G) := by
  refine Met.ofW (cc := cX0_yarnOf) (maxL := 2) (ret := (some .int)) (by decide) rfl ?_
  intro pp ee s m args below meth cc0 s₁ B hml hv
  obtain ⟨rfl, hE, hV⟩ := hv
  have hK := hE.1
  have hx := B.exec
  have hb := B.bytes
  have hrt := B.returns
  have hts := atoms_spec (ws := wsX0_yarnOf) B.pre
  have hown : s.vm.findClass RX0 = some m.cls := findClass_of_methodNamed B.named
  have hlocks := B.notSynchronized
  have hF : CallFix pp m cc0 cX0_yarnOf 2 s _ wsX0_yarnOf RX0 := ⟨hx, hb, hml, hown, hts⟩
  have hinX0 : ∀ w ∈ wsX00, w ∈ wsX0_yarnOf := tb_of [2, 3, 4, 5] rfl
  have hS : va_S (kA G) s.heap s.heap [] := va_S.rf
  have hB0 := hE.2.1
  have hl := lv_entry ([.ref (hc), .int (nI (r))]) (n := 2) (Nat.le_of_ble_eq_true rfl)
  rw [lg_entry_eq]
  generalize (lg_sl ([.ref (hc), .int (nI (r))]) ++ List.replicate (2 - (lg_sl ([.ref (hc), .int (nI (r))])).length) Slot.unset).toArray = ls at hl ⊢
  have hl : lv_has ls 2 [(0, .ref (hc)), (1, .int (nI (r)))] := hl
  refine lv_aload_n hx hb dX0_yarnOf_0 rfl (lv_at hl 0 rfl) ?_
  refine va_get (D := kD G) (ci := 1) (v := .ref (ay1)) (C := RX0) (T := TX0) (N := 4) hx hb hts hinX0 hown hK hV.1 0 rfl rfl 2 (by decide) (hts (Cond.fieldLink RX0 19 "Yarncourt$Chart" "yarnOfRow" "[I") (List.mem_of_getElem? (i := 1) rfl)) (fun _ h9 => h9) rfl dX0_yarnOf_1 ?_
  refine lv_iload_n hx hb dX0_yarnOf_4 rfl (lv_at hl 1 rfl) ?_
  refine kn_iald (G := G) (n := 40) (g := Y) (j := r) hx hb hK hV 2 rfl (by omega) (by decide) dX0_yarnOf_5 ?_
  exact W.iret (v := nI (Y r)) hx hb hrt (fun t ht hW => ⟨⟨_, (), rfl, rfl, kV_eq ht hV⟩, hS.F ht⟩) hS.2.2 dX0_yarnOf_6
set_option maxHeartbeats 4000000 in
set_option maxRecDepth 100000 in
theorem c_X0_yarnOfAllRows (l : Launch) (G : kG) (hc : Nat) (as1 : Nat) (ay1 : Nat) (rc : Nat) (nw : Nat) (F : Nat → Nat) (Y : Nat → Nat) (wr : va_W) (hrc : rc ≤ 40) : Met l yX0_yarnOfAllRows wsX0_yarnOfAllRows ({ frames := 0, cells := 0, slots := 0, locals := 0 } : Room) (kPc G [.ref (hc)] ([(hc, .inr (1, [.int (nI (rc)), .ref (as1), .ref (ay1), .int (nI (nw))])), (as1, aN (kcI G) 1600 F), (ay1, aN (kcI G) 40 Y)] ++ wr)) (kQi G (S := Unit) (fun q _ => q = nI (sumN Y rc)) (fun _ => [(hc, .inr (1, [.int (nI (rc)), .ref (as1), .ref (ay1), .int (nI (nw))])), (as1, aN (kcI G) 1600 F), (ay1, aN (kcI G) 40 Y)] ++ wr)) 0 0 (kA G) := by
  refine Met.ofW (cc := cX0_yarnOfAllRows) (maxL := 3) (ret := (some .int)) (by decide) rfl ?_
  intro pp ee s m args below meth cc0 s₁ B hml hv
  obtain ⟨rfl, hE, hV⟩ := hv
  have hK := hE.1
  have hx := B.exec
  have hb := B.bytes
  have hrt := B.returns
  have hts := atoms_spec (ws := wsX0_yarnOfAllRows) B.pre
  have hown : s.vm.findClass RX0 = some m.cls := findClass_of_methodNamed B.named
  have hlocks := B.notSynchronized
  have hF : CallFix pp m cc0 cX0_yarnOfAllRows 3 s _ wsX0_yarnOfAllRows RX0 := ⟨hx, hb, hml, hown, hts⟩
  have hinX0 : ∀ w ∈ wsX00, w ∈ wsX0_yarnOfAllRows := tb_of [3, 4, 5, 6] rfl
  have hS : va_S (kA G) s.heap s.heap [] := va_S.rf
  have hB0 := hE.2.1
  have hl := lv_entry ([.ref (hc)]) (n := 3) (Nat.le_of_ble_eq_true rfl)
  rw [lg_entry_eq]
  generalize (lg_sl ([.ref (hc)]) ++ List.replicate (3 - (lg_sl ([.ref (hc)])).length) Slot.unset).toArray = ls at hl ⊢
  have hl : lv_has ls 3 [(0, .ref (hc))] := hl
  refine lv_iconst (v := nI 0) hx hb dX0_yarnOfAllRows_0 (by decide) ?_
  refine lv_istore_n (lv' := [(1, .int (nI (0))), (0, .ref (hc))]) hx hb dX0_yarnOfAllRows_1 rfl hl (by decide) rfl (fun ls hl => ?_)
  refine lv_iconst (v := nI 0) hx hb dX0_yarnOfAllRows_2 (by decide) ?_
  refine lv_istore_n (lv' := [(2, .int (nI (0))), (1, .int (nI (0))), (0, .ref (hc))]) hx hb dX0_yarnOfAllRows_3 rfl hl (by decide) rfl (fun ls hl => ?_)
  have L4 : ∀ (nL4 : Nat) (i : Nat) (hi : i ≤ rc) (hmL4 : rc - i < nL4) (H : Heap) (locs : List Loc), kV G ([(hc, .inr (1, [.int (nI (rc)), .ref (as1), .ref (ay1), .int (nI (nw))])), (as1, aN (kcI G) 1600 F), (ay1, aN (kcI G) 40 Y)] ++ wr) H → va_S (kA G) s.heap H locs → ∀ (ls : Array Slot), lv_has ls 3 [(0, .ref (hc)), (1, .int (nI (sumN Y i))), (2, .int (nI (i)))] → W pp l ee (headSpec wsX0_yarnOfAllRows ({ frames := 0, cells := 0, slots := 0, locals := 0 } : Room)).room s m [.ref (hc)].toArray below meth cc0 H locs 0 0 (MQ below (kQi G (S := Unit) (fun q _ => q = nI (sumN Y rc)) (fun _ => [(hc, .inr (1, [.int (nI (rc)), .ref (as1), .ref (ay1), .int (nI (nw))])), (as1, aN (kcI G) 1600 F), (ay1, aN (kcI G) 40 Y)] ++ wr)) [.ref (hc)].toArray s 0 0 (kA G)) (F0 m 4 ls []) := by
    intro nL4
    induction nL4 with
    | zero => intro i hi hmL4; exact absurd hmL4 (Nat.not_lt_zero _)
    | succ nL4 ihL4 =>
      intro i hi hmL4 H locs hV hS ls hl
      refine lv_iload_n hx hb dX0_yarnOfAllRows_4 rfl (lv_at hl 2 rfl) ?_
      refine lv_aload_n hx hb dX0_yarnOfAllRows_5 rfl (lv_at hl 0 rfl) ?_
      refine va_get (D := kD G) (ci := 1) (v := .int (nI (rc))) (C := RX0) (T := TX0) (N := 4) hx hb hts hinX0 hown hK hV.1 0 rfl rfl 0 (by decide) (hts (Cond.fieldLink RX0 9 "Yarncourt$Chart" "rowCount" "I") (List.mem_of_getElem? (i := 1) rfl)) (fun _ h9 => h9) rfl dX0_yarnOfAllRows_6 ?_
      refine kn_ge (tgt := 27) hx hb (by omega) (by omega) dX0_yarnOfAllRows_9 (by decide) (fun c9 => ?_) (fun c9 => ?_)
      · refine lv_iload_n hx hb dX0_yarnOfAllRows_27 rfl (lv_at hl 1 rfl) ?_
        exact W.iret (v := nI (sumN Y i)) hx hb hrt (fun t ht hW => ⟨⟨_, (), rfl, by rw [show i = rc from by omega], kV_eq ht hV⟩, hS.F ht⟩) hS.2.2 dX0_yarnOfAllRows_28
      · refine lv_iload_n hx hb dX0_yarnOfAllRows_12 rfl (lv_at hl 1 rfl) ?_
        refine lv_aload_n hx hb dX0_yarnOfAllRows_13 rfl (lv_at hl 0 rfl) ?_
        refine va_get (D := kD G) (ci := 1) (v := .ref (ay1)) (C := RX0) (T := TX0) (N := 4) hx hb hts hinX0 hown hK hV.1 0 rfl rfl 2 (by decide) (hts (Cond.fieldLink RX0 19 "Yarncourt$Chart" "yarnOfRow" "[I") (List.mem_of_getElem? (i := 2) rfl)) (fun _ h9 => h9) rfl dX0_yarnOfAllRows_14 ?_
        refine lv_iload_n hx hb dX0_yarnOfAllRows_17 rfl (lv_at hl 2 rfl) ?_
        refine kn_iald (G := G) (n := 40) (g := Y) (j := i) hx hb hK hV 2 rfl (by omega) (by decide) dX0_yarnOfAllRows_18 ?_
        refine kn_add hx hb dX0_yarnOfAllRows_19 ?_
        refine lv_istore_n (lv' := [(1, .int (nI ((sumN Y i) + (Y i)))), (0, .ref (hc)), (2, .int (nI (i)))]) hx hb dX0_yarnOfAllRows_20 rfl hl (by decide) rfl (fun ls hl => ?_)
        refine lv_iinc (lv' := [(2, .int (nI (i + 1))), (1, .int (nI ((sumN Y i) + (Y i)))), (0, .ref (hc))]) hx hb dX0_yarnOfAllRows_21 hl (k := 2) rfl (kn_iinc i 1) (by decide) rfl (fun ls hl => ?_)
        refine lv_goto (tgt := 4) hx hb dX0_yarnOfAllRows_24 (by decide) ?_
        exact ihL4 (i + 1) (by omega) (by omega) _ _ hV hS ls (lv_sub hl [2, 1, 0] rfl)
  exact L4 ((rc - 0) + 1) 0 (by omega) (Nat.lt_succ_self _) _ _ hV hS ls (lv_sub hl [2, 1, 0] rfl)
set_option maxHeartbeats 4000000 in
set_option maxRecDepth 100000 in
theorem c_X0_isSameAs (l : Launch) (G : kG) (hc : Nat) (as1 : Nat) (ay1 : Nat) (rc : Nat) (nw : Nat) (F : Nat → Nat) (Y : Nat → Nat) (hc2 : Nat) (as2 : Nat) (ay2 : Nat) (rc2 : Nat) (nw2 : Nat) (F2 : Nat → Nat) (Y2 : Nat → Nat) (wr : va_W) (hrc : rc ≤ 40) (hrc2 : rc2 ≤ 40) (hFa : ∀ x, F x ≤ 2) (hFb : ∀ x, F2 x ≤ 2) : Met l yX0_isSameAs wsX0_isSameAs ({ frames := 0, cells := 0, slots := 0, locals := 0 } : Room) (kPc G [.ref (hc), .ref (hc2)] ([(hc, .inr (1, [.int (nI (rc)), .ref (as1), .ref (ay1), .int (nI (nw))])), (as1, aN (kcI G) 1600 F), (ay1, aN (kcI G) 40 Y), (hc2, .inr (1, [.int (nI (rc2)), .ref (as2), .ref (ay2), .int (nI (nw2))])), (as2, aN (kcI G) 1600 F2), (ay2, aN (kcI G) 40 Y2)] ++ wr)) (kQi G (S := Unit) (fun q _ => q = nI (kb (rc = rc2 ∧ ∀ x, x < rc * 40 → F x = F2 x))) (fun _ => [(hc, .inr (1, [.int (nI (rc)), .ref (as1), .ref (ay1), .int (nI (nw))])), (as1, aN (kcI G) 1600 F), (ay1, aN (kcI G) 40 Y), (hc2, .inr (1, [.int (nI (rc2)), .ref (as2), .ref (ay2), .int (nI (nw2))])), (as2, aN (kcI G) 1600 F2), (ay2, aN (kcI G) 40 Y2)] ++ wr)) 0 0 (kA G) := by
  refine Met.ofW (cc := cX0_isSameAs) (maxL := 3) (ret := (some .boolean)) (by decide) rfl ?_
  intro pp ee s m args below meth cc0 s₁ B hml hv
  obtain ⟨rfl, hE, hV⟩ := hv
  have hK := hE.1
  have hx := B.exec
  have hb := B.bytes
  have hrt := B.returns
  have hts := atoms_spec (ws := wsX0_isSameAs) B.pre
  have hown : s.vm.findClass RX0 = some m.cls := findClass_of_methodNamed B.named
  have hlocks := B.notSynchronized
  have hF : CallFix pp m cc0 cX0_isSameAs 3 s _ wsX0_isSameAs RX0 := ⟨hx, hb, hml, hown, hts⟩
  have hinX0 : ∀ w ∈ wsX00, w ∈ wsX0_isSameAs := tb_of [3, 4, 5, 6] rfl
  have hS : va_S (kA G) s.heap s.heap [] := va_S.rf
  have hB0 := hE.2.1
  have hl := lv_entry ([.ref (hc), .ref (hc2)]) (n := 3) (Nat.le_of_ble_eq_true rfl)
  rw [lg_entry_eq]
  generalize (lg_sl ([.ref (hc), .ref (hc2)]) ++ List.replicate (3 - (lg_sl ([.ref (hc), .ref (hc2)])).length) Slot.unset).toArray = ls at hl ⊢
  have hl : lv_has ls 3 [(0, .ref (hc)), (1, .ref (hc2))] := hl
  refine lv_aload_n hx hb dX0_isSameAs_0 rfl (lv_at hl 0 rfl) ?_
  refine va_get (D := kD G) (ci := 1) (v := .int (nI (rc))) (C := RX0) (T := TX0) (N := 4) hx hb hts hinX0 hown hK hV.1 0 rfl rfl 0 (by decide) (hts (Cond.fieldLink RX0 9 "Yarncourt$Chart" "rowCount" "I") (List.mem_of_getElem? (i := 1) rfl)) (fun _ h9 => h9) rfl dX0_isSameAs_1 ?_
  refine lv_aload_n hx hb dX0_isSameAs_4 rfl (lv_at hl 1 rfl) ?_
  refine va_get (D := kD G) (ci := 1) (v := .int (nI (rc2))) (C := RX0) (T := TX0) (N := 4) hx hb hts hinX0 hown hK hV.1 3 rfl rfl 0 (by decide) (hts (Cond.fieldLink RX0 9 "Yarncourt$Chart" "rowCount" "I") (List.mem_of_getElem? (i := 1) rfl)) (fun _ h9 => h9) rfl dX0_isSameAs_5 ?_
  refine kn_eq (tgt := 13) hx hb (by omega) (by omega) dX0_isSameAs_8 (by decide) (fun c8 => ?_) (fun c8 => ?_)
  · refine lv_iconst (v := nI 0) hx hb dX0_isSameAs_13 (by decide) ?_
    refine lv_istore_n (lv' := [(2, .int (nI (0))), (0, .ref (hc)), (1, .ref (hc2))]) hx hb dX0_isSameAs_14 rfl hl (by decide) rfl (fun ls hl => ?_)
    have L15 : ∀ (nL15 : Nat) (i : Nat) (hi : i ≤ rc * 40) (hal : ∀ x, x < i → F x = F2 x) (hmL15 : rc * 40 - i < nL15) (H : Heap) (locs : List Loc), kV G ([(hc, .inr (1, [.int (nI (rc)), .ref (as1), .ref (ay1), .int (nI (nw))])), (as1, aN (kcI G) 1600 F), (ay1, aN (kcI G) 40 Y), (hc2, .inr (1, [.int (nI (rc2)), .ref (as2), .ref (ay2), .int (nI (nw2))])), (as2, aN (kcI G) 1600 F2), (ay2, aN (kcI G) 40 Y2)] ++ wr) H → va_S (kA G) s.heap H locs → ∀ (ls : Array Slot), lv_has ls 3 [(0, .ref (hc)), (1, .ref (hc2)), (2, .int (nI (i)))] → W pp l ee (headSpec wsX0_isSameAs ({ frames := 0, cells := 0, slots := 0, locals := 0 } : Room)).room s m [.ref (hc), .ref (hc2)].toArray below meth cc0 H locs 0 0 (MQ below (kQi G (S := Unit) (fun q _ => q = nI (kb (rc = rc2 ∧ ∀ x, x < rc * 40 → F x = F2 x))) (fun _ => [(hc, .inr (1, [.int (nI (rc)), .ref (as1), .ref (ay1), .int (nI (nw))])), (as1, aN (kcI G) 1600 F), (ay1, aN (kcI G) 40 Y), (hc2, .inr (1, [.int (nI (rc2)), .ref (as2), .ref (ay2), .int (nI (nw2))])), (as2, aN (kcI G) 1600 F2), (ay2, aN (kcI G) 40 Y2)] ++ wr)) [.ref (hc), .ref (hc2)].toArray s 0 0 (kA G)) (F0 m 15 ls []) := by
      intro nL15
      induction nL15 with
      | zero => intro i hi hal hmL15; exact absurd hmL15 (Nat.not_lt_zero _)
      | succ nL15 ihL15 =>
        intro i hi hal hmL15 H locs hV hS ls hl
        refine lv_iload_n hx hb dX0_isSameAs_15 rfl (lv_at hl 2 rfl) ?_
        refine lv_aload_n hx hb dX0_isSameAs_16 rfl (lv_at hl 0 rfl) ?_
        refine va_get (D := kD G) (ci := 1) (v := .int (nI (rc))) (C := RX0) (T := TX0) (N := 4) hx hb hts hinX0 hown hK hV.1 0 rfl rfl 0 (by decide) (hts (Cond.fieldLink RX0 9 "Yarncourt$Chart" "rowCount" "I") (List.mem_of_getElem? (i := 1) rfl)) (fun _ h9 => h9) rfl dX0_isSameAs_17 ?_
        refine lv_bipush (v := nI 40) hx hb dX0_isSameAs_20 (by decide) ?_
        refine kn_mul hx hb dX0_isSameAs_22 ?_
        refine kn_ge (tgt := 49) hx hb (by omega) (by omega) dX0_isSameAs_23 (by decide) (fun c23 => ?_) (fun c23 => ?_)
        · refine lv_iconst (v := nI 1) hx hb dX0_isSameAs_49 (by decide) ?_
          exact W.zret (v := nI 1) hx hb hrt (by decide) (fun t ht hW => ⟨⟨_, (), rfl, by rw [kb_t ⟨c8, fun x hx => hal x (by omega)⟩], kV_eq ht hV⟩, hS.F ht⟩) hS.2.2 dX0_isSameAs_50
        · have hf1 := hFa i
          have hf2 := hFb i
          refine lv_aload_n hx hb dX0_isSameAs_26 rfl (lv_at hl 0 rfl) ?_
          refine va_get (D := kD G) (ci := 1) (v := .ref (as1)) (C := RX0) (T := TX0) (N := 4) hx hb hts hinX0 hown hK hV.1 0 rfl rfl 1 (by decide) (hts (Cond.fieldLink RX0 15 "Yarncourt$Chart" "stitches" "[I") (List.mem_of_getElem? (i := 2) rfl)) (fun _ h9 => h9) rfl dX0_isSameAs_27 ?_
          refine lv_iload_n hx hb dX0_isSameAs_30 rfl (lv_at hl 2 rfl) ?_
          refine kn_iald (G := G) (n := 1600) (g := F) (j := i) hx hb hK hV 1 rfl (by omega) (by decide) dX0_isSameAs_31 ?_
          refine lv_aload_n hx hb dX0_isSameAs_32 rfl (lv_at hl 1 rfl) ?_
          refine va_get (D := kD G) (ci := 1) (v := .ref (as2)) (C := RX0) (T := TX0) (N := 4) hx hb hts hinX0 hown hK hV.1 3 rfl rfl 1 (by decide) (hts (Cond.fieldLink RX0 15 "Yarncourt$Chart" "stitches" "[I") (List.mem_of_getElem? (i := 2) rfl)) (fun _ h9 => h9) rfl dX0_isSameAs_33 ?_
          refine lv_iload_n hx hb dX0_isSameAs_36 rfl (lv_at hl 2 rfl) ?_
          refine kn_iald (G := G) (n := 1600) (g := F2) (j := i) hx hb hK hV 4 rfl (by omega) (by decide) dX0_isSameAs_37 ?_
          refine kn_eq (tgt := 43) hx hb (by omega) (by omega) dX0_isSameAs_38 (by decide) (fun c38 => ?_) (fun c38 => ?_)
          · refine lv_iinc (lv' := [(2, .int (nI (i + 1))), (0, .ref (hc)), (1, .ref (hc2))]) hx hb dX0_isSameAs_43 hl (k := 2) rfl (kn_iinc i 1) (by decide) rfl (fun ls hl => ?_)
            refine lv_goto (tgt := 15) hx hb dX0_isSameAs_46 (by decide) ?_
            exact ihL15 (i + 1) (by omega) (lt_s hal c38) (by omega) _ _ hV hS ls (lv_sub hl [1, 2, 0] rfl)
          · refine lv_iconst (v := nI 0) hx hb dX0_isSameAs_41 (by decide) ?_
            exact W.zret (v := nI 0) hx hb hrt (by decide) (fun t ht hW => ⟨⟨_, (), rfl, by rw [kb_f (fun z => c38 (z.2 i (by omega)))], kV_eq ht hV⟩, hS.F ht⟩) hS.2.2 dX0_isSameAs_42
    exact L15 ((rc * 40 - 0) + 1) 0 (by omega) (fun x hx => absurd hx (Nat.not_lt_zero _)) (Nat.lt_succ_self _) _ _ hV hS ls (lv_sub hl [1, 2, 0] rfl)
  · refine lv_iconst (v := nI 0) hx hb dX0_isSameAs_11 (by decide) ?_
    exact W.zret (v := nI 0) hx hb hrt (by decide) (fun t ht hW => ⟨⟨_, (), rfl, by rw [kb_f (fun z => c8 z.1)], kV_eq ht hV⟩, hS.F ht⟩) hS.2.2 dX0_isSameAs_12
end
section
section KNEW2
variable {p : Program} {l : Launch} {e : Env} {R : Room} {s : State} {m : MethodId} {args : Array Value} {below : List Frame} {meth : Method} {c : Code} {H : Heap} {locs : List Loc} {cells slots : Nat} {Q : State → Prop}
variable {cc : ByteArray} {pc : Nat} {ls : Array Slot} {rest : List Value} {G : kG} {H0 : Heap} {a wr : va_W}
theorem kn_new {own C : String} {T : u_T} {N ci index : Nat} {Ts : List Cond} (hexec : p.tables.exec = Jvm.exec) (hb : c.code = cc) (hts : ∀ w ∈ Ts, w.before args s = true) (hin : ∀ w ∈ u_ws C T N, w ∈ Ts) (ty : Nat → FieldType) (hty : ∀ k, k < N → parseFieldDescriptor (T k).2.2.1 = some (ty k)) (hown : s.vm.findClass own = some m.cls) (hcl : (Cond.classLink own index C).before args s = true) (hinst : (Cond.instantiable C N).before args s = true) (hini : (Cond.initialized C).before args s = true)
    (hK : va_K (kD G) vwCl (kT G) s) (hV : kV G (a ++ wr) H) (hS : va_S (kA G) H0 H locs) (hA : kB G ≤ H0.size) (hc : vwCl[ci]? = some (C, T, N)) {fs : List Value} (hfs : ∀ j, j < N → defaultValue (ty j) = vp_V fs j) (hcells : cells + 1 ≤ R.cells) (hslots : slots + N ≤ R.slots) (hdg : decode cc pc = .ok (.new index, 3))
    (kk : ∀ (q : Nat) (H1 : Heap), kV G ((a ++ [(q, .inr (ci, fs))]) ++ wr) H1 → va_S (kA G) H0 H1 locs → W p l e R s m args below meth c H1 locs (cells + 1) (slots + N) Q (F0 m (pc + 3) ls (.ref q :: rest))) : W p l e R s m args below meth c H locs cells slots Q (F0 m pc ls rest) :=
  va_new hexec hb hts hin ty hty hown hcl hinst hini hK hV.1 hV.2 hS (fun q h => Nat.le_trans hA h) hc hfs hcells hslots hdg (fun q H1 hP hD hS1 => kk q H1 (kV_in ⟨hP, hD⟩) hS1)
end KNEW2
theorem mx_oft {a : Nat} (h : a < 2 ^ 31) : (if nI 1 < nI a then nI a else nI 1) = nI (if a < 1 then 1 else a) := by
  by_cases c : a < 1
  · rw [if_pos c, if_neg (fun q => by have := (nI_ltI (by decide) h).mp q; omega)]
  · rw [if_neg c]
    by_cases d : a = 1
    · subst d; rw [if_neg (by decide)]
    · rw [if_pos ((nI_ltI (by decide) h).mpr (by omega))]
theorem goS_w1 {t : Nat → Nat} {sh : Nat → Int} {b w r : Nat} : (goS t sh b w (r + 1)).2.2 = clampW (((goS t sh b w r).2.2 : Int) + sh (goS t sh b w r).1) := by
  by_cases h : (goS t sh b w r).2.1 = 1
  · rw [show goS t sh b w (r + 1) = _ from if_pos h]
  · rw [show goS t sh b w (r + 1) = _ from if_neg h]
/-- the row that stands j rows into line i -/
theorem goS_in {t : Nat → Nat} {sh : Nat → Int} {b w n i j : Nat} (ht : ∀ k, k < n → 1 ≤ t (b + k)) (hi : i < n) (hj : j < t (b + i)) : (goS t sh b w (sumN (fun k => t (b + k)) i + j)).1 = b + i := by
  have hle := sumN_le (f := fun k => t (b + k)) (show i + 1 ≤ n from hi)
  have hs := sumN_s (fun k => t (b + k)) i
  obtain ⟨x, hx, e1, e2, e3, e4⟩ := goS_at (t := t) (sh := sh) (b := b) (w := w) (sumN (fun k => t (b + k)) i + j) n ht (by omega)
  have hs2 := sumN_s (fun k => t (b + k)) x
  rw [e1]
  rcases Nat.lt_trichotomy x i with q | q | q
  · have := sumN_le (f := fun k => t (b + k)) (show x + 1 ≤ i from q)
    omega
  · rw [q]
  · have := sumN_le (f := fun k => t (b + k)) (show i + 1 ≤ x from q)
    omega
/-- a pattern's own numbers: rows, next width, lines; the lines; the chart -/
abbrev kP : Type := (Nat × Nat × Nat) × ((Nat → Nat) × (Nat → Nat) × (Nat → Int) × (Nat → Nat)) × (Nat → Nat) × (Nat → Nat)
def adP (q : kP) (k u : Nat) (z : Int) (t : Nat) : kP := ((q.1.1 + t, wN q.1.2.1 z t, q.1.2.2 + 1), (va_up q.2.1.1 q.1.2.2 k, va_up q.2.1.2.1 q.1.2.2 u, va_up q.2.1.2.2.1 q.1.2.2 z, va_up q.2.1.2.2.2 q.1.2.2 t), dlF q.2.2.1 k u z q.1.2.1 q.1.1 t, dlY q.2.2.2 k u z q.1.2.1 q.1.1 t)
def adN (q : kP) (K U : Nat → Nat) (Z : Nat → Int) (T : Nat → Nat) (g : Nat) : Nat → kP
  | 0 => q
  | i + 1 => adP (adN q K U Z T g i) (K i) (U i) (Z i) (oftN (T i) g)
theorem adN_at {q : kP} {K U : Nat → Nat} {Z : Nat → Int} {T : Nat → Nat} {g : Nat} (hw : 1 ≤ q.1.2.1 ∧ q.1.2.1 ≤ 40) : ∀ i, (adN q K U Z T g i).1.1 = q.1.1 + sumN (fun i => oftN (T i) g) i ∧ (adN q K U Z T g i).1.2.2 = q.1.2.2 + i ∧ 1 ≤ (adN q K U Z T g i).1.2.1 ∧ (adN q K U Z T g i).1.2.1 ≤ 40 := by
  intro i
  induction i with
  | zero => exact ⟨rfl, rfl, hw⟩
  | succ i ih =>
    obtain ⟨a1, a2, a3⟩ := ih
    refine ⟨?_, ?_, wN_in a3 _⟩
    · show (adN q K U Z T g i).1.1 + oftN (T i) g = _
      rw [a1, sumN_s]; omega
    · show (adN q K U Z T g i).1.2.2 + 1 = _
      rw [a2]; omega
/-- rows knitted: how many, how far, the yarn left -/
noncomputable def kuN (rc g : Nat) (ok : Prop) (Y : Nat → Nat) : Nat → Nat → Nat → Nat × Nat × Nat
  | 0, d, y => (0, d, y)
  | n + 1, d, y => kif (d < rc ∧ ok ∧ g * Y d ≤ y) ((kuN rc g ok Y n (d + 1) (y - g * Y d)).1 + 1, (kuN rc g ok Y n (d + 1) (y - g * Y d)).2) (0, d, y)
theorem kuN_s (rc g : Nat) (ok : Prop) (Y : Nat → Nat) (n d y : Nat) : kuN rc g ok Y (n + 1) d y = kif (d < rc ∧ ok ∧ g * Y d ≤ y) ((kuN rc g ok Y n (d + 1) (y - g * Y d)).1 + 1, (kuN rc g ok Y n (d + 1) (y - g * Y d)).2) (0, d, y) := rfl
end
section
set_option maxHeartbeats 4000000 in
set_option maxRecDepth 100000 in
theorem c_X3_append (l : Launch) (G : kG) (hp : Nat) (ak : Nat) (au : Nat) (az : Nat) (at1 : Nat) (w : Nat) (n : Nat) (K : Nat → Nat) (U : Nat → Nat) (Z : Nat → Int) (T : Nat → Nat) (wr : va_W) (k : Nat) (u : Nat) (z : Int) (t : Nat) (hn : n < 6) : Met l yX3_append wsX3_append ({ frames := 0, cells := 0, slots := 0, locals := 0 } : Room) (kPc G [.ref (hp), .int (nI (k)), .int (nI (u)), .int (zI (z)), .int (nI (t))] ([(hp, .inr (4, [.int (nI (w)), .ref (ak), .ref (au), .ref (az), .ref (at1), .int (nI (n))])), (ak, aN (kcI G) 6 K), (au, aN (kcI G) 6 U), (az, aZ (kcI G) 6 Z), (at1, aN (kcI G) 6 T)] ++ wr)) (kQv G (S := Unit) (fun _ => True) (fun _ => [(hp, .inr (4, [.int (nI (w)), .ref (ak), .ref (au), .ref (az), .ref (at1), .int (nI (n + 1))])), (ak, aN (kcI G) 6 (va_up K n k)), (au, aN (kcI G) 6 (va_up U n u)), (az, aZ (kcI G) 6 (va_up Z n z)), (at1, aN (kcI G) 6 (va_up T n t))] ++ wr)) 0 0 (kA G) := by
  refine Met.ofW (cc := cX3_append) (maxL := 5) (ret := none) (by decide) rfl ?_
  intro pp ee s m args below meth cc0 s₁ B hml hv
  obtain ⟨rfl, hE, hV⟩ := hv
  have hK := hE.1
  have hx := B.exec
  have hb := B.bytes
  have hrt := B.returns
  have hts := atoms_spec (ws := wsX3_append) B.pre
  have hown : s.vm.findClass RX3 = some m.cls := findClass_of_methodNamed B.named
  have hlocks := B.notSynchronized
  have hF : CallFix pp m cc0 cX3_append 5 s _ wsX3_append RX3 := ⟨hx, hb, hml, hown, hts⟩
  have hinX3 : ∀ w ∈ wsX30, w ∈ wsX3_append := tb_of [6, 7, 8, 9, 10, 11] rfl
  have hS : va_S (kA G) s.heap s.heap [] := va_S.rf
  have hB0 := hE.2.1
  have hl := lv_entry ([.ref (hp), .int (nI (k)), .int (nI (u)), .int (zI (z)), .int (nI (t))]) (n := 5) (Nat.le_of_ble_eq_true rfl)
  rw [lg_entry_eq]
  generalize (lg_sl ([.ref (hp), .int (nI (k)), .int (nI (u)), .int (zI (z)), .int (nI (t))]) ++ List.replicate (5 - (lg_sl ([.ref (hp), .int (nI (k)), .int (nI (u)), .int (zI (z)), .int (nI (t))])).length) Slot.unset).toArray = ls at hl ⊢
  have hl : lv_has ls 5 [(0, .ref (hp)), (1, .int (nI (k))), (2, .int (nI (u))), (3, .int (zI (z))), (4, .int (nI (t)))] := hl
  refine lv_aload_n hx hb dX3_append_0 rfl (lv_at hl 0 rfl) ?_
  refine va_get (D := kD G) (ci := 4) (v := .int (nI (n))) (C := RX3) (T := TX3) (N := 6) hx hb hts hinX3 hown hK hV.1 0 rfl rfl 5 (by decide) (hts (Cond.fieldLink RX3 24 "Yarncourt$Program" "lineCount" "I") (List.mem_of_getElem? (i := 1) rfl)) (fun _ h9 => h9) rfl dX3_append_1 ?_
  refine lv_bipush (v := nI 6) hx hb dX3_append_4 (by decide) ?_
  refine kn_ge (tgt := 60) hx hb (by omega) (by decide) dX3_append_6 (by decide) (fun z => absurd z (by omega)) (fun c6 => ?_)
  refine lv_aload_n hx hb dX3_append_9 rfl (lv_at hl 0 rfl) ?_
  refine va_get (D := kD G) (ci := 4) (v := .ref (ak)) (C := RX3) (T := TX3) (N := 6) hx hb hts hinX3 hown hK hV.1 0 rfl rfl 1 (by decide) (hts (Cond.fieldLink RX3 9 "Yarncourt$Program" "knits" "[I") (List.mem_of_getElem? (i := 2) rfl)) (fun _ h9 => h9) rfl dX3_append_10 ?_
  refine lv_aload_n hx hb dX3_append_13 rfl (lv_at hl 0 rfl) ?_
  refine va_get (D := kD G) (ci := 4) (v := .int (nI (n))) (C := RX3) (T := TX3) (N := 6) hx hb hts hinX3 hown hK hV.1 0 rfl rfl 5 (by decide) (hts (Cond.fieldLink RX3 24 "Yarncourt$Program" "lineCount" "I") (List.mem_of_getElem? (i := 1) rfl)) (fun _ h9 => h9) rfl dX3_append_14 ?_
  refine lv_iload_n hx hb dX3_append_17 rfl (lv_at hl 1 rfl) ?_
  refine kn_iast (G := G) (n := 6) (g := K) (j := n) (v := k) hx hb hK hV hS 1 rfl (by omega) (by decide) dX3_append_18 (fun H locs hV hS => ?_)
  have hV : kV G ([(hp, .inr (4, [.int (nI (w)), .ref (ak), .ref (au), .ref (az), .ref (at1), .int (nI (n))])), (ak, aN (kcI G) 6 (va_up K n k)), (au, aN (kcI G) 6 U), (az, aZ (kcI G) 6 Z), (at1, aN (kcI G) 6 T)] ++ wr) H := hV
  refine lv_aload_n hx hb dX3_append_19 rfl (lv_at hl 0 rfl) ?_
  refine va_get (D := kD G) (ci := 4) (v := .ref (au)) (C := RX3) (T := TX3) (N := 6) hx hb hts hinX3 hown hK hV.1 0 rfl rfl 2 (by decide) (hts (Cond.fieldLink RX3 15 "Yarncourt$Program" "purls" "[I") (List.mem_of_getElem? (i := 3) rfl)) (fun _ h9 => h9) rfl dX3_append_20 ?_
  refine lv_aload_n hx hb dX3_append_23 rfl (lv_at hl 0 rfl) ?_
  refine va_get (D := kD G) (ci := 4) (v := .int (nI (n))) (C := RX3) (T := TX3) (N := 6) hx hb hts hinX3 hown hK hV.1 0 rfl rfl 5 (by decide) (hts (Cond.fieldLink RX3 24 "Yarncourt$Program" "lineCount" "I") (List.mem_of_getElem? (i := 1) rfl)) (fun _ h9 => h9) rfl dX3_append_24 ?_
  refine lv_iload_n hx hb dX3_append_27 rfl (lv_at hl 2 rfl) ?_
  refine kn_iast (G := G) (n := 6) (g := U) (j := n) (v := u) hx hb hK hV hS 2 rfl (by omega) (by decide) dX3_append_28 (fun H locs hV hS => ?_)
  have hV : kV G ([(hp, .inr (4, [.int (nI (w)), .ref (ak), .ref (au), .ref (az), .ref (at1), .int (nI (n))])), (ak, aN (kcI G) 6 (va_up K n k)), (au, aN (kcI G) 6 (va_up U n u)), (az, aZ (kcI G) 6 Z), (at1, aN (kcI G) 6 T)] ++ wr) H := hV
  refine lv_aload_n hx hb dX3_append_29 rfl (lv_at hl 0 rfl) ?_
  refine va_get (D := kD G) (ci := 4) (v := .ref (az)) (C := RX3) (T := TX3) (N := 6) hx hb hts hinX3 hown hK hV.1 0 rfl rfl 3 (by decide) (hts (Cond.fieldLink RX3 18 "Yarncourt$Program" "shaping" "[I") (List.mem_of_getElem? (i := 4) rfl)) (fun _ h9 => h9) rfl dX3_append_30 ?_
  refine lv_aload_n hx hb dX3_append_33 rfl (lv_at hl 0 rfl) ?_
  refine va_get (D := kD G) (ci := 4) (v := .int (nI (n))) (C := RX3) (T := TX3) (N := 6) hx hb hts hinX3 hown hK hV.1 0 rfl rfl 5 (by decide) (hts (Cond.fieldLink RX3 24 "Yarncourt$Program" "lineCount" "I") (List.mem_of_getElem? (i := 1) rfl)) (fun _ h9 => h9) rfl dX3_append_34 ?_
  refine lv_iload_n hx hb dX3_append_37 rfl (lv_at hl 3 rfl) ?_
  refine kz_iast (G := G) (n := 6) (g := Z) (j := n) (v := z) hx hb hK hV hS 3 rfl (by omega) (by decide) dX3_append_38 (fun H locs hV hS => ?_)
  have hV : kV G ([(hp, .inr (4, [.int (nI (w)), .ref (ak), .ref (au), .ref (az), .ref (at1), .int (nI (n))])), (ak, aN (kcI G) 6 (va_up K n k)), (au, aN (kcI G) 6 (va_up U n u)), (az, aZ (kcI G) 6 (va_up Z n z)), (at1, aN (kcI G) 6 T)] ++ wr) H := hV
  refine lv_aload_n hx hb dX3_append_39 rfl (lv_at hl 0 rfl) ?_
  refine va_get (D := kD G) (ci := 4) (v := .ref (at1)) (C := RX3) (T := TX3) (N := 6) hx hb hts hinX3 hown hK hV.1 0 rfl rfl 4 (by decide) (hts (Cond.fieldLink RX3 21 "Yarncourt$Program" "times" "[I") (List.mem_of_getElem? (i := 5) rfl)) (fun _ h9 => h9) rfl dX3_append_40 ?_
  refine lv_aload_n hx hb dX3_append_43 rfl (lv_at hl 0 rfl) ?_
  refine va_get (D := kD G) (ci := 4) (v := .int (nI (n))) (C := RX3) (T := TX3) (N := 6) hx hb hts hinX3 hown hK hV.1 0 rfl rfl 5 (by decide) (hts (Cond.fieldLink RX3 24 "Yarncourt$Program" "lineCount" "I") (List.mem_of_getElem? (i := 1) rfl)) (fun _ h9 => h9) rfl dX3_append_44 ?_
  refine lv_iload hx hb dX3_append_47 (lv_at hl 4 rfl) ?_
  refine kn_iast (G := G) (n := 6) (g := T) (j := n) (v := t) hx hb hK hV hS 4 rfl (by omega) (by decide) dX3_append_49 (fun H locs hV hS => ?_)
  have hV : kV G ([(hp, .inr (4, [.int (nI (w)), .ref (ak), .ref (au), .ref (az), .ref (at1), .int (nI (n))])), (ak, aN (kcI G) 6 (va_up K n k)), (au, aN (kcI G) 6 (va_up U n u)), (az, aZ (kcI G) 6 (va_up Z n z)), (at1, aN (kcI G) 6 (va_up T n t))] ++ wr) H := hV
  refine lv_aload_n hx hb dX3_append_50 rfl (lv_at hl 0 rfl) ?_
  refine lv_dup hx hb dX3_append_51 rfl ?_
  refine va_get (D := kD G) (ci := 4) (v := .int (nI (n))) (C := RX3) (T := TX3) (N := 6) hx hb hts hinX3 hown hK hV.1 0 rfl rfl 5 (by decide) (hts (Cond.fieldLink RX3 24 "Yarncourt$Program" "lineCount" "I") (List.mem_of_getElem? (i := 1) rfl)) (fun _ h9 => h9) rfl dX3_append_52 ?_
  refine lv_iconst (v := nI 1) hx hb dX3_append_55 (by decide) ?_
  refine kn_add hx hb dX3_append_56 ?_
  refine va_put (D := kD G) (ci := 4) (v := .int (nI (n + 1))) (ty := .int) (C := RX3) (T := TX3) (N := 6) hx hb hts hinX3 tyX3 tyX3_ok nmX3 hown hK hV.1 hV.2 hS 0 rfl rfl 5 (by decide) (hts (Cond.fieldLink RX3 24 "Yarncourt$Program" "lineCount" "I") (List.mem_of_getElem? (i := 1) rfl)) (fun _ h9 => h9) rfl (by decide +kernel) rfl rfl (Nat.le_of_ble_eq_true rfl) dX3_append_57 (fun H locs hP hD hS => ?_)
  have hV : kV G ([(hp, .inr (4, [.int (nI (w)), .ref (ak), .ref (au), .ref (az), .ref (at1), .int (nI (n + 1))])), (ak, aN (kcI G) 6 (va_up K n k)), (au, aN (kcI G) 6 (va_up U n u)), (az, aZ (kcI G) 6 (va_up Z n z)), (at1, aN (kcI G) 6 (va_up T n t))] ++ wr) H := ⟨hP, hD⟩
  exact W.vret hx hb hrt (fun t ht hW => ⟨⟨(), rfl, trivial, kV_eq ht hV⟩, hS.F ht⟩) hS.2.2 dX3_append_60
set_option maxHeartbeats 4000000 in
set_option maxRecDepth 100000 in
theorem c_X3_timesFor (l : Launch) (G : kG) (hp : Nat) (ak : Nat) (au : Nat) (az : Nat) (at1 : Nat) (w : Nat) (n : Nat) (K : Nat → Nat) (U : Nat → Nat) (Z : Nat → Int) (T : Nat → Nat) (wr : va_W) (g : Nat) (i : Nat) (hi : i < 6) (hT : T i ≤ 40) (hg : g ≤ 20) : Met l yX3_timesFor wsX3_timesFor ({ frames := 1, cells := 0, slots := 0, locals := 21 } : Room) (kPc G [.ref (hp), .int (nI (g)), .int (nI (i))] ([(hp, .inr (4, [.int (nI (w)), .ref (ak), .ref (au), .ref (az), .ref (at1), .int (nI (n))])), (ak, aN (kcI G) 6 K), (au, aN (kcI G) 6 U), (az, aZ (kcI G) 6 Z), (at1, aN (kcI G) 6 T)] ++ wr)) (kQi G (S := Unit) (fun q _ => q = nI (oftN (T i) g)) (fun _ => [(hp, .inr (4, [.int (nI (w)), .ref (ak), .ref (au), .ref (az), .ref (at1), .int (nI (n))])), (ak, aN (kcI G) 6 K), (au, aN (kcI G) 6 U), (az, aZ (kcI G) 6 Z), (at1, aN (kcI G) 6 T)] ++ wr)) 0 0 (kA G) := by
  refine Met.ofW (cc := cX3_timesFor) (maxL := 3) (ret := (some .int)) (by decide) rfl ?_
  intro pp ee s m args below meth cc0 s₁ B hml hv
  obtain ⟨rfl, hE, hV⟩ := hv
  have hK := hE.1
  have hx := B.exec
  have hb := B.bytes
  have hrt := B.returns
  have hts := atoms_spec (ws := wsX3_timesFor) B.pre
  have hown : s.vm.findClass RX3 = some m.cls := findClass_of_methodNamed B.named
  have hlocks := B.notSynchronized
  have hF : CallFix pp m cc0 cX3_timesFor 3 s _ wsX3_timesFor RX3 := ⟨hx, hb, hml, hown, hts⟩
  have hinX3 : ∀ w ∈ wsX30, w ∈ wsX3_timesFor := tb_of [9, 10, 11, 12, 13, 14] rfl
  have hS : va_S (kA G) s.heap s.heap [] := va_S.rf
  have hB0 := hE.2.1
  have hl := lv_entry ([.ref (hp), .int (nI (g)), .int (nI (i))]) (n := 3) (Nat.le_of_ble_eq_true rfl)
  rw [lg_entry_eq]
  generalize (lg_sl ([.ref (hp), .int (nI (g)), .int (nI (i))]) ++ List.replicate (3 - (lg_sl ([.ref (hp), .int (nI (g)), .int (nI (i))])).length) Slot.unset).toArray = ls at hl ⊢
  have hl : lv_has ls 3 [(0, .ref (hp)), (1, .int (nI (g))), (2, .int (nI (i)))] := hl
  have hm : T i * g ≤ 40 * 20 := Nat.mul_le_mul hT hg
  refine lv_iconst (v := nI 1) hx hb dX3_timesFor_0 (by decide) ?_
  refine lv_aload_n hx hb dX3_timesFor_1 rfl (lv_at hl 0 rfl) ?_
  refine va_get (D := kD G) (ci := 4) (v := .ref (at1)) (C := RX3) (T := TX3) (N := 6) hx hb hts hinX3 hown hK hV.1 0 rfl rfl 4 (by decide) (hts (Cond.fieldLink RX3 21 "Yarncourt$Program" "times" "[I") (List.mem_of_getElem? (i := 1) rfl)) (fun _ h9 => h9) rfl dX3_timesFor_2 ?_
  refine lv_iload_n hx hb dX3_timesFor_5 rfl (lv_at hl 2 rfl) ?_
  refine kn_iald (G := G) (n := 6) (g := T) (j := i) hx hb hK hV 4 rfl (by omega) (by decide) dX3_timesFor_6 ?_
  refine lv_iload_n hx hb dX3_timesFor_7 rfl (lv_at hl 1 rfl) ?_
  refine kc_i (va_runSN (As := [.int (nI (T i)), .int (nI (g))]) (rest := [.int (nI (1))]) hF (c_X5_forGauge l G (T i) g ([(hp, .inr (4, [.int (nI (w)), .ref (ak), .ref (au), .ref (az), .ref (at1), .int (nI (n))])), (ak, aN (kcI G) 6 K), (au, aN (kcI G) 6 U), (az, aZ (kcI G) 6 Z), (at1, aN (kcI G) 6 T)] ++ wr) (by omega)) ⟨va_cnB 2 hts gX3_timesFor_X5_forGauge_n31 rfl rfl rfl (hE.2.2.1 (Cond.methodLinkNest "Yarncourt$Program" 31 yX5_forGauge "Yarncourt") (by decide +kernel)) (hts (Cond.initialized RX5) (List.mem_of_getElem? (i := 7) rfl)) (by decide +kernel) ⟨Nat.le_of_ble_eq_true rfl, Nat.le_of_ble_eq_true rfl⟩, (hts (Cond.static yX5_forGauge) (List.mem_of_getElem? (i := 6) rfl)), trivial⟩ (kPreS hE hS hV) rfl rfl hl.1 rfl (lv_room (Nat.le_of_ble_eq_true rfl)) dX3_timesFor_8 ⟨Nat.le_of_ble_eq_true rfl, Nat.le_of_ble_eq_true rfl⟩) hS (fun r_3 u_2 H locs hp_1 hV hS => ?_)
  subst hp_1
  have hV : kV G ([(hp, .inr (4, [.int (nI (w)), .ref (ak), .ref (au), .ref (az), .ref (at1), .int (nI (n))])), (ak, aN (kcI G) 6 K), (au, aN (kcI G) 6 U), (az, aZ (kcI G) 6 Z), (at1, aN (kcI G) 6 T)] ++ wr) H := hV
  refine va_mmax hx hb (hml.trans hl.1.symm) hown (hts (Cond.methodLink RX3 35 Lib.Math.max.name) (List.mem_of_getElem? (i := 2) rfl)) (hts (Cond.static Lib.Math.max.name) (List.mem_of_getElem? (i := 3) rfl)) (hts (Cond.initialized "java/lang/Math") (List.mem_of_getElem? (i := 4) rfl)) (hts (Cond.code Lib.Math.max.name Lib.Math.max.code 2 (some .int)) (List.mem_of_getElem? (i := 5) rfl)) (Nat.le_of_ble_eq_true rfl) (Nat.le_of_ble_eq_true rfl) (Nat.le_of_ble_eq_true rfl) (Nat.le_of_ble_eq_true rfl) dX3_timesFor_11 ?_
  exact W.iret (v := (if nI 1 < nI ((T i) * g / 10) then nI ((T i) * g / 10) else nI 1)) hx hb hrt (fun t ht hW => ⟨⟨_, (), rfl, mx_oft (by omega), kV_eq ht hV⟩, hS.F ht⟩) hS.2.2 dX3_timesFor_14
set_option maxHeartbeats 4000000 in
set_option maxRecDepth 100000 in
theorem c_X3_rowsFor (l : Launch) (G : kG) (hp : Nat) (ak : Nat) (au : Nat) (az : Nat) (at1 : Nat) (w : Nat) (n : Nat) (K : Nat → Nat) (U : Nat → Nat) (Z : Nat → Int) (T : Nat → Nat) (wr : va_W) (g : Nat) (hn : n ≤ 6) (hT : ∀ i, i < n → T i ≤ 40) (hg : g ≤ 20) : Met l yX3_rowsFor wsX3_rowsFor ({ frames := 2, cells := 0, slots := 0, locals := 43 } : Room) (kPc G [.ref (hp), .int (nI (g))] ([(hp, .inr (4, [.int (nI (w)), .ref (ak), .ref (au), .ref (az), .ref (at1), .int (nI (n))])), (ak, aN (kcI G) 6 K), (au, aN (kcI G) 6 U), (az, aZ (kcI G) 6 Z), (at1, aN (kcI G) 6 T)] ++ wr)) (kQi G (S := Unit) (fun q _ => q = nI (sumN (fun i => oftN (T i) g) n)) (fun _ => [(hp, .inr (4, [.int (nI (w)), .ref (ak), .ref (au), .ref (az), .ref (at1), .int (nI (n))])), (ak, aN (kcI G) 6 K), (au, aN (kcI G) 6 U), (az, aZ (kcI G) 6 Z), (at1, aN (kcI G) 6 T)] ++ wr)) 0 0 (kA G) := by
  refine Met.ofW (cc := cX3_rowsFor) (maxL := 4) (ret := (some .int)) (by decide) rfl ?_
  intro pp ee s m args below meth cc0 s₁ B hml hv
  obtain ⟨rfl, hE, hV⟩ := hv
  have hK := hE.1
  have hx := B.exec
  have hb := B.bytes
  have hrt := B.returns
  have hts := atoms_spec (ws := wsX3_rowsFor) B.pre
  have hown : s.vm.findClass RX3 = some m.cls := findClass_of_methodNamed B.named
  have hlocks := B.notSynchronized
  have hF : CallFix pp m cc0 cX3_rowsFor 4 s _ wsX3_rowsFor RX3 := ⟨hx, hb, hml, hown, hts⟩
  have hinX3 : ∀ w ∈ wsX30, w ∈ wsX3_rowsFor := tb_of [15, 16, 17, 18, 19, 20] rfl
  have hS : va_S (kA G) s.heap s.heap [] := va_S.rf
  have hB0 := hE.2.1
  have hl := lv_entry ([.ref (hp), .int (nI (g))]) (n := 4) (Nat.le_of_ble_eq_true rfl)
  rw [lg_entry_eq]
  generalize (lg_sl ([.ref (hp), .int (nI (g))]) ++ List.replicate (4 - (lg_sl ([.ref (hp), .int (nI (g))])).length) Slot.unset).toArray = ls at hl ⊢
  have hl : lv_has ls 4 [(0, .ref (hp)), (1, .int (nI (g)))] := hl
  refine lv_iconst (v := nI 0) hx hb dX3_rowsFor_0 (by decide) ?_
  refine lv_istore_n (lv' := [(2, .int (nI (0))), (0, .ref (hp)), (1, .int (nI (g)))]) hx hb dX3_rowsFor_1 rfl hl (by decide) rfl (fun ls hl => ?_)
  refine lv_iconst (v := nI 0) hx hb dX3_rowsFor_2 (by decide) ?_
  refine lv_istore_n (lv' := [(3, .int (nI (0))), (2, .int (nI (0))), (0, .ref (hp)), (1, .int (nI (g)))]) hx hb dX3_rowsFor_3 rfl hl (by decide) rfl (fun ls hl => ?_)
  have L4 : ∀ (nL4 : Nat) (i : Nat) (hi : i ≤ n) (hmL4 : n - i < nL4) (H : Heap) (locs : List Loc), kV G ([(hp, .inr (4, [.int (nI (w)), .ref (ak), .ref (au), .ref (az), .ref (at1), .int (nI (n))])), (ak, aN (kcI G) 6 K), (au, aN (kcI G) 6 U), (az, aZ (kcI G) 6 Z), (at1, aN (kcI G) 6 T)] ++ wr) H → va_S (kA G) s.heap H locs → ∀ (ls : Array Slot), lv_has ls 4 [(0, .ref (hp)), (1, .int (nI (g))), (2, .int (nI (sumN (fun i => oftN (T i) g) i))), (3, .int (nI (i)))] → W pp l ee (headSpec wsX3_rowsFor ({ frames := 2, cells := 0, slots := 0, locals := 43 } : Room)).room s m [.ref (hp), .int (nI (g))].toArray below meth cc0 H locs 0 0 (MQ below (kQi G (S := Unit) (fun q _ => q = nI (sumN (fun i => oftN (T i) g) n)) (fun _ => [(hp, .inr (4, [.int (nI (w)), .ref (ak), .ref (au), .ref (az), .ref (at1), .int (nI (n))])), (ak, aN (kcI G) 6 K), (au, aN (kcI G) 6 U), (az, aZ (kcI G) 6 Z), (at1, aN (kcI G) 6 T)] ++ wr)) [.ref (hp), .int (nI (g))].toArray s 0 0 (kA G)) (F0 m 4 ls []) := by
    intro nL4
    induction nL4 with
    | zero => intro i hi hmL4; exact absurd hmL4 (Nat.not_lt_zero _)
    | succ nL4 ihL4 =>
      intro i hi hmL4 H locs hV hS ls hl
      refine lv_iload_n hx hb dX3_rowsFor_4 rfl (lv_at hl 3 rfl) ?_
      refine lv_aload_n hx hb dX3_rowsFor_5 rfl (lv_at hl 0 rfl) ?_
      refine va_get (D := kD G) (ci := 4) (v := .int (nI (n))) (C := RX3) (T := TX3) (N := 6) hx hb hts hinX3 hown hK hV.1 0 rfl rfl 5 (by decide) (hts (Cond.fieldLink RX3 24 "Yarncourt$Program" "lineCount" "I") (List.mem_of_getElem? (i := 1) rfl)) (fun _ h9 => h9) rfl dX3_rowsFor_6 ?_
      refine kn_ge (tgt := 27) hx hb (by omega) (by omega) dX3_rowsFor_9 (by decide) (fun c9 => ?_) (fun c9 => ?_)
      · refine lv_iload_n hx hb dX3_rowsFor_27 rfl (lv_at hl 2 rfl) ?_
        exact W.iret (v := nI (sumN (fun i => oftN (T i) g) i)) hx hb hrt (fun t ht hW => ⟨⟨_, (), rfl, by rw [show i = n from by omega], kV_eq ht hV⟩, hS.F ht⟩) hS.2.2 dX3_rowsFor_28
      · refine lv_iload_n hx hb dX3_rowsFor_12 rfl (lv_at hl 2 rfl) ?_
        refine lv_aload_n hx hb dX3_rowsFor_13 rfl (lv_at hl 0 rfl) ?_
        refine lv_iload_n hx hb dX3_rowsFor_14 rfl (lv_at hl 1 rfl) ?_
        refine lv_iload_n hx hb dX3_rowsFor_15 rfl (lv_at hl 3 rfl) ?_
        refine kc_i (va_runV (As := [.int (nI (g)), .int (nI (i))]) (rest := [.int (nI (sumN (fun i => oftN (T i) g) i))]) hF (c_X3_timesFor l G hp ak au az at1 w n K U Z T wr g i (by omega) (hT i (by omega)) (by omega)) (cwV 2 hts gX3_rowsFor_X3_timesFor rfl rfl rfl (by decide +kernel) ⟨Nat.le_of_ble_eq_true rfl, Nat.le_of_ble_eq_true rfl⟩) (kPreV hE hS hV 0 rfl rfl) rfl rfl hl.1 rfl (lv_room (Nat.le_of_ble_eq_true rfl)) dX3_rowsFor_16 ⟨Nat.le_of_ble_eq_true rfl, Nat.le_of_ble_eq_true rfl⟩) hS (fun r_3 u_2 H locs hp_1 hV hS => ?_)
        subst hp_1
        have hV : kV G ([(hp, .inr (4, [.int (nI (w)), .ref (ak), .ref (au), .ref (az), .ref (at1), .int (nI (n))])), (ak, aN (kcI G) 6 K), (au, aN (kcI G) 6 U), (az, aZ (kcI G) 6 Z), (at1, aN (kcI G) 6 T)] ++ wr) H := hV
        refine kn_add hx hb dX3_rowsFor_19 ?_
        refine lv_istore_n (lv' := [(2, .int (nI ((sumN (fun i => oftN (T i) g) i) + (oftN (T i) g)))), (0, .ref (hp)), (1, .int (nI (g))), (3, .int (nI (i)))]) hx hb dX3_rowsFor_20 rfl hl (by decide) rfl (fun ls hl => ?_)
        refine lv_iinc (lv' := [(3, .int (nI (i + 1))), (2, .int (nI ((sumN (fun i => oftN (T i) g) i) + (oftN (T i) g)))), (0, .ref (hp)), (1, .int (nI (g)))]) hx hb dX3_rowsFor_21 hl (k := 3) rfl (kn_iinc i 1) (by decide) rfl (fun ls hl => ?_)
        refine lv_goto (tgt := 4) hx hb dX3_rowsFor_24 (by decide) ?_
        exact ihL4 (i + 1) (by omega) (by omega) _ _ hV hS ls (lv_sub hl [2, 3, 1, 0] rfl)
  exact L4 ((n - 0) + 1) 0 (by omega) (Nat.lt_succ_self _) _ _ hV hS ls (lv_sub hl [2, 3, 1, 0] rfl)
set_option maxHeartbeats 4000000 in
set_option maxRecDepth 100000 in
theorem c_X3_workAlong (l : Launch) (G : kG) (hp : Nat) (ak : Nat) (au : Nat) (az : Nat) (at1 : Nat) (w : Nat) (n : Nat) (K : Nat → Nat) (U : Nat → Nat) (Z : Nat → Int) (T : Nat → Nat) (wr : va_W) (i : Nat) (c : Nat) (hi : i < 6) (hku : 1 ≤ K i + U i) (hk9 : K i ≤ 9) (hu9 : U i ≤ 9) (hcc : c ≤ 40) : Met l yX3_workAlong wsX3_workAlong ({ frames := 0, cells := 0, slots := 0, locals := 0 } : Room) (kPc G [.ref (hp), .int (nI (i)), .int (nI (c))] ([(hp, .inr (4, [.int (nI (w)), .ref (ak), .ref (au), .ref (az), .ref (at1), .int (nI (n))])), (ak, aN (kcI G) 6 K), (au, aN (kcI G) 6 U), (az, aZ (kcI G) 6 Z), (at1, aN (kcI G) 6 T)] ++ wr)) (kQi G (S := Unit) (fun q _ => q = nI (if c % (K i + U i) < K i then 1 else 2)) (fun _ => [(hp, .inr (4, [.int (nI (w)), .ref (ak), .ref (au), .ref (az), .ref (at1), .int (nI (n))])), (ak, aN (kcI G) 6 K), (au, aN (kcI G) 6 U), (az, aZ (kcI G) 6 Z), (at1, aN (kcI G) 6 T)] ++ wr)) 0 0 (kA G) := by
  refine Met.ofW (cc := cX3_workAlong) (maxL := 6) (ret := (some .int)) (by decide) rfl ?_
  intro pp ee s m args below meth cc0 s₁ B hml hv
  obtain ⟨rfl, hE, hV⟩ := hv
  have hK := hE.1
  have hx := B.exec
  have hb := B.bytes
  have hrt := B.returns
  have hts := atoms_spec (ws := wsX3_workAlong) B.pre
  have hown : s.vm.findClass RX3 = some m.cls := findClass_of_methodNamed B.named
  have hlocks := B.notSynchronized
  have hF : CallFix pp m cc0 cX3_workAlong 6 s _ wsX3_workAlong RX3 := ⟨hx, hb, hml, hown, hts⟩
  have hinX3 : ∀ w ∈ wsX30, w ∈ wsX3_workAlong := tb_of [3, 4, 5, 6, 7, 8] rfl
  have hS : va_S (kA G) s.heap s.heap [] := va_S.rf
  have hB0 := hE.2.1
  have hl := lv_entry ([.ref (hp), .int (nI (i)), .int (nI (c))]) (n := 6) (Nat.le_of_ble_eq_true rfl)
  rw [lg_entry_eq]
  generalize (lg_sl ([.ref (hp), .int (nI (i)), .int (nI (c))]) ++ List.replicate (6 - (lg_sl ([.ref (hp), .int (nI (i)), .int (nI (c))])).length) Slot.unset).toArray = ls at hl ⊢
  have hl : lv_has ls 6 [(0, .ref (hp)), (1, .int (nI (i))), (2, .int (nI (c)))] := hl
  refine lv_aload_n hx hb dX3_workAlong_0 rfl (lv_at hl 0 rfl) ?_
  refine va_get (D := kD G) (ci := 4) (v := .ref (ak)) (C := RX3) (T := TX3) (N := 6) hx hb hts hinX3 hown hK hV.1 0 rfl rfl 1 (by decide) (hts (Cond.fieldLink RX3 9 "Yarncourt$Program" "knits" "[I") (List.mem_of_getElem? (i := 1) rfl)) (fun _ h9 => h9) rfl dX3_workAlong_1 ?_
  refine lv_iload_n hx hb dX3_workAlong_4 rfl (lv_at hl 1 rfl) ?_
  refine kn_iald (G := G) (n := 6) (g := K) (j := i) hx hb hK hV 1 rfl (by omega) (by decide) dX3_workAlong_5 ?_
  refine lv_aload_n hx hb dX3_workAlong_6 rfl (lv_at hl 0 rfl) ?_
  refine va_get (D := kD G) (ci := 4) (v := .ref (au)) (C := RX3) (T := TX3) (N := 6) hx hb hts hinX3 hown hK hV.1 0 rfl rfl 2 (by decide) (hts (Cond.fieldLink RX3 15 "Yarncourt$Program" "purls" "[I") (List.mem_of_getElem? (i := 2) rfl)) (fun _ h9 => h9) rfl dX3_workAlong_7 ?_
  refine lv_iload_n hx hb dX3_workAlong_10 rfl (lv_at hl 1 rfl) ?_
  refine kn_iald (G := G) (n := 6) (g := U) (j := i) hx hb hK hV 2 rfl (by omega) (by decide) dX3_workAlong_11 ?_
  refine kn_add hx hb dX3_workAlong_12 ?_
  refine lv_iconst (v := nI 1) hx hb dX3_workAlong_13 (by decide) ?_
  refine kn_sub hx hb (by omega) dX3_workAlong_14 ?_
  refine lv_istore_n (lv' := [(3, .int (nI (((K i) + (U i)) - 1))), (0, .ref (hp)), (1, .int (nI (i))), (2, .int (nI (c)))]) hx hb dX3_workAlong_15 rfl hl (by decide) rfl (fun ls hl => ?_)
  refine lv_iconst (v := nI 0) hx hb dX3_workAlong_16 (by decide) ?_
  refine lv_istore (lv' := [(4, .int (nI (0))), (3, .int (nI (((K i) + (U i)) - 1))), (0, .ref (hp)), (1, .int (nI (i))), (2, .int (nI (c)))]) hx hb dX3_workAlong_17 hl (by decide) rfl (fun ls hl => ?_)
  refine lv_iconst (v := nI 0) hx hb dX3_workAlong_19 (by decide) ?_
  refine lv_istore (lv' := [(5, .int (nI (0))), (4, .int (nI (0))), (3, .int (nI (((K i) + (U i)) - 1))), (0, .ref (hp)), (1, .int (nI (i))), (2, .int (nI (c)))]) hx hb dX3_workAlong_20 hl (by decide) rfl (fun ls hl => ?_)
  have L22 : ∀ (nL22 : Nat) (x : Nat) (hx9 : x ≤ c) (hmL22 : c - x < nL22) (H : Heap) (locs : List Loc), kV G ([(hp, .inr (4, [.int (nI (w)), .ref (ak), .ref (au), .ref (az), .ref (at1), .int (nI (n))])), (ak, aN (kcI G) 6 K), (au, aN (kcI G) 6 U), (az, aZ (kcI G) 6 Z), (at1, aN (kcI G) 6 T)] ++ wr) H → va_S (kA G) s.heap H locs → ∀ (ls : Array Slot), lv_has ls 6 [(0, .ref (hp)), (1, .int (nI (i))), (2, .int (nI (c))), (3, .int (nI (K i + U i - 1))), (4, .int (nI (x % (K i + U i)))), (5, .int (nI (x)))] → W pp l ee (headSpec wsX3_workAlong ({ frames := 0, cells := 0, slots := 0, locals := 0 } : Room)).room s m [.ref (hp), .int (nI (i)), .int (nI (c))].toArray below meth cc0 H locs 0 0 (MQ below (kQi G (S := Unit) (fun q _ => q = nI (if c % (K i + U i) < K i then 1 else 2)) (fun _ => [(hp, .inr (4, [.int (nI (w)), .ref (ak), .ref (au), .ref (az), .ref (at1), .int (nI (n))])), (ak, aN (kcI G) 6 K), (au, aN (kcI G) 6 U), (az, aZ (kcI G) 6 Z), (at1, aN (kcI G) 6 T)] ++ wr)) [.ref (hp), .int (nI (i)), .int (nI (c))].toArray s 0 0 (kA G)) (F0 m 22 ls []) := by
    intro nL22
    induction nL22 with
    | zero => intro x hx9 hmL22; exact absurd hmL22 (Nat.not_lt_zero _)
    | succ nL22 ihL22 =>
      intro x hx9 hmL22 H locs hV hS ls hl
      refine lv_iload hx hb dX3_workAlong_22 (lv_at hl 5 rfl) ?_
      refine lv_iload_n hx hb dX3_workAlong_24 rfl (lv_at hl 2 rfl) ?_
      refine kn_ge (tgt := 50) hx hb (by omega) (by omega) dX3_workAlong_25 (by decide) (fun c25 => ?_) (fun c25 => ?_)
      · have e9 : x = c := by omega
        have hmo := Nat.mod_lt x (show 0 < K i + U i by omega)
        refine lv_iload hx hb dX3_workAlong_50 (lv_at hl 4 rfl) ?_
        refine lv_aload_n hx hb dX3_workAlong_52 rfl (lv_at hl 0 rfl) ?_
        refine va_get (D := kD G) (ci := 4) (v := .ref (ak)) (C := RX3) (T := TX3) (N := 6) hx hb hts hinX3 hown hK hV.1 0 rfl rfl 1 (by decide) (hts (Cond.fieldLink RX3 9 "Yarncourt$Program" "knits" "[I") (List.mem_of_getElem? (i := 1) rfl)) (fun _ h9 => h9) rfl dX3_workAlong_53 ?_
        refine lv_iload_n hx hb dX3_workAlong_56 rfl (lv_at hl 1 rfl) ?_
        refine kn_iald (G := G) (n := 6) (g := K) (j := i) hx hb hK hV 1 rfl (by omega) (by decide) dX3_workAlong_57 ?_
        refine kn_ge (tgt := 65) hx hb (by omega) (by omega) dX3_workAlong_58 (by decide) (fun c58 => ?_) (fun c58 => ?_)
        · refine lv_iconst (v := nI 2) hx hb dX3_workAlong_65 (by decide) ?_
          exact W.iret (v := nI 2) hx hb hrt (fun t ht hW => ⟨⟨_, (), rfl, by rw [← e9, if_neg (by omega)], kV_eq ht hV⟩, hS.F ht⟩) hS.2.2 dX3_workAlong_66
        · refine lv_iconst (v := nI 1) hx hb dX3_workAlong_61 (by decide) ?_
          refine lv_goto (tgt := 66) hx hb dX3_workAlong_62 (by decide) ?_
          exact W.iret (v := nI 1) hx hb hrt (fun t ht hW => ⟨⟨_, (), rfl, by rw [← e9, if_pos c58], kV_eq ht hV⟩, hS.F ht⟩) hS.2.2 dX3_workAlong_66
      · have hmo := Nat.mod_lt x (show 0 < K i + U i by omega)
        refine lv_iload hx hb dX3_workAlong_28 (lv_at hl 4 rfl) ?_
        refine lv_iload_n hx hb dX3_workAlong_30 rfl (lv_at hl 3 rfl) ?_
        refine kn_ge (tgt := 41) hx hb (by omega) (by omega) dX3_workAlong_31 (by decide) (fun c31 => ?_) (fun c31 => ?_)
        · refine lv_iconst (v := nI 0) hx hb dX3_workAlong_41 (by decide) ?_
          refine lv_istore (lv' := [(4, .int (nI (0))), (0, .ref (hp)), (1, .int (nI (i))), (2, .int (nI (c))), (3, .int (nI (K i + U i - 1))), (5, .int (nI (x)))]) hx hb dX3_workAlong_42 hl (by decide) rfl (fun ls hl => ?_)
          refine lv_iinc (lv' := [(5, .int (nI (x + 1))), (4, .int (nI (0))), (0, .ref (hp)), (1, .int (nI (i))), (2, .int (nI (c))), (3, .int (nI (K i + U i - 1)))]) hx hb dX3_workAlong_44 hl (k := 5) rfl (kn_iinc x 1) (by decide) rfl (fun ls hl => ?_)
          refine lv_goto (tgt := 22) hx hb dX3_workAlong_47 (by decide) ?_
          exact ihL22 (x + 1) (by omega) (by omega) _ _ hV hS ls (by rw [(modS (show 0 < K i + U i by omega)).1 (by omega)]; exact lv_sub hl [2, 3, 4, 5, 1, 0] rfl)
        · refine lv_iload hx hb dX3_workAlong_34 (lv_at hl 4 rfl) ?_
          refine lv_iconst (v := nI 1) hx hb dX3_workAlong_36 (by decide) ?_
          refine kn_add hx hb dX3_workAlong_37 ?_
          refine lv_goto (tgt := 42) hx hb dX3_workAlong_38 (by decide) ?_
          refine lv_istore (lv' := [(4, .int (nI ((x % (K i + U i)) + 1))), (0, .ref (hp)), (1, .int (nI (i))), (2, .int (nI (c))), (3, .int (nI (K i + U i - 1))), (5, .int (nI (x)))]) hx hb dX3_workAlong_42 hl (by decide) rfl (fun ls hl => ?_)
          refine lv_iinc (lv' := [(5, .int (nI (x + 1))), (4, .int (nI ((x % (K i + U i)) + 1))), (0, .ref (hp)), (1, .int (nI (i))), (2, .int (nI (c))), (3, .int (nI (K i + U i - 1)))]) hx hb dX3_workAlong_44 hl (k := 5) rfl (kn_iinc x 1) (by decide) rfl (fun ls hl => ?_)
          refine lv_goto (tgt := 22) hx hb dX3_workAlong_47 (by decide) ?_
          exact ihL22 (x + 1) (by omega) (by omega) _ _ hV hS ls (by rw [(modS (show 0 < K i + U i by omega)).2 (by omega)]; exact lv_sub hl [2, 3, 4, 5, 1, 0] rfl)
  exact L22 ((c - 0) + 1) 0 (by omega) (Nat.lt_succ_self _) _ _ hV hS ls (by rw [Nat.zero_mod]; exact lv_sub hl [3, 4, 5, 2, 1, 0] rfl)
set_option maxHeartbeats 4000000 in
set_option maxRecDepth 100000 in
theorem c_X3_workTo (l : Launch) (G : kG) (hp : Nat) (ak : Nat) (au : Nat) (az : Nat) (at1 : Nat) (w : Nat) (n : Nat) (K : Nat → Nat) (U : Nat → Nat) (Z : Nat → Int) (T : Nat → Nat) (wr : va_W) (r : Nat) (c : Nat) (hn : n ≤ 6) (hw : 1 ≤ w ∧ w ≤ 40) (hP : ∀ i, i < n → K i ≤ 9 ∧ U i ≤ 9 ∧ 1 ≤ K i + U i ∧ 1 ≤ T i ∧ T i ≤ 40 ∧ -3 ≤ Z i ∧ Z i ≤ 3) (h40 : sumN T n ≤ 40) (hr9 : r < sumN T n) (hcc : c < 2 ^ 31) : Met l yX3_workTo wsX3_workTo ({ frames := 3, cells := 0, slots := 0, locals := 64 } : Room) (kPc G [.ref (hp), .int (nI (r)), .int (nI (c))] ([(hp, .inr (4, [.int (nI (w)), .ref (ak), .ref (au), .ref (az), .ref (at1), .int (nI (n))])), (ak, aN (kcI G) 6 K), (au, aN (kcI G) 6 U), (az, aZ (kcI G) 6 Z), (at1, aN (kcI G) 6 T)] ++ wr)) (kQi G (S := Unit) (fun q _ => q = nI (stV (K (goS T Z 0 w r).1) (U (goS T Z 0 w r).1) (goS T Z 0 w r).2.2 c)) (fun _ => [(hp, .inr (4, [.int (nI (w)), .ref (ak), .ref (au), .ref (az), .ref (at1), .int (nI (n))])), (ak, aN (kcI G) 6 K), (au, aN (kcI G) 6 U), (az, aZ (kcI G) 6 Z), (at1, aN (kcI G) 6 T)] ++ wr)) 0 0 (kA G) := by
  refine Met.ofW (cc := cX3_workTo) (maxL := 7) (ret := (some .int)) (by decide) rfl ?_
  intro pp ee s m args below meth cc0 s₁ B hml hv
  obtain ⟨rfl, hE, hV⟩ := hv
  have hK := hE.1
  have hx := B.exec
  have hb := B.bytes
  have hrt := B.returns
  have hts := atoms_spec (ws := wsX3_workTo) B.pre
  have hown : s.vm.findClass RX3 = some m.cls := findClass_of_methodNamed B.named
  have hlocks := B.notSynchronized
  have hF : CallFix pp m cc0 cX3_workTo 7 s _ wsX3_workTo RX3 := ⟨hx, hb, hml, hown, hts⟩
  have hinX3 : ∀ w ∈ wsX30, w ∈ wsX3_workTo := tb_of [25, 26, 27, 28, 29, 30] rfl
  have hS : va_S (kA G) s.heap s.heap [] := va_S.rf
  have hB0 := hE.2.1
  have hl := lv_entry ([.ref (hp), .int (nI (r)), .int (nI (c))]) (n := 7) (Nat.le_of_ble_eq_true rfl)
  rw [lg_entry_eq]
  generalize (lg_sl ([.ref (hp), .int (nI (r)), .int (nI (c))]) ++ List.replicate (7 - (lg_sl ([.ref (hp), .int (nI (r)), .int (nI (c))])).length) Slot.unset).toArray = ls at hl ⊢
  have hl : lv_has ls 7 [(0, .ref (hp)), (1, .int (nI (r))), (2, .int (nI (c)))] := hl
  have hti : ∀ k, k < n → 1 ≤ T (0 + k) := fun k hk => by rw [Nat.zero_add]; exact (hP k hk).2.2.2.1
  have hsT : (fun k => T (0 + k)) = T := by funext k; rw [Nat.zero_add]
  refine lv_aload_n hx hb dX3_workTo_0 rfl (lv_at hl 0 rfl) ?_
  refine va_get (D := kD G) (ci := 4) (v := .int (nI (w))) (C := RX3) (T := TX3) (N := 6) hx hb hts hinX3 hown hK hV.1 0 rfl rfl 0 (by decide) (hts (Cond.fieldLink RX3 28 "Yarncourt$Program" "firstWidth" "I") (List.mem_of_getElem? (i := 1) rfl)) (fun _ h9 => h9) rfl dX3_workTo_1 ?_
  refine lv_istore_n (lv' := [(3, .int (nI (w))), (0, .ref (hp)), (1, .int (nI (r))), (2, .int (nI (c)))]) hx hb dX3_workTo_4 rfl hl (by decide) rfl (fun ls hl => ?_)
  refine lv_iconst (v := nI 0) hx hb dX3_workTo_5 (by decide) ?_
  refine lv_istore (lv' := [(4, .int (nI (0))), (3, .int (nI (w))), (0, .ref (hp)), (1, .int (nI (r))), (2, .int (nI (c)))]) hx hb dX3_workTo_6 hl (by decide) rfl (fun ls hl => ?_)
  refine lv_iconst (v := nI 0) hx hb dX3_workTo_8 (by decide) ?_
  refine lv_istore (lv' := [(5, .int (nI (0))), (4, .int (nI (0))), (3, .int (nI (w))), (0, .ref (hp)), (1, .int (nI (r))), (2, .int (nI (c)))]) hx hb dX3_workTo_9 hl (by decide) rfl (fun ls hl => ?_)
  have L11 : ∀ (nL11 : Nat) (i : Nat) (hi : i ≤ n) (hwk : sumN T i ≤ r) (hmL11 : n - i < nL11) (H : Heap) (locs : List Loc), kV G ([(hp, .inr (4, [.int (nI (w)), .ref (ak), .ref (au), .ref (az), .ref (at1), .int (nI (n))])), (ak, aN (kcI G) 6 K), (au, aN (kcI G) 6 U), (az, aZ (kcI G) 6 Z), (at1, aN (kcI G) 6 T)] ++ wr) H → va_S (kA G) s.heap H locs → ∀ (ls : Array Slot), lv_has ls 7 [(0, .ref (hp)), (1, .int (nI (r))), (2, .int (nI (c))), (3, .int (nI ((goS T Z 0 w (sumN T i)).2.2))), (4, .int (nI (sumN T i))), (5, .int (nI (i)))] → W pp l ee (headSpec wsX3_workTo ({ frames := 3, cells := 0, slots := 0, locals := 64 } : Room)).room s m [.ref (hp), .int (nI (r)), .int (nI (c))].toArray below meth cc0 H locs 0 0 (MQ below (kQi G (S := Unit) (fun q _ => q = nI (stV (K (goS T Z 0 w r).1) (U (goS T Z 0 w r).1) (goS T Z 0 w r).2.2 c)) (fun _ => [(hp, .inr (4, [.int (nI (w)), .ref (ak), .ref (au), .ref (az), .ref (at1), .int (nI (n))])), (ak, aN (kcI G) 6 K), (au, aN (kcI G) 6 U), (az, aZ (kcI G) 6 Z), (at1, aN (kcI G) 6 T)] ++ wr)) [.ref (hp), .int (nI (r)), .int (nI (c))].toArray s 0 0 (kA G)) (F0 m 11 ls []) := by
    intro nL11
    induction nL11 with
    | zero => intro i hi hwk hmL11; exact absurd hmL11 (Nat.not_lt_zero _)
    | succ nL11 ihL11 =>
      intro i hi hwk hmL11 H locs hV hS ls hl
      refine lv_iload hx hb dX3_workTo_11 (lv_at hl 5 rfl) ?_
      refine lv_aload_n hx hb dX3_workTo_13 rfl (lv_at hl 0 rfl) ?_
      refine va_get (D := kD G) (ci := 4) (v := .int (nI (n))) (C := RX3) (T := TX3) (N := 6) hx hb hts hinX3 hown hK hV.1 0 rfl rfl 5 (by decide) (hts (Cond.fieldLink RX3 24 "Yarncourt$Program" "lineCount" "I") (List.mem_of_getElem? (i := 2) rfl)) (fun _ h9 => h9) rfl dX3_workTo_14 ?_
      refine kn_ge (tgt := 85) hx hb (by omega) (by omega) dX3_workTo_17 (by decide) (fun z => absurd hr9 (by rw [show n = i from by omega]; omega)) (fun c17 => ?_)
      have hPi := hP i (by omega)
      refine lv_iconst (v := nI 0) hx hb dX3_workTo_20 (by decide) ?_
      refine lv_istore (lv' := [(6, .int (nI (0))), (0, .ref (hp)), (1, .int (nI (r))), (2, .int (nI (c))), (3, .int (nI ((goS T Z 0 w (sumN T i)).2.2))), (4, .int (nI (sumN T i))), (5, .int (nI (i)))]) hx hb dX3_workTo_21 hl (by decide) rfl (fun ls hl => ?_)
      have L23 : ∀ (nL23 : Nat) (j : Nat) (hj : j ≤ T i) (hwk2 : sumN T i + j ≤ r) (hmL23 : T i - j < nL23) (H : Heap) (locs : List Loc), kV G ([(hp, .inr (4, [.int (nI (w)), .ref (ak), .ref (au), .ref (az), .ref (at1), .int (nI (n))])), (ak, aN (kcI G) 6 K), (au, aN (kcI G) 6 U), (az, aZ (kcI G) 6 Z), (at1, aN (kcI G) 6 T)] ++ wr) H → va_S (kA G) s.heap H locs → ∀ (ls : Array Slot), lv_has ls 7 [(0, .ref (hp)), (1, .int (nI (r))), (2, .int (nI (c))), (3, .int (nI ((goS T Z 0 w (sumN T i + j)).2.2))), (4, .int (nI (sumN T i + j))), (5, .int (nI (i))), (6, .int (nI (j)))] → W pp l ee (headSpec wsX3_workTo ({ frames := 3, cells := 0, slots := 0, locals := 64 } : Room)).room s m [.ref (hp), .int (nI (r)), .int (nI (c))].toArray below meth cc0 H locs 0 0 (MQ below (kQi G (S := Unit) (fun q _ => q = nI (stV (K (goS T Z 0 w r).1) (U (goS T Z 0 w r).1) (goS T Z 0 w r).2.2 c)) (fun _ => [(hp, .inr (4, [.int (nI (w)), .ref (ak), .ref (au), .ref (az), .ref (at1), .int (nI (n))])), (ak, aN (kcI G) 6 K), (au, aN (kcI G) 6 U), (az, aZ (kcI G) 6 Z), (at1, aN (kcI G) 6 T)] ++ wr)) [.ref (hp), .int (nI (r)), .int (nI (c))].toArray s 0 0 (kA G)) (F0 m 23 ls []) := by
        intro nL23
        induction nL23 with
        | zero => intro j hj hwk2 hmL23; exact absurd hmL23 (Nat.not_lt_zero _)
        | succ nL23 ihL23 =>
          intro j hj hwk2 hmL23 H locs hV hS ls hl
          refine lv_iload hx hb dX3_workTo_23 (lv_at hl 6 rfl) ?_
          refine lv_aload_n hx hb dX3_workTo_25 rfl (lv_at hl 0 rfl) ?_
          refine va_get (D := kD G) (ci := 4) (v := .ref (at1)) (C := RX3) (T := TX3) (N := 6) hx hb hts hinX3 hown hK hV.1 0 rfl rfl 4 (by decide) (hts (Cond.fieldLink RX3 21 "Yarncourt$Program" "times" "[I") (List.mem_of_getElem? (i := 3) rfl)) (fun _ h9 => h9) rfl dX3_workTo_26 ?_
          refine lv_iload hx hb dX3_workTo_29 (lv_at hl 5 rfl) ?_
          refine kn_iald (G := G) (n := 6) (g := T) (j := i) hx hb hK hV 4 rfl (by omega) (by decide) dX3_workTo_31 ?_
          refine kn_ge (tgt := 79) hx hb (by omega) (by omega) dX3_workTo_32 (by decide) (fun c32 => ?_) (fun c32 => ?_)
          · refine lv_iinc (lv' := [(5, .int (nI (i + 1))), (0, .ref (hp)), (1, .int (nI (r))), (2, .int (nI (c))), (3, .int (nI ((goS T Z 0 w (sumN T i + j)).2.2))), (4, .int (nI (sumN T i + j))), (6, .int (nI (j)))]) hx hb dX3_workTo_79 hl (k := 5) rfl (kn_iinc i 1) (by decide) rfl (fun ls hl => ?_)
            refine lv_goto (tgt := 11) hx hb dX3_workTo_82 (by decide) ?_
            exact ihL11 (i + 1) (by omega) (by rw [sumN_s]; omega) (by omega) _ _ hV hS ls (by rw [show sumN T (i + 1) = sumN T i + j from by rw [sumN_s]; omega]; exact lv_sub hl [1, 2, 3, 4, 5, 0] rfl)
          · have hgi := goS_in (sh := Z) (w := w) hti (show i < n by omega) (show j < T (0 + i) by rw [Nat.zero_add]; omega)
            rw [hsT, Nat.zero_add] at hgi
            have hgw := goS_w (t := T) (sh := Z) (b := 0) hw (sumN T i + j)
            refine lv_iload hx hb dX3_workTo_35 (lv_at hl 4 rfl) ?_
            refine lv_iload_n hx hb dX3_workTo_37 rfl (lv_at hl 1 rfl) ?_
            refine kn_ne (tgt := 58) hx hb (by omega) (by omega) dX3_workTo_38 (by decide) (fun c38 => ?_) (fun c38 => ?_)
            · refine lv_iload_n hx hb dX3_workTo_58 rfl (lv_at hl 3 rfl) ?_
              refine lv_aload_n hx hb dX3_workTo_59 rfl (lv_at hl 0 rfl) ?_
              refine va_get (D := kD G) (ci := 4) (v := .ref (az)) (C := RX3) (T := TX3) (N := 6) hx hb hts hinX3 hown hK hV.1 0 rfl rfl 3 (by decide) (hts (Cond.fieldLink RX3 18 "Yarncourt$Program" "shaping" "[I") (List.mem_of_getElem? (i := 4) rfl)) (fun _ h9 => h9) rfl dX3_workTo_60 ?_
              refine lv_iload hx hb dX3_workTo_63 (lv_at hl 5 rfl) ?_
              refine kz_iald (G := G) (n := 6) (g := Z) (j := i) hx hb hK hV 3 rfl (by omega) (by decide) dX3_workTo_65 ?_
              refine kc_i (va_runSN (As := [.int (nI ((goS T Z 0 w (sumN T i + j)).2.2)), .int (zI (Z i))]) (rest := []) hF (c_X5_widthAfter l G ((goS T Z 0 w (sumN T i + j)).2.2) (Z i) ([(hp, .inr (4, [.int (nI (w)), .ref (ak), .ref (au), .ref (az), .ref (at1), .int (nI (n))])), (ak, aN (kcI G) 6 K), (au, aN (kcI G) 6 U), (az, aZ (kcI G) 6 Z), (at1, aN (kcI G) 6 T)] ++ wr) (by omega) (by omega)) ⟨va_cnB 2 hts gX3_workTo_X5_widthAfter_n46 rfl rfl rfl (hE.2.2.1 (Cond.methodLinkNest "Yarncourt$Program" 46 yX5_widthAfter "Yarncourt") (by decide +kernel)) (hts (Cond.initialized RX5) (List.mem_of_getElem? (i := 13) rfl)) (by decide +kernel) ⟨Nat.le_of_ble_eq_true rfl, Nat.le_of_ble_eq_true rfl⟩, (hts (Cond.static yX5_widthAfter) (List.mem_of_getElem? (i := 12) rfl)), trivial⟩ (kPreS hE hS hV) rfl rfl hl.1 rfl (lv_room (Nat.le_of_ble_eq_true rfl)) dX3_workTo_66 ⟨Nat.le_of_ble_eq_true rfl, Nat.le_of_ble_eq_true rfl⟩) hS (fun r_3 u_2 H locs hp_1 hV hS => ?_)
              subst hp_1
              have hV : kV G ([(hp, .inr (4, [.int (nI (w)), .ref (ak), .ref (au), .ref (az), .ref (at1), .int (nI (n))])), (ak, aN (kcI G) 6 K), (au, aN (kcI G) 6 U), (az, aZ (kcI G) 6 Z), (at1, aN (kcI G) 6 T)] ++ wr) H := hV
              refine lv_istore_n (lv' := [(3, .int (nI (clampW ((((goS T Z 0 w (sumN T i + j)).2.2) : Int) + (Z i))))), (0, .ref (hp)), (1, .int (nI (r))), (2, .int (nI (c))), (4, .int (nI (sumN T i + j))), (5, .int (nI (i))), (6, .int (nI (j)))]) hx hb dX3_workTo_69 rfl hl (by decide) rfl (fun ls hl => ?_)
              refine lv_iinc (lv' := [(4, .int (nI (sumN T i + j + 1))), (3, .int (nI (clampW ((((goS T Z 0 w (sumN T i + j)).2.2) : Int) + (Z i))))), (0, .ref (hp)), (1, .int (nI (r))), (2, .int (nI (c))), (5, .int (nI (i))), (6, .int (nI (j)))]) hx hb dX3_workTo_70 hl (k := 4) rfl (kn_iinc (sumN T i + j) 1) (by decide) rfl (fun ls hl => ?_)
              refine lv_iinc (lv' := [(6, .int (nI (j + 1))), (4, .int (nI (sumN T i + j + 1))), (3, .int (nI (clampW ((((goS T Z 0 w (sumN T i + j)).2.2) : Int) + (Z i))))), (0, .ref (hp)), (1, .int (nI (r))), (2, .int (nI (c))), (5, .int (nI (i)))]) hx hb dX3_workTo_73 hl (k := 6) rfl (kn_iinc j 1) (by decide) rfl (fun ls hl => ?_)
              refine lv_goto (tgt := 23) hx hb dX3_workTo_76 (by decide) ?_
              exact ihL23 (j + 1) (by omega) (by omega) (by omega) _ _ hV hS ls (by rw [show sumN T i + (j + 1) = sumN T i + j + 1 from rfl, goS_w1, hgi]; exact lv_sub hl [3, 4, 5, 2, 1, 6, 0] rfl)
            · refine lv_iload_n hx hb dX3_workTo_41 rfl (lv_at hl 2 rfl) ?_
              refine lv_iload_n hx hb dX3_workTo_42 rfl (lv_at hl 3 rfl) ?_
              refine kn_ge (tgt := 56) hx hb (by omega) (by omega) dX3_workTo_43 (by decide) (fun c43 => ?_) (fun c43 => ?_)
              · refine lv_iconst (v := nI 0) hx hb dX3_workTo_56 (by decide) ?_
                have e9 : sumN T i + j = r := c38
                exact W.iret (v := nI 0) hx hb hrt (fun t ht hW => ⟨⟨_, (), rfl, by rw [← e9, hgi]; unfold stV; rw [if_pos c43], kV_eq ht hV⟩, hS.F ht⟩) hS.2.2 dX3_workTo_57
              · refine lv_aload_n hx hb dX3_workTo_46 rfl (lv_at hl 0 rfl) ?_
                refine lv_iload hx hb dX3_workTo_47 (lv_at hl 5 rfl) ?_
                refine lv_iload_n hx hb dX3_workTo_49 rfl (lv_at hl 2 rfl) ?_
                refine kc_i (va_runV (As := [.int (nI (i)), .int (nI (c))]) (rest := []) hF (c_X3_workAlong l G hp ak au az at1 w n K U Z T wr i c (by omega) hPi.2.2.1 hPi.1 hPi.2.1 (by omega)) (cwV 2 hts gX3_workTo_X3_workAlong rfl rfl rfl (by decide +kernel) ⟨Nat.le_of_ble_eq_true rfl, Nat.le_of_ble_eq_true rfl⟩) (kPreV hE hS hV 0 rfl rfl) rfl rfl hl.1 rfl (lv_room (Nat.le_of_ble_eq_true rfl)) dX3_workTo_50 ⟨Nat.le_of_ble_eq_true rfl, Nat.le_of_ble_eq_true rfl⟩) hS (fun r_6 u_5 H locs hp_4 hV hS => ?_)
                subst hp_4
                have hV : kV G ([(hp, .inr (4, [.int (nI (w)), .ref (ak), .ref (au), .ref (az), .ref (at1), .int (nI (n))])), (ak, aN (kcI G) 6 K), (au, aN (kcI G) 6 U), (az, aZ (kcI G) 6 Z), (at1, aN (kcI G) 6 T)] ++ wr) H := hV
                refine lv_goto (tgt := 57) hx hb dX3_workTo_53 (by decide) ?_
                have e9 : sumN T i + j = r := c38
                exact W.iret (v := nI (if c % (K i + U i) < K i then 1 else 2)) hx hb hrt (fun t ht hW => ⟨⟨_, (), rfl, by rw [← e9, hgi]; unfold stV; rw [if_neg (by omega)], kV_eq ht hV⟩, hS.F ht⟩) hS.2.2 dX3_workTo_57
      exact L23 ((T i - 0) + 1) 0 (by omega) hwk (Nat.lt_succ_self _) _ _ hV hS ls (lv_sub hl [1, 2, 3, 4, 5, 6, 0] rfl)
  exact L11 ((n - 0) + 1) 0 (by omega) (Nat.zero_le _) (Nat.lt_succ_self _) _ _ hV hS ls (lv_sub hl [3, 4, 5, 2, 1, 0] rfl)
end
