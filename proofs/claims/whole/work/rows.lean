section
-- ===== PART A: goes FIRST, ahead of the names: the tables' words, and 'selects' of the private methods out of them =====
/-- a private method of a class that the tables say can be made, by its rows of tables_1 -/
def lw_okq (q : MethodName × Nat) : Prop := (q.1.cls ≠ "java/lang/invoke/MethodHandle" ∧ q.1.cls ≠ "java/lang/invoke/VarHandle") ∧ Cond.instantiable q.1.cls q.2 ∈ tables_1 ∧ Cond.privateMethod q.1 ∈ tables_1 ∧ Cond.instanceMethod q.1 ∈ tables_1
theorem lw_p0 : lw_okq (⟨"Layerwell", "longestSource", "()I"⟩, 4) := ⟨⟨by decide +kernel, by decide +kernel⟩, List.mem_of_getElem? (i := 19) (by decide +kernel), List.mem_of_getElem? (i := 163) (by decide +kernel), List.mem_of_getElem? (i := 164) (by decide +kernel)⟩
theorem lw_p1 : lw_okq (⟨"Layerwell$Trial", "fillDue", "(ILLayerwell$Row;LLayerwell$Row;)V"⟩, 6) := ⟨⟨by decide +kernel, by decide +kernel⟩, List.mem_of_getElem? (i := 44) (by decide +kernel), List.mem_of_getElem? (i := 171) (by decide +kernel), List.mem_of_getElem? (i := 172) (by decide +kernel)⟩
theorem lw_p2 : lw_okq (⟨"Layerwell$Trial", "putDue", "(LLayerwell$Row;LLayerwell$Row;IIZ)V"⟩, 6) := ⟨⟨by decide +kernel, by decide +kernel⟩, List.mem_of_getElem? (i := 44) (by decide +kernel), List.mem_of_getElem? (i := 183) (by decide +kernel), List.mem_of_getElem? (i := 184) (by decide +kernel)⟩
theorem lw_p3 : lw_okq (⟨"Layerwell$Trial", "holdsByBytes", "(ILLayerwell$Row;LLayerwell$Row;)Z"⟩, 6) := ⟨⟨by decide +kernel, by decide +kernel⟩, List.mem_of_getElem? (i := 44) (by decide +kernel), List.mem_of_getElem? (i := 195) (by decide +kernel), List.mem_of_getElem? (i := 196) (by decide +kernel)⟩
theorem lw_p4 : lw_okq (⟨"Layerwell$Trial", "start", "(ILLayerwell$Row;LLayerwell$Row;)V"⟩, 6) := ⟨⟨by decide +kernel, by decide +kernel⟩, List.mem_of_getElem? (i := 44) (by decide +kernel), List.mem_of_getElem? (i := 199) (by decide +kernel), List.mem_of_getElem? (i := 200) (by decide +kernel)⟩
theorem lw_p5 : lw_okq (⟨"Layerwell$Stream", "fillOut", "(LLayerwell$Row;LLayerwell$Row;)V"⟩, 8) := ⟨⟨by decide +kernel, by decide +kernel⟩, List.mem_of_getElem? (i := 50) (by decide +kernel), List.mem_of_getElem? (i := 207) (by decide +kernel), List.mem_of_getElem? (i := 208) (by decide +kernel)⟩
theorem lw_p6 : lw_okq (⟨"Layerwell$Trial", "readsRest", "()Z"⟩, 6) := ⟨⟨by decide +kernel, by decide +kernel⟩, List.mem_of_getElem? (i := 44) (by decide +kernel), List.mem_of_getElem? (i := 233) (by decide +kernel), List.mem_of_getElem? (i := 234) (by decide +kernel)⟩
theorem lw_p7 : lw_okq (⟨"Layerwell$Trial", "nextDue", "()I"⟩, 6) := ⟨⟨by decide +kernel, by decide +kernel⟩, List.mem_of_getElem? (i := 44) (by decide +kernel), List.mem_of_getElem? (i := 246) (by decide +kernel), List.mem_of_getElem? (i := 247) (by decide +kernel)⟩
theorem lw_p8 : lw_okq (⟨"Layerwell$Trial", "figuresAreDue", "()Z"⟩, 6) := ⟨⟨by decide +kernel, by decide +kernel⟩, List.mem_of_getElem? (i := 44) (by decide +kernel), List.mem_of_getElem? (i := 252) (by decide +kernel), List.mem_of_getElem? (i := 253) (by decide +kernel)⟩
theorem lw_p9 : lw_okq (⟨"Layerwell$Trial", "holdsInParts", "(ILLayerwell$Row;LLayerwell$Row;)Z"⟩, 6) := ⟨⟨by decide +kernel, by decide +kernel⟩, List.mem_of_getElem? (i := 44) (by decide +kernel), List.mem_of_getElem? (i := 258) (by decide +kernel), List.mem_of_getElem? (i := 259) (by decide +kernel)⟩
theorem lw_p10 : lw_okq (⟨"Layerwell$Trial", "partIsDue", "()Z"⟩, 6) := ⟨⟨by decide +kernel, by decide +kernel⟩, List.mem_of_getElem? (i := 44) (by decide +kernel), List.mem_of_getElem? (i := 279) (by decide +kernel), List.mem_of_getElem? (i := 280) (by decide +kernel)⟩
theorem lw_p11 : lw_okq (⟨"Layerwell$Trial", "holdsBehindSkip", "(ILLayerwell$Row;LLayerwell$Row;)Z"⟩, 6) := ⟨⟨by decide +kernel, by decide +kernel⟩, List.mem_of_getElem? (i := 44) (by decide +kernel), List.mem_of_getElem? (i := 283) (by decide +kernel), List.mem_of_getElem? (i := 284) (by decide +kernel)⟩
theorem lw_p12 : lw_okq (⟨"Layerwell$Trial", "skipsThird", "()Z"⟩, 6) := ⟨⟨by decide +kernel, by decide +kernel⟩, List.mem_of_getElem? (i := 44) (by decide +kernel), List.mem_of_getElem? (i := 287) (by decide +kernel), List.mem_of_getElem? (i := 288) (by decide +kernel)⟩
theorem lw_p13 : lw_okq (⟨"Layerwell$Trial", "holdsBroughtBack", "(ILLayerwell$Row;LLayerwell$Row;)Z"⟩, 6) := ⟨⟨by decide +kernel, by decide +kernel⟩, List.mem_of_getElem? (i := 44) (by decide +kernel), List.mem_of_getElem? (i := 298) (by decide +kernel), List.mem_of_getElem? (i := 299) (by decide +kernel)⟩
theorem lw_p14 : lw_okq (⟨"java/lang/Throwable", "fillInStackTrace", "(I)Ljava/lang/Throwable;"⟩, 6) := ⟨⟨by decide +kernel, by decide +kernel⟩, List.mem_of_getElem? (i := 347) (by decide +kernel), List.mem_of_getElem? (i := 345) (by decide +kernel), List.mem_of_getElem? (i := 346) (by decide +kernel)⟩
theorem lw_p15 : lw_okq (⟨"Layerwell", "sourceAt", "(I)LLayerwell$Row;"⟩, 4) := ⟨⟨by decide +kernel, by decide +kernel⟩, List.mem_of_getElem? (i := 19) (by decide +kernel), List.mem_of_getElem? (i := 399) (by decide +kernel), List.mem_of_getElem? (i := 400) (by decide +kernel)⟩
def lw_privs_1 : List (MethodName × Nat) := [(⟨"Layerwell", "longestSource", "()I"⟩, 4), (⟨"Layerwell$Trial", "fillDue", "(ILLayerwell$Row;LLayerwell$Row;)V"⟩, 6), (⟨"Layerwell$Trial", "putDue", "(LLayerwell$Row;LLayerwell$Row;IIZ)V"⟩, 6), (⟨"Layerwell$Trial", "holdsByBytes", "(ILLayerwell$Row;LLayerwell$Row;)Z"⟩, 6), (⟨"Layerwell$Trial", "start", "(ILLayerwell$Row;LLayerwell$Row;)V"⟩, 6), (⟨"Layerwell$Stream", "fillOut", "(LLayerwell$Row;LLayerwell$Row;)V"⟩, 8), (⟨"Layerwell$Trial", "readsRest", "()Z"⟩, 6), (⟨"Layerwell$Trial", "nextDue", "()I"⟩, 6), (⟨"Layerwell$Trial", "figuresAreDue", "()Z"⟩, 6), (⟨"Layerwell$Trial", "holdsInParts", "(ILLayerwell$Row;LLayerwell$Row;)Z"⟩, 6), (⟨"Layerwell$Trial", "partIsDue", "()Z"⟩, 6), (⟨"Layerwell$Trial", "holdsBehindSkip", "(ILLayerwell$Row;LLayerwell$Row;)Z"⟩, 6), (⟨"Layerwell$Trial", "skipsThird", "()Z"⟩, 6), (⟨"Layerwell$Trial", "holdsBroughtBack", "(ILLayerwell$Row;LLayerwell$Row;)Z"⟩, 6), (⟨"java/lang/Throwable", "fillInStackTrace", "(I)Ljava/lang/Throwable;"⟩, 6), (⟨"Layerwell", "sourceAt", "(I)LLayerwell$Row;"⟩, 4)]
theorem lw_r1 : ∀ q ∈ lw_privs_1, lw_okq q := List.forall_mem_cons.mpr ⟨lw_p0, List.forall_mem_cons.mpr ⟨lw_p1, List.forall_mem_cons.mpr ⟨lw_p2, List.forall_mem_cons.mpr ⟨lw_p3, List.forall_mem_cons.mpr ⟨lw_p4, List.forall_mem_cons.mpr ⟨lw_p5, List.forall_mem_cons.mpr ⟨lw_p6, List.forall_mem_cons.mpr ⟨lw_p7, List.forall_mem_cons.mpr ⟨lw_p8, List.forall_mem_cons.mpr ⟨lw_p9, List.forall_mem_cons.mpr ⟨lw_p10, List.forall_mem_cons.mpr ⟨lw_p11, List.forall_mem_cons.mpr ⟨lw_p12, List.forall_mem_cons.mpr ⟨lw_p13, List.forall_mem_cons.mpr ⟨lw_p14, List.forall_mem_cons.mpr ⟨lw_p15, fun _ h => absurd h List.not_mem_nil⟩⟩⟩⟩⟩⟩⟩⟩⟩⟩⟩⟩⟩⟩⟩⟩
theorem lw_p16 : lw_okq (⟨"Layerwell", "streamAt", "(I)LLayerwell$Stream;"⟩, 4) := ⟨⟨by decide +kernel, by decide +kernel⟩, List.mem_of_getElem? (i := 19) (by decide +kernel), List.mem_of_getElem? (i := 538) (by decide +kernel), List.mem_of_getElem? (i := 539) (by decide +kernel)⟩
theorem lw_p17 : lw_okq (⟨"Layerwell", "openStreamAt", "(I)LLayerwell$Stream;"⟩, 4) := ⟨⟨by decide +kernel, by decide +kernel⟩, List.mem_of_getElem? (i := 19) (by decide +kernel), List.mem_of_getElem? (i := 562) (by decide +kernel), List.mem_of_getElem? (i := 563) (by decide +kernel)⟩
theorem lw_p18 : lw_okq (⟨"LayerwellModel", "isNo", "(I)Z"⟩, 15) := ⟨⟨by decide +kernel, by decide +kernel⟩, List.mem_of_getElem? (i := 751) (by decide +kernel), List.mem_of_getElem? (i := 813) (by decide +kernel), List.mem_of_getElem? (i := 814) (by decide +kernel)⟩
theorem lw_p19 : lw_okq (⟨"LayerwellModel", "isThrown", "(ZI)Z"⟩, 15) := ⟨⟨by decide +kernel, by decide +kernel⟩, List.mem_of_getElem? (i := 751) (by decide +kernel), List.mem_of_getElem? (i := 820) (by decide +kernel), List.mem_of_getElem? (i := 821) (by decide +kernel)⟩
theorem lw_p20 : lw_okq (⟨"LayerwellModel", "adds", "(II)V"⟩, 15) := ⟨⟨by decide +kernel, by decide +kernel⟩, List.mem_of_getElem? (i := 751) (by decide +kernel), List.mem_of_getElem? (i := 824) (by decide +kernel), List.mem_of_getElem? (i := 825) (by decide +kernel)⟩
theorem lw_p21 : lw_okq (⟨"LayerwellModel", "at", "(II)I"⟩, 15) := ⟨⟨by decide +kernel, by decide +kernel⟩, List.mem_of_getElem? (i := 751) (by decide +kernel), List.mem_of_getElem? (i := 836) (by decide +kernel), List.mem_of_getElem? (i := 837) (by decide +kernel)⟩
theorem lw_p22 : lw_okq (⟨"LayerwellModel", "endsOf", "(I)I"⟩, 15) := ⟨⟨by decide +kernel, by decide +kernel⟩, List.mem_of_getElem? (i := 751) (by decide +kernel), List.mem_of_getElem? (i := 856) (by decide +kernel), List.mem_of_getElem? (i := 857) (by decide +kernel)⟩
theorem lw_p23 : lw_okq (⟨"LayerwellModel", "goesIn", "(IIZI)I"⟩, 15) := ⟨⟨by decide +kernel, by decide +kernel⟩, List.mem_of_getElem? (i := 751) (by decide +kernel), List.mem_of_getElem? (i := 867) (by decide +kernel), List.mem_of_getElem? (i := 868) (by decide +kernel)⟩
theorem lw_p24 : lw_okq (⟨"LayerwellModel", "comes", "(II)V"⟩, 15) := ⟨⟨by decide +kernel, by decide +kernel⟩, List.mem_of_getElem? (i := 751) (by decide +kernel), List.mem_of_getElem? (i := 871) (by decide +kernel), List.mem_of_getElem? (i := 872) (by decide +kernel)⟩
theorem lw_p25 : lw_okq (⟨"LayerwellModel", "isShut", "(II)Z"⟩, 15) := ⟨⟨by decide +kernel, by decide +kernel⟩, List.mem_of_getElem? (i := 751) (by decide +kernel), List.mem_of_getElem? (i := 887) (by decide +kernel), List.mem_of_getElem? (i := 888) (by decide +kernel)⟩
theorem lw_p26 : lw_okq (⟨"LayerwellModel", "passes", "(I)I"⟩, 15) := ⟨⟨by decide +kernel, by decide +kernel⟩, List.mem_of_getElem? (i := 751) (by decide +kernel), List.mem_of_getElem? (i := 891) (by decide +kernel), List.mem_of_getElem? (i := 892) (by decide +kernel)⟩
theorem lw_p27 : lw_okq (⟨"LayerwellModel", "leftOf", "(I)I"⟩, 15) := ⟨⟨by decide +kernel, by decide +kernel⟩, List.mem_of_getElem? (i := 751) (by decide +kernel), List.mem_of_getElem? (i := 895) (by decide +kernel), List.mem_of_getElem? (i := 896) (by decide +kernel)⟩
theorem lw_p28 : lw_okq (⟨"LayerwellModel", "outAt", "(II)I"⟩, 15) := ⟨⟨by decide +kernel, by decide +kernel⟩, List.mem_of_getElem? (i := 751) (by decide +kernel), List.mem_of_getElem? (i := 899) (by decide +kernel), List.mem_of_getElem? (i := 900) (by decide +kernel)⟩
theorem lw_p29 : lw_okq (⟨"LayerwellModel", "lineOf", "(I)I"⟩, 15) := ⟨⟨by decide +kernel, by decide +kernel⟩, List.mem_of_getElem? (i := 751) (by decide +kernel), List.mem_of_getElem? (i := 947) (by decide +kernel), List.mem_of_getElem? (i := 948) (by decide +kernel)⟩
def lw_privs_2 : List (MethodName × Nat) := [(⟨"Layerwell", "streamAt", "(I)LLayerwell$Stream;"⟩, 4), (⟨"Layerwell", "openStreamAt", "(I)LLayerwell$Stream;"⟩, 4), (⟨"LayerwellModel", "isNo", "(I)Z"⟩, 15), (⟨"LayerwellModel", "isThrown", "(ZI)Z"⟩, 15), (⟨"LayerwellModel", "adds", "(II)V"⟩, 15), (⟨"LayerwellModel", "at", "(II)I"⟩, 15), (⟨"LayerwellModel", "endsOf", "(I)I"⟩, 15), (⟨"LayerwellModel", "goesIn", "(IIZI)I"⟩, 15), (⟨"LayerwellModel", "comes", "(II)V"⟩, 15), (⟨"LayerwellModel", "isShut", "(II)Z"⟩, 15), (⟨"LayerwellModel", "passes", "(I)I"⟩, 15), (⟨"LayerwellModel", "leftOf", "(I)I"⟩, 15), (⟨"LayerwellModel", "outAt", "(II)I"⟩, 15), (⟨"LayerwellModel", "lineOf", "(I)I"⟩, 15)]
theorem lw_r2 : ∀ q ∈ lw_privs_2, lw_okq q := List.forall_mem_cons.mpr ⟨lw_p16, List.forall_mem_cons.mpr ⟨lw_p17, List.forall_mem_cons.mpr ⟨lw_p18, List.forall_mem_cons.mpr ⟨lw_p19, List.forall_mem_cons.mpr ⟨lw_p20, List.forall_mem_cons.mpr ⟨lw_p21, List.forall_mem_cons.mpr ⟨lw_p22, List.forall_mem_cons.mpr ⟨lw_p23, List.forall_mem_cons.mpr ⟨lw_p24, List.forall_mem_cons.mpr ⟨lw_p25, List.forall_mem_cons.mpr ⟨lw_p26, List.forall_mem_cons.mpr ⟨lw_p27, List.forall_mem_cons.mpr ⟨lw_p28, List.forall_mem_cons.mpr ⟨lw_p29, fun _ h => absurd h List.not_mem_nil⟩⟩⟩⟩⟩⟩⟩⟩⟩⟩⟩⟩⟩⟩
def lw_privs : List (MethodName × Nat) := lw_privs_1 ++ (lw_privs_2)
def lw_tbl : List Cond := k2_sels lw_privs ++ tables_1
theorem lw_privs_ok : ∀ q ∈ lw_privs, lw_okq q := by
  show ∀ q ∈ lw_privs_1 ++ (lw_privs_2), lw_okq q
  exact List.forall_mem_append.mpr ⟨lw_r1, lw_r2⟩
/-- the streams that the claim lets the run draw from -/
abbrev lw_cs : List Choice := [Jvm.Choice.named "NaN.bits"]
theorem lw_bits : nanBits ∈ lw_cs := by first | decide | exact List.mem_cons_self | simp [lw_cs, nanBits]
end
section
/-! ===== BEGIN words of one list among another's, by their places ===== -/
theorem goodIn_r {big : List Cond} (ws : List Cond) (ps : List Nat) (hp : ws = ps.filterMap (fun i => big[i]?)) (h : ws.all goodWord = true) : GoodIn big ws := by
  intro w hw
  have h1 := List.all_eq_true.mp h w hw
  rw [hp] at hw
  obtain ⟨i, -, hi⟩ := List.mem_filterMap.mp hw
  have hm : w ∈ big := by first | exact List.mem_of_getElem? hi | exact List.getElem?_mem hi
  exact ⟨hm, good_of_word h1⟩
theorem goodIn_app {big a b : List Cond} (ha : GoodIn big a) (hb : GoodIn big b) : GoodIn big (a ++ b) := fun w h => (List.mem_append.mp h).elim (ha w) (hb w)
theorem goodIn_ca {big a b : List Cond} {c : Cond} (ha : GoodIn big (c :: a)) (hb : GoodIn big b) : GoodIn big (c :: (a ++ b)) := fun w h => (List.mem_cons.mp h).elim (fun e => ha w (List.mem_cons.mpr (Or.inl e))) (fun h => (List.mem_append.mp h).elim (fun h => ha w (List.mem_cons.mpr (Or.inr h))) (hb w))
theorem goodIn_sub {big ws : List Cond} (hm : ∀ w ∈ ws, w ∈ big) (h : ws.all goodWord = true) : GoodIn big ws := fun w hw => ⟨hm w hw, good_of_word (List.all_eq_true.mp h w hw)⟩
/-! ===== END ===== -/

/-! ===== BEGIN exceptions that leave a method, and their catching by the caller (launches without stack traces) ===== -/
section VXA
/-! The laws vx_back, vx_callV, vx_callS, vx_callSW, vx_throw0, vx_throwS follow proofs of the library, with one case more: JvmDerived/Free/Laws.lean (Back.of_free), Shelf42/LK1.lean (callV, callS), Shelf/KitTraced.lean (throwNew0V, throwNewS). -/
/-- where a method has thrown q: the class by its name, the cell, what was written, the world -/
def vx_T (XC : String → State → State → Prop) (st : State) (q : Addr) (t : State) (mc ms : Nat) (free : Addr → Prop) : Prop :=
  ∃ (E : String) (ce : Cell) (L : List Loc), XC E st t ∧ t.heap[q]? = some ce ∧ ce.vm = .none ∧ st.vm.findClass E = some ce.cls ∧ st.WarmedH t.vm ∧ st.sameButNew ({ t with vm := st.vm } : State) L mc ms ∧ ∀ z ∈ L, free z.base
def vx_Q (Qc : Array Value → State → Outcome → State → Prop) (XC : String → State → State → Prop) (mc ms : Nat) (free : Addr → Prop) : Array Value → State → Outcome → State → Prop := fun a st o t =>
  (Qc a st o t ∧ ∃ L, FrameEnd st o t L mc ms ∧ ∀ q ∈ L, free q.base) ∨ ∃ q, o = .threw q ∧ vx_T XC st q t mc ms free
/-- a callee that returns or throws -/
def vx_Met (l : Launch) (y : MethodName) (ws : List Cond) (rm : Room) (Pc : Array Value → State → Prop) (Qc : Array Value → State → Outcome → State → Prop) (XC : String → State → State → Prop) (mc ms : Nat) (free : Addr → Prop) : Prop :=
  MetFree l y (headSpec ws rm) Pc (fun _ _ _ _ _ => True) (vx_Q Qc XC mc ms free)
def vx_Post (XC : String → State → State → Prop) (mc ms : Nat) (free : Addr → Prop) : Pt → Array Value → Addr → Pt → Prop := fun A a q B =>
  ∃ (g : JFrame) (mk : MethodId) (t : State) (L : List Loc) (E : String) (ce : Cell), B.U.heap = t.heap ∧ B.U.vm = t.vm ∧ XC E (A.U.calling g mk a) t ∧ t.heap[q]? = some ce ∧ ce.vm = .none ∧ A.U.vm.findClass E = some ce.cls ∧ B.locs = A.locs ++ L ∧ (∀ z ∈ L, free z.base) ∧ B.cells = A.cells + mc ∧ B.slots = A.slots + ms
def vx_Back (l : Launch) (R : Room) (p : Program) (e : Env) (below : List Frame) (s : State) (sargs : Array Value) (y : MethodName) (len W9 : Nat)
    (Pre : Pt → Array Value → Prop) (Post : Pt → Array Value → Option Value → Pt → Prop) (PostX : Pt → Array Value → Addr → Pt → Prop) : Prop :=
  ∀ (m : MethodId) (meth : Method) (c : Code) (A : Pt) (g : JFrame) (ig : Instr) (mk : MethodId) (a : Array Value),
    Stand p l e R s m sargs below meth c A.U A.locs A.cells A.slots → g.method = m → g.locals.size = c.maxLocals → decode c.code g.pc = .ok (ig, len) →
    2 * g.monitorRoom + (g.stack.map fun v => v.category).sum ≤ W9 → A.U.methodNamed? y = some mk → Pre A a →
    (∃ (v : Option Value) (B : Pt), Stand p l e R s m sargs below meth c B.U B.locs B.cells B.slots ∧ Post A a v B ∧
      Steps p.tables e below (doInvoke e (A.U.setTop g) [] mk a).1 (B.U.setTop { g with pc := g.pc + len, stack := v.toList ++ g.stack })) ∨
    (∃ (q : Addr) (B : Pt), Stand p l e R s m sargs below meth c B.U B.locs B.cells B.slots ∧ PostX A a q B ∧
      Steps p.tables e below (doInvoke e (A.U.setTop g) [] mk a).1 ((B.U.setTop g).pushFrame (.throwing q)))
section Payer
variable {l : Launch} {R : Room} {p : Program} {e : Env} {below : List Frame} {s : State} {sargs : Array Value} {y : MethodName} {len W9 : Nat}
theorem vx_back {ws : List Cond} {rm : Room} {Pc : Array Value → State → Prop} {Qc : Array Value → State → Outcome → State → Prop} {XC : String → State → State → Prop} {mc ms : Nat} {free : Addr → Prop} {bytes : ByteArray} {maxL : Nat} {ret : Option FieldType}
    (hM : vx_Met l y ws rm Pc Qc XC mc ms free) (hblind : FrameBlind Pc) (hrc : rm.cells = mc) (hrs : rm.slots = ms)
    (hframes : rm.frames + 1 ≤ R.frames) (hlocals : W9 + (maxL + 11) + rm.locals ≤ R.locals)
    (hws : ∀ w ∈ ws, ∀ a' U, s.WarmedH U.vm → w.before a' U = true) (hcode : Cond.code y bytes maxL ret ∈ ws) (hinit : ∀ a' U, s.WarmedH U.vm → (Cond.initialized y.cls).before a' U = true) :
    vx_Back l R p e below s sargs y len W9 (PreOf R mc ms Pc) (PostOf Qc mc ms free) (vx_Post XC mc ms free) := by
  intro m meth c A g ig mk a X hg hsize hdg hW hn hp
  have h1 : (headSpec ws rm).pre.before a A.U = true := atoms_intro fun w hw => hws w hw _ _ X.warmed
  have h2 : (Cond.code y bytes maxL ret).before a A.U = true := hws _ hcode _ _ X.warmed
  have h3 : (Cond.initialized y.cls).before a A.U = true := hinit _ _ X.warmed
  have h4 : A.cells + (headSpec ws rm).room.cells ≤ R.cells := by rw [show (headSpec ws rm).room.cells = mc from hrc]; exact hp.1
  have h5 : A.slots + (headSpec ws rm).room.slots ≤ R.slots := by rw [show (headSpec ws rm).room.slots = ms from hrs]; exact hp.2.1
  have hPc : Pc a (A.U.calling g mk a) := hblind _ _ _ _ hp.2.2
  obtain ⟨U, Ls, c0, s0⟩ := A
  dsimp only [Pt.U, Pt.locs, Pt.cells, Pt.slots] at h1 h2 h3 h4 h5 X hn hPc ⊢
  obtain ⟨methY, cY, hmY, hcY, -, hlY, -, -, -, -⟩ := Cond.code_spec hn h2
  obtain ⟨kY, hkY, -⟩ := className_of_methodNamed hn
  have hinitY : kY.init = .initialized := Cond.initialized_spec (findClass_of_methodNamed hn) hkY h3
  have h : At U g.method c below := by rw [hg]; exact X.here
  have hlocals9 : W9 + (maxL + 11) + (headSpec ws rm).room.locals ≤ R.locals := hlocals
  have happ : (headSpec ws rm).appliesLoose y e.platform (U.calling g mk a) = true :=
    Spec.appliesLoose_calling (g := g) h hdg hn hkY hinitY
      (X.room_calling (g := g) (R' := (headSpec ws rm).room) hsize hmY hcY hframes (by rw [hlY]; omega) h4 h5) h1
  obtain ⟨mid, hmid⟩ := h.above
  have hfr : (U.setTop g).frames = (.java g :: mid) ++ below := by rw [State.frames_setTop' g h.top, hmid]; rfl
  obtain ⟨o, s₂, hsteps, -, hend, hq⟩ := Steps.callFree hM p X.admits X.cas X.clock (acts := []) hfr happ hPc trivial
  have hq' : vx_Q Qc XC mc ms free a (U.calling g mk a) o s₂ := hq
  rw [State.frames_setTop' g h.top] at hend
  obtain ⟨g₀, hg0⟩ := Option.isSome_iff_exists.mp h.top
  obtain ⟨r, hr⟩ := State.topJava?_eq_some.mp hg0
  have hr' : (({ U with heap := s₂.heap, slotsUsed := s₂.slotsUsed } : State).setVm s₂.vm).frames = .java g₀ :: r := hr
  rcases hq' with ⟨hqc, L, hfe, hL⟩ | ⟨q, rfl, E, ce, L, hx, hce, hcv, hcl, hW₂, hsm, hL⟩
  · obtain ⟨⟨v, rfl⟩, hW₂, e2, q2, q3, q4, q5, q6⟩ := id hfe
    have e3 : s₂ = ({ (U.calling g mk a).setFrames s₂.frames with heap := s₂.heap, slotsUsed := s₂.slotsUsed } : State).setVm s₂.vm := by
      have : s₂ = ({ s₂ with vm := (U.calling g mk a).vm } : State).setVm s₂.vm := rfl
      rw [e2] at this
      exact this
    obtain ⟨c₂, i₂, len₂, hc₂, hd₂, hf₂⟩ := hend
    have hW' : U.WarmedH s₂.vm := hW₂
    have hcc : c₂ = c := by
      have h1 : s₂.code? g.method = U.code? g.method := by
        rw [State.code?_eq, State.code?_eq, hW'.alike.method?]
      exact Option.some.inj (hc₂.symm.trans (h1.trans h.code))
    subst hcc
    have hlen : len₂ = len := by rw [hdg] at hd₂; cases hd₂; rfl
    subst hlen
    have hs₂ : s₂ = (({ U with heap := s₂.heap, slotsUsed := s₂.slotsUsed } : State).setVm s₂.vm).setTop { g with pc := g.pc + len₂, stack := v.toList ++ g.stack } := by
      refine e3.trans ?_
      rw [hf₂, State.calling_eq h.top, State.setFrames_setFrames, State.setTop_of_frames _ hr', hr]
      rfl
    have hsame : U.sameButNew ({ U with heap := s₂.heap, slotsUsed := s₂.slotsUsed } : State) L mc ms := by
      refine ⟨?_, q2, q3, q4, q5, q6⟩
      obtain ⟨t, ht, -⟩ := State.frames_cons hr
      show ({ U with heap := s₂.heap, slotsUsed := s₂.slotsUsed } : State) = { U.setFrames U.frames with heap := s₂.heap, slotsUsed := s₂.slotsUsed }
      rw [State.setFrames_self ht]
    subst hg
    refine Or.inl ⟨v, ⟨(({ U with heap := s₂.heap, slotsUsed := s₂.slotsUsed } : State).setVm s₂.vm), Ls ++ L, c0 + mc, s0 + ms⟩,
      ⟨X.admits, X.cas, X.clock, X.frames, X.room, X.hears, X.method, X.code, (X.here.setHeapUsed s₂.heap s₂.slotsUsed).setVm hW'.alike, X.tail, State.WarmedH.trans X.warmed hW', X.limits, X.bytes, X.same.trans (hsame.setVm s.vm)⟩,
      ⟨g, mk, s₂, L, rfl, rfl, hqc, rfl, hL, rfl, rfl⟩, ?_⟩
    show Steps p.tables e below _ ((({ U with heap := s₂.heap, slotsUsed := s₂.slotsUsed } : State).setVm s₂.vm).setTop { g with pc := g.pc + len₂, stack := v.toList ++ g.stack })
    rw [← hs₂]
    exact hsteps
  · obtain ⟨e2, q2, q3, q4, q5, q6⟩ := id hsm
    have e3 : s₂ = ({ (U.calling g mk a).setFrames s₂.frames with heap := s₂.heap, slotsUsed := s₂.slotsUsed } : State).setVm s₂.vm := by
      have : s₂ = ({ s₂ with vm := (U.calling g mk a).vm } : State).setVm s₂.vm := rfl
      rw [e2] at this
      exact this
    have hf₂ : s₂.frames = .throwing q :: .java g :: U.frames.tail := hend
    have hW' : U.WarmedH s₂.vm := hW₂
    have hs₂ : s₂ = ((({ U with heap := s₂.heap, slotsUsed := s₂.slotsUsed } : State).setVm s₂.vm).setTop g).pushFrame (.throwing q) := by
      refine e3.trans ?_
      rw [hf₂, State.calling_eq h.top, State.setFrames_setFrames, State.pushFrame, State.frames_setTop _ hr', State.setTop_of_frames _ hr', State.setFrames_setFrames, hr]
      rfl
    have hsame : U.sameButNew ({ U with heap := s₂.heap, slotsUsed := s₂.slotsUsed } : State) L mc ms := by
      refine ⟨?_, q2, q3, q4, q5, q6⟩
      obtain ⟨t, ht, -⟩ := State.frames_cons hr
      show ({ U with heap := s₂.heap, slotsUsed := s₂.slotsUsed } : State) = { U.setFrames U.frames with heap := s₂.heap, slotsUsed := s₂.slotsUsed }
      rw [State.setFrames_self ht]
    subst hg
    refine Or.inr ⟨q, ⟨(({ U with heap := s₂.heap, slotsUsed := s₂.slotsUsed } : State).setVm s₂.vm), Ls ++ L, c0 + mc, s0 + ms⟩,
      ⟨X.admits, X.cas, X.clock, X.frames, X.room, X.hears, X.method, X.code, (X.here.setHeapUsed s₂.heap s₂.slotsUsed).setVm hW'.alike, X.tail, State.WarmedH.trans X.warmed hW', X.limits, X.bytes, X.same.trans (hsame.setVm s.vm)⟩,
      ⟨g, mk, s₂, L, E, ce, rfl, rfl, hx, hce, hcv, hcl, rfl, hL, rfl, rfl⟩, ?_⟩
    show Steps p.tables e below _ (((({ U with heap := s₂.heap, slotsUsed := s₂.slotsUsed } : State).setVm s₂.vm).setTop g).pushFrame (.throwing q))
    rw [← hs₂]
    exact hsteps
end Payer
section Calls
variable {p : Program} {l : Launch} {e : Env} {R : Room} {s : State} {m : MethodId} {args : Array Value} {below : List Frame} {meth : Method} {c : Code} {T : State} {locs : List Loc} {cells slots : Nat}
theorem vx_callV (X : Stand p l e R s m args below meth c T locs cells slots) (hexec : p.tables.exec = Jvm.exec) {own C : String} {index : Nat} {y : MethodName} {bytes : ByteArray} {maxL : Nat} {ret : Option FieldType}
    (hown : s.vm.findClass own = some m.cls) (hlink : (Cond.methodLink own index y).before args s = true) (hinst : (Cond.instanceMethod y).before args s = true) (hsel : (Cond.selects C y y).before args s = true)
    (hcode : (Cond.code y bytes maxL ret).before args s = true) (hy : y.cls ≠ "java/lang/invoke/MethodHandle" ∧ y.cls ≠ "java/lang/invoke/VarHandle")
    {W9 : Nat} {Pre : Pt → Array Value → Prop} {Post : Pt → Array Value → Option Value → Pt → Prop} {PostX : Pt → Array Value → Addr → Pt → Prop} (hK : vx_Back l R p e below s args y 3 W9 Pre Post PostX)
    {b : Addr} {cellB : Cell} (hcell : T.heap[b]? = some cellB) (hobj : cellB.vm.isStatics = false) (hcls : s.vm.findClass C = some cellB.cls)
    {g : JFrame} (hg : g.method = m) (hsize : g.locals.size = c.maxLocals) {argsL rest : List Value} (hlen : ∀ sig, parseMethodDescriptor y.desc = some sig → argsL.length = sig.parameters.length)
    (hstack : g.stack = argsL.reverse ++ .ref b :: rest) (hW : 2 * g.monitorRoom + (rest.map fun v => v.category).sum ≤ W9) (hdg : decode c.code g.pc = .ok (.invokevirtual index, 3))
    (hpre : ∀ vm₁, s.WarmedH vm₁ → Pre ⟨T.setVm vm₁, locs, cells, slots⟩ (Value.ref b :: argsL).toArray) :
    (∃ (v : Option Value) (vm₁ : Vm) (B : Pt), s.WarmedH vm₁ ∧ Stand p l e R s m args below meth c B.U B.locs B.cells B.slots ∧ Post ⟨T.setVm vm₁, locs, cells, slots⟩ (Value.ref b :: argsL).toArray v B ∧
      ∀ target, Steps p.tables e below (B.U.setTop { g with pc := g.pc + 3, stack := v.toList ++ rest }) target → Steps p.tables e below (T.setTop g) target) ∨
    (∃ (q : Addr) (vm₁ : Vm) (B : Pt), s.WarmedH vm₁ ∧ Stand p l e R s m args below meth c B.U B.locs B.cells B.slots ∧ PostX ⟨T.setVm vm₁, locs, cells, slots⟩ (Value.ref b :: argsL).toArray q B ∧
      Steps p.tables e below (T.setTop g) ((B.U.setTop { g with stack := rest }).pushFrame (.throwing q))) := by
  obtain ⟨mk, methM, hnamed, hmethM, hstM, habM⟩ := Cond.instanceMethod_spec hinst
  obtain ⟨methM', cM, hmethM', -, -, -, -, -, -, hsigM⟩ := Cond.code_spec hnamed hcode
  cases hmethM.symm.trans hmethM'
  obtain ⟨c2, r2, m2, q1, q2, q3, q4, kP, hkP, hkPi⟩ := Cond.selects_spec hsel
  cases hcls.symm.trans q1
  cases (State.methodFound?_of_named hnamed hy).symm.trans q2
  cases hnamed.symm.trans q3
  have hselP : selectMethod e.platform s.vm cellB.cls mk = .method mk := by rw [Launch.admits_selectMethod X.admits]; exact q4
  obtain ⟨vm₁, X₁, hstep₁⟩ := X.invokevirtual hexec hown hlink hnamed hmethM hstM hkP hkPi hy (a := b) (cell := cellB) hcell
    (fun z h => by rw [h] at hobj; cases hobj) hselP hmethM habM hkP hkPi (g := g) hg (argsL := argsL) (rest := rest) (hlen _ hsigM) hstack hdg
  rcases hK m meth c ⟨T.setVm vm₁, locs, cells, slots⟩ { g with stack := rest } (.invokevirtual index) mk (Value.ref b :: argsL).toArray X₁ hg hsize hdg hW (X₁.named hnamed) (hpre vm₁ X₁.warmed) with ⟨v, B, X', hpost, hsteps⟩ | ⟨q, B, X', hpost, hsteps⟩
  · exact Or.inl ⟨v, vm₁, B, X₁.warmed, X', hpost, fun target h => hstep₁ _ fun acts => by rw [doInvoke_state]; exact hsteps.trans h⟩
  · exact Or.inr ⟨q, vm₁, B, X₁.warmed, X', hpost, hstep₁ _ fun acts => by rw [doInvoke_state]; exact hsteps⟩
theorem vx_callS (X : Stand p l e R s m args below meth c T locs cells slots) (hexec : p.tables.exec = Jvm.exec) {own : String} {index : Nat} {y : MethodName} {bytes : ByteArray} {maxL : Nat} {ret : Option FieldType}
    (hown : s.vm.findClass own = some m.cls) (hlink : (Cond.methodLink own index y).before args s = true) (hstat : (Cond.static y).before args s = true) (hinit : (Cond.initialized y.cls).before args s = true)
    (hcode : (Cond.code y bytes maxL ret).before args s = true) (hy : y.cls ≠ "java/lang/invoke/MethodHandle" ∧ y.cls ≠ "java/lang/invoke/VarHandle")
    {W9 : Nat} {Pre : Pt → Array Value → Prop} {Post : Pt → Array Value → Option Value → Pt → Prop} {PostX : Pt → Array Value → Addr → Pt → Prop} (hK : vx_Back l R p e below s args y 3 W9 Pre Post PostX)
    {g : JFrame} (hg : g.method = m) (hsize : g.locals.size = c.maxLocals) {argsL rest : List Value} (hlen : ∀ sig, parseMethodDescriptor y.desc = some sig → argsL.length = sig.parameters.length)
    (hstack : g.stack = argsL.reverse ++ rest) (hW : 2 * g.monitorRoom + (rest.map fun v => v.category).sum ≤ W9) (hdg : decode c.code g.pc = .ok (.invokestatic index, 3))
    (hpre : ∀ vm₁, s.WarmedH vm₁ → Pre ⟨T.setVm vm₁, locs, cells, slots⟩ argsL.toArray) :
    (∃ (v : Option Value) (vm₁ : Vm) (B : Pt), s.WarmedH vm₁ ∧ Stand p l e R s m args below meth c B.U B.locs B.cells B.slots ∧ Post ⟨T.setVm vm₁, locs, cells, slots⟩ argsL.toArray v B ∧
      ∀ target, Steps p.tables e below (B.U.setTop { g with pc := g.pc + 3, stack := v.toList ++ rest }) target → Steps p.tables e below (T.setTop g) target) ∨
    (∃ (q : Addr) (vm₁ : Vm) (B : Pt), s.WarmedH vm₁ ∧ Stand p l e R s m args below meth c B.U B.locs B.cells B.slots ∧ PostX ⟨T.setVm vm₁, locs, cells, slots⟩ argsL.toArray q B ∧
      Steps p.tables e below (T.setTop g) ((B.U.setTop { g with stack := rest }).pushFrame (.throwing q))) := by
  obtain ⟨mk, hnamed⟩ := Cond.code_named hcode
  obtain ⟨methM, cM, hmethM, -, -, -, -, -, -, hsigM⟩ := Cond.code_spec hnamed hcode
  have hstatic : methM.isStatic = true := Cond.static_spec hnamed hmethM hstat
  obtain ⟨kP, hkP, -⟩ := className_of_methodNamed hnamed
  have hinitP : kP.init = .initialized := Cond.initialized_spec (findClass_of_methodNamed hnamed) hkP hinit
  obtain ⟨vm₁, X₁, hstep₁⟩ := X.invokestatic hexec hown hlink hnamed hmethM hstatic hkP hinitP hy (g := g) hg (argsL := argsL) (rest := rest) (hlen _ hsigM) hstack hdg
  rcases hK m meth c ⟨T.setVm vm₁, locs, cells, slots⟩ { g with stack := rest } (.invokestatic index) mk argsL.toArray X₁ hg hsize hdg hW (X₁.named hnamed) (hpre vm₁ X₁.warmed) with ⟨v, B, X', hpost, hsteps⟩ | ⟨q, B, X', hpost, hsteps⟩
  · exact Or.inl ⟨v, vm₁, B, X₁.warmed, X', hpost, fun target h => hstep₁ _ fun acts => by rw [doInvoke_state]; exact hsteps.trans h⟩
  · exact Or.inr ⟨q, vm₁, B, X₁.warmed, X', hpost, hstep₁ _ fun acts => by rw [doInvoke_state]; exact hsteps⟩
end Calls
theorem vx_cls {s : State} {T : State} {vm₁ : Vm} {E : String} {k : ClassId} (hW : s.WarmedH vm₁) (h : (T.setVm vm₁).vm.findClass E = some k) : s.vm.findClass E = some k := by
  have h1 : vm₁.findClass E = some k := h
  rw [hW.alike.findClass] at h1
  exact h1
/-- the method's frame g, with q thrown over it -/
def vx_W (p : Program) (l : Launch) (e : Env) (R : Room) (s : State) (m : MethodId) (args : Array Value) (below : List Frame) (meth : Method) (c : Code) (H : Heap) (locs : List Loc) (cells slots : Nat) (Q : State → Prop) (g : JFrame) (q : Addr) : Prop :=
  ∀ T : State, T.heap = H → Stand p l e R s m args below meth c T locs cells slots → ∃ t, Steps p.tables e below ((T.setTop g).pushFrame (.throwing q)) t ∧ Q t
def vx_Run (p : Program) (l : Launch) (e : Env) (R : Room) (s : State) (m : MethodId) (args : Array Value) (below : List Frame) (meth : Method) (c : Code) (H : Heap) (locs : List Loc) (cells slots mc ms : Nat) (g : JFrame) (rest : List Value) (Qa : State → Outcome → State → Prop) (XC : String → State → State → Prop) (free : Addr → Prop) : Prop :=
  ∀ T : State, T.heap = H → Stand p l e R s m args below meth c T locs cells slots →
    (∃ (v : Option Value) (st₀ t T' : State) (L : List Loc), st₀.heap = H ∧ Stand p l e R s m args below meth c T' (locs ++ L) (cells + mc) (slots + ms) ∧ (∀ q ∈ L, free q.base) ∧ T'.heap = t.heap ∧ T'.vm = t.vm ∧ Qa st₀ (.returned v) t ∧
      Goes p e below T g T' { g with pc := g.pc + 3, stack := v.toList ++ rest }) ∨
    (∃ (q : Addr) (st₀ t T' : State) (L : List Loc) (E : String) (ce : Cell), st₀.heap = H ∧ Stand p l e R s m args below meth c T' (locs ++ L) (cells + mc) (slots + ms) ∧ (∀ z ∈ L, free z.base) ∧ T'.heap = t.heap ∧ T'.vm = t.vm ∧ XC E st₀ t ∧ t.heap[q]? = some ce ∧ ce.vm = .none ∧ s.vm.findClass E = some ce.cls ∧
      Steps p.tables e below (T.setTop g) ((T'.setTop { g with stack := rest }).pushFrame (.throwing q)))
def vx_X {S : Type} (px : S → Prop) (B : String → S → State → Prop) (A : Nat → Prop) : String → State → State → Prop := fun E st t => ∃ u : S, px u ∧ B E u t ∧ va_F A st t
section Runs
variable {p : Program} {l : Launch} {e : Env} {R : Room} {s : State} {m : MethodId} {args : Array Value} {below : List Frame} {meth : Method} {c : Code} {H : Heap} {locs : List Loc} {cells slots : Nat}
variable {y : MethodName} {bytes cc : ByteArray} {maxL nL mc ms n index : Nat} {ret : Option FieldType} {ws : List Cond} {rm : Room} {Pc : Array Value → State → Prop} {Qc : Array Value → State → Outcome → State → Prop} {XC : String → State → State → Prop} {free : Addr → Prop} {Ts : List Cond} {own C : String} {b : Addr} {As rest : List Value} {g : JFrame}
theorem vx_callBack (cb : CallB R s args own index y bytes maxL ret ws rm mc ms n) (hM : vx_Met l y ws rm Pc Qc XC mc ms free) (hbl : FrameBlind Pc) : vx_Back l R p e below s args y 3 8 (PreOf R mc ms Pc) (PostOf Qc mc ms free) (vx_Post XC mc ms free) := by
  obtain ⟨hrc, hrs, hfr, hlo, hws, hcw, -, hini, -⟩ := cb
  exact vx_back (bytes := bytes) (maxL := maxL) (ret := ret) hM hbl hrc hrs hfr hlo hws hcw (fun a' U hW => word_at hW (Or.inl (by first | rfl | simp [Cond.onTables, Cond.keeps, Cond.steady])) hini)
theorem vx_runV (S : CallFix p m c cc nL s args Ts own) (hM : vx_Met l y ws rm Pc Qc XC mc ms free) (cw : CallW R s args own C index y bytes maxL ret ws rm mc ms n) (hp : PreV s H C b Pc As)
    (hg : g.method = m) (hn : As.length = n) (hsize : g.locals.size = nL) (hstack : g.stack = As.reverse ++ .ref b :: rest) (hW : 2 * g.monitorRoom + (rest.map fun v => v.category).sum ≤ 8) (hdg : decode cc g.pc = .ok (.invokevirtual index, 3)) (hf : cells + mc ≤ R.cells ∧ slots + ms ≤ R.slots) :
    vx_Run p l e R s m args below meth c H locs cells slots mc ms g rest (Qc (Value.ref b :: As).toArray) XC free := by
  have hK : vx_Back l R p e below s args y 3 8 (PreOf R mc ms Pc) (PostOf Qc mc ms free) (vx_Post XC mc ms free) := vx_callBack cw.1 hM hp.1
  obtain ⟨⟨-, -, -, -, -, -, hcode, -, hy, hlen, hl⟩, hin, hse⟩ := cw
  obtain ⟨hx, hb, hml, ho, -⟩ := S
  obtain ⟨-, ⟨cellB, hcB, hoB, hclB⟩, hPc⟩ := hp
  intro T hT X
  rcases vx_callV X hx (C := C) (bytes := bytes) (maxL := maxL) (ret := ret) ho hl hin hse hcode hy hK (by rw [hT]; exact hcB) hoB hclB hg (hsize.trans hml.symm) (argsL := As) (rest := rest) (fun sig h => hn.trans (hlen sig h)) hstack hW (by rw [hb]; exact hdg)
    (fun vm₁ hW₁ => ⟨hf.1, hf.2, hPc (T.setVm vm₁) hT hW₁⟩) with ⟨v, vm₁, ⟨U', l2, c2, s2⟩, hW₁, X', ⟨g', mk, t, L, e1, e2, hq, h1, hL, h2, h3⟩, st⟩ | ⟨q, vm₁, ⟨U', l2, c2, s2⟩, hW₁, X', ⟨g', mk, t, L, E, ce, e1, e2, hq, hce, hcv, hcl, h1, hL, h2, h3⟩, st⟩
  · dsimp only [Pt.U, Pt.locs, Pt.cells, Pt.slots] at X' e1 e2 h1 h2 h3 st
    subst h1; subst h2; subst h3
    exact Or.inl ⟨v, (T.setVm vm₁).calling g' mk (Value.ref b :: As).toArray, t, U', L, hT, X', hL, e1, e2, hq, st⟩
  · dsimp only [Pt.U, Pt.locs, Pt.cells, Pt.slots] at X' e1 e2 h1 h2 h3 st hcl
    subst h1; subst h2; subst h3
    exact Or.inr ⟨q, (T.setVm vm₁).calling g' mk (Value.ref b :: As).toArray, t, U', L, E, ce, hT, X', hL, e1, e2, hq, hce, hcv, vx_cls hW₁ hcl, st⟩
theorem vx_runS (S : CallFix p m c cc nL s args Ts own) (hM : vx_Met l y ws rm Pc Qc XC mc ms free) (cw : CallB R s args own index y bytes maxL ret ws rm mc ms n ∧ (Cond.static y).before args s = true) (hp : PreS s H Pc As)
    (hg : g.method = m) (hn : As.length = n) (hsize : g.locals.size = nL) (hstack : g.stack = As.reverse ++ rest) (hW : 2 * g.monitorRoom + (rest.map fun v => v.category).sum ≤ 8) (hdg : decode cc g.pc = .ok (.invokestatic index, 3)) (hf : cells + mc ≤ R.cells ∧ slots + ms ≤ R.slots) :
    vx_Run p l e R s m args below meth c H locs cells slots mc ms g rest (Qc As.toArray) XC free := by
  have hK : vx_Back l R p e below s args y 3 8 (PreOf R mc ms Pc) (PostOf Qc mc ms free) (vx_Post XC mc ms free) := vx_callBack cw.1 hM hp.1
  obtain ⟨⟨-, -, -, -, -, -, hcode, hini, hy, hlen, hl⟩, hstt⟩ := cw
  obtain ⟨hx, hb, hml, ho, -⟩ := S
  intro T hT X
  rcases vx_callS X hx (bytes := bytes) (maxL := maxL) (ret := ret) ho hl hstt hini hcode hy hK hg (hsize.trans hml.symm) (argsL := As) (rest := rest) (fun sig h => hn.trans (hlen sig h)) hstack hW (by rw [hb]; exact hdg)
    (fun vm₁ hW₁ => ⟨hf.1, hf.2, hp.2 (T.setVm vm₁) hT hW₁⟩) with ⟨v, vm₁, ⟨U', l2, c2, s2⟩, hW₁, X', ⟨g', mk, t, L, e1, e2, hq, h1, hL, h2, h3⟩, st⟩ | ⟨q, vm₁, ⟨U', l2, c2, s2⟩, hW₁, X', ⟨g', mk, t, L, E, ce, e1, e2, hq, hce, hcv, hcl, h1, hL, h2, h3⟩, st⟩
  · dsimp only [Pt.U, Pt.locs, Pt.cells, Pt.slots] at X' e1 e2 h1 h2 h3 st
    subst h1; subst h2; subst h3
    exact Or.inl ⟨v, (T.setVm vm₁).calling g' mk As.toArray, t, U', L, hT, X', hL, e1, e2, hq, st⟩
  · dsimp only [Pt.U, Pt.locs, Pt.cells, Pt.slots] at X' e1 e2 h1 h2 h3 st hcl
    subst h1; subst h2; subst h3
    exact Or.inr ⟨q, (T.setVm vm₁).calling g' mk As.toArray, t, U', L, E, ce, hT, X', hL, e1, e2, hq, hce, hcv, vx_cls hW₁ hcl, st⟩
end Runs
section Rows
variable {p : Program} {l : Launch} {e : Env} {R : Room} {s : State} {m : MethodId} {args : Array Value} {below : List Frame} {meth : Method} {c : Code} {H : Heap} {locs : List Loc} {cells slots : Nat} {Q : State → Prop}
variable {mc ms : Nat} {free : Addr → Prop} {A0 A1 : Nat → Prop} {H0 : Heap} {a : Array Value} {pc : Nat} {ls : Array Slot} {st0 rest : List Value}
theorem vx_keep {st₀ t T' : State} {L : List Loc} (h0 : st₀.heap = H) (e1 : T'.heap = t.heap) (hS : va_S A0 H0 H locs) (hA : ∀ q, q < H.size → A1 q → A0 q) (hf : ∀ q, free q → A0 q) (hL : ∀ q ∈ L, free q.base) (hF : va_F A1 st₀ t) :
    H.size ≤ T'.heap.size ∧ (∀ q : Nat, q < H.size → ¬ A1 q → T'.heap[q]? = H[q]?) ∧ va_S A0 H0 T'.heap (locs ++ L) := by
  obtain ⟨hz, hk⟩ := hF
  rw [h0] at hz hk
  exact ⟨by rw [e1]; exact hz, fun q h1 h2 => by rw [e1]; exact hk q h1 h2,
    ⟨Nat.le_trans hS.1 (by rw [e1]; exact hz), fun q h1 h2 => by rw [e1, hk q (Nat.lt_of_lt_of_le h1 hS.1) (fun z => h2 (hA q (Nat.lt_of_lt_of_le h1 hS.1) z))]; exact hS.2.1 q h1 h2, fun q hq => by
      rcases List.mem_append.mp hq with h | h
      · exact hS.2.2 q h
      · exact hf _ (hL q h)⟩⟩
theorem vx_calli {S SX : Type} {post : Int32 → S → Prop} {px : SX → Prop} {B : S → State → Prop} {BX : String → SX → State → Prop} {AX : Nat → Prop} (hr : vx_Run p l e R s m args below meth c H locs cells slots mc ms (F0 m pc ls st0) rest (va_Qi post B A1 a) (vx_X px BX AX) free) (hS : va_S A0 H0 H locs) (hA : ∀ q, q < H.size → A1 q → A0 q) (hf : ∀ q, free q → A0 q) (hAX : ∀ q, q < H.size → AX q → A0 q)
    (kx : ∀ (E : String) (ce : Cell) (q9 : Addr) (u : SX) (t : State) (H1 : Heap) (locs1 : List Loc), t.heap = H1 → s.vm.Alike t.vm → px u → BX E u t → H.size ≤ H1.size → (∀ q : Nat, q < H.size → ¬ AX q → H1[q]? = H[q]?) → va_S A0 H0 H1 locs1 → H1[q9]? = some ce → ce.vm = .none → s.vm.findClass E = some ce.cls → vx_W p l e R s m args below meth c H1 locs1 (cells + mc) (slots + ms) Q (F0 m pc ls rest) q9)
    (kk : ∀ (r : Int32) (u : S) (t : State) (H1 : Heap) (locs1 : List Loc), t.heap = H1 → s.vm.Alike t.vm → post r u → B u t → H.size ≤ H1.size → (∀ q : Nat, q < H.size → ¬ A1 q → H1[q]? = H[q]?) → va_S A0 H0 H1 locs1 → W p l e R s m args below meth c H1 locs1 (cells + mc) (slots + ms) Q (F0 m (pc + 3) ls (.int r :: rest))) : W p l e R s m args below meth c H locs cells slots Q (F0 m pc ls st0) := by
  intro T hT X
  rcases hr T hT X with ⟨v, st₀, t, T', L, h0, X', hL, e1, e2, ⟨⟨r, u, hv, hp, hb⟩, hF⟩, st⟩ | ⟨q, st₀, t, T', L, E, ce, h0, X', hL, e1, e2, ⟨u, hp, hb, hF⟩, hce, hcv, hcl, st⟩
  · cases hv
    obtain ⟨k1, k2, k3⟩ := vx_keep h0 e1 hS hA hf hL hF
    obtain ⟨t2, a1, b1⟩ := kk r u t T'.heap (locs ++ L) e1.symm (by rw [← e2]; exact X'.warmed.alike) hp hb k1 k2 k3 T' rfl X'
    exact ⟨t2, st t2 a1, b1⟩
  · obtain ⟨k1, k2, k3⟩ := vx_keep h0 e1 hS hAX hf hL hF
    obtain ⟨t2, a1, b1⟩ := kx E ce q u t T'.heap (locs ++ L) e1.symm (by rw [← e2]; exact X'.warmed.alike) hp hb k1 k2 k3 (by rw [e1]; exact hce) hcv hcl T' rfl X'
    exact ⟨t2, st.trans a1, b1⟩
theorem vx_calll {S SX : Type} {post : Int64 → S → Prop} {px : SX → Prop} {B : S → State → Prop} {BX : String → SX → State → Prop} {AX : Nat → Prop} (hr : vx_Run p l e R s m args below meth c H locs cells slots mc ms (F0 m pc ls st0) rest (va_Ql post B A1 a) (vx_X px BX AX) free) (hS : va_S A0 H0 H locs) (hA : ∀ q, q < H.size → A1 q → A0 q) (hf : ∀ q, free q → A0 q) (hAX : ∀ q, q < H.size → AX q → A0 q)
    (kx : ∀ (E : String) (ce : Cell) (q9 : Addr) (u : SX) (t : State) (H1 : Heap) (locs1 : List Loc), t.heap = H1 → s.vm.Alike t.vm → px u → BX E u t → H.size ≤ H1.size → (∀ q : Nat, q < H.size → ¬ AX q → H1[q]? = H[q]?) → va_S A0 H0 H1 locs1 → H1[q9]? = some ce → ce.vm = .none → s.vm.findClass E = some ce.cls → vx_W p l e R s m args below meth c H1 locs1 (cells + mc) (slots + ms) Q (F0 m pc ls rest) q9)
    (kk : ∀ (r : Int64) (u : S) (t : State) (H1 : Heap) (locs1 : List Loc), t.heap = H1 → s.vm.Alike t.vm → post r u → B u t → H.size ≤ H1.size → (∀ q : Nat, q < H.size → ¬ A1 q → H1[q]? = H[q]?) → va_S A0 H0 H1 locs1 → W p l e R s m args below meth c H1 locs1 (cells + mc) (slots + ms) Q (F0 m (pc + 3) ls (.long r :: rest))) : W p l e R s m args below meth c H locs cells slots Q (F0 m pc ls st0) := by
  intro T hT X
  rcases hr T hT X with ⟨v, st₀, t, T', L, h0, X', hL, e1, e2, ⟨⟨r, u, hv, hp, hb⟩, hF⟩, st⟩ | ⟨q, st₀, t, T', L, E, ce, h0, X', hL, e1, e2, ⟨u, hp, hb, hF⟩, hce, hcv, hcl, st⟩
  · cases hv
    obtain ⟨k1, k2, k3⟩ := vx_keep h0 e1 hS hA hf hL hF
    obtain ⟨t2, a1, b1⟩ := kk r u t T'.heap (locs ++ L) e1.symm (by rw [← e2]; exact X'.warmed.alike) hp hb k1 k2 k3 T' rfl X'
    exact ⟨t2, st t2 a1, b1⟩
  · obtain ⟨k1, k2, k3⟩ := vx_keep h0 e1 hS hAX hf hL hF
    obtain ⟨t2, a1, b1⟩ := kx E ce q u t T'.heap (locs ++ L) e1.symm (by rw [← e2]; exact X'.warmed.alike) hp hb k1 k2 k3 (by rw [e1]; exact hce) hcv hcl T' rfl X'
    exact ⟨t2, st.trans a1, b1⟩
theorem vx_callf {S SX : Type} {post : UInt32 → S → Prop} {px : SX → Prop} {B : S → State → Prop} {BX : String → SX → State → Prop} {AX : Nat → Prop} (hr : vx_Run p l e R s m args below meth c H locs cells slots mc ms (F0 m pc ls st0) rest (va_Qf post B A1 a) (vx_X px BX AX) free) (hS : va_S A0 H0 H locs) (hA : ∀ q, q < H.size → A1 q → A0 q) (hf : ∀ q, free q → A0 q) (hAX : ∀ q, q < H.size → AX q → A0 q)
    (kx : ∀ (E : String) (ce : Cell) (q9 : Addr) (u : SX) (t : State) (H1 : Heap) (locs1 : List Loc), t.heap = H1 → s.vm.Alike t.vm → px u → BX E u t → H.size ≤ H1.size → (∀ q : Nat, q < H.size → ¬ AX q → H1[q]? = H[q]?) → va_S A0 H0 H1 locs1 → H1[q9]? = some ce → ce.vm = .none → s.vm.findClass E = some ce.cls → vx_W p l e R s m args below meth c H1 locs1 (cells + mc) (slots + ms) Q (F0 m pc ls rest) q9)
    (kk : ∀ (r : UInt32) (u : S) (t : State) (H1 : Heap) (locs1 : List Loc), t.heap = H1 → s.vm.Alike t.vm → post r u → B u t → H.size ≤ H1.size → (∀ q : Nat, q < H.size → ¬ A1 q → H1[q]? = H[q]?) → va_S A0 H0 H1 locs1 → W p l e R s m args below meth c H1 locs1 (cells + mc) (slots + ms) Q (F0 m (pc + 3) ls (.float r :: rest))) : W p l e R s m args below meth c H locs cells slots Q (F0 m pc ls st0) := by
  intro T hT X
  rcases hr T hT X with ⟨v, st₀, t, T', L, h0, X', hL, e1, e2, ⟨⟨r, u, hv, hp, hb⟩, hF⟩, st⟩ | ⟨q, st₀, t, T', L, E, ce, h0, X', hL, e1, e2, ⟨u, hp, hb, hF⟩, hce, hcv, hcl, st⟩
  · cases hv
    obtain ⟨k1, k2, k3⟩ := vx_keep h0 e1 hS hA hf hL hF
    obtain ⟨t2, a1, b1⟩ := kk r u t T'.heap (locs ++ L) e1.symm (by rw [← e2]; exact X'.warmed.alike) hp hb k1 k2 k3 T' rfl X'
    exact ⟨t2, st t2 a1, b1⟩
  · obtain ⟨k1, k2, k3⟩ := vx_keep h0 e1 hS hAX hf hL hF
    obtain ⟨t2, a1, b1⟩ := kx E ce q u t T'.heap (locs ++ L) e1.symm (by rw [← e2]; exact X'.warmed.alike) hp hb k1 k2 k3 (by rw [e1]; exact hce) hcv hcl T' rfl X'
    exact ⟨t2, st.trans a1, b1⟩
theorem vx_calld {S SX : Type} {post : UInt64 → S → Prop} {px : SX → Prop} {B : S → State → Prop} {BX : String → SX → State → Prop} {AX : Nat → Prop} (hr : vx_Run p l e R s m args below meth c H locs cells slots mc ms (F0 m pc ls st0) rest (va_Qd post B A1 a) (vx_X px BX AX) free) (hS : va_S A0 H0 H locs) (hA : ∀ q, q < H.size → A1 q → A0 q) (hf : ∀ q, free q → A0 q) (hAX : ∀ q, q < H.size → AX q → A0 q)
    (kx : ∀ (E : String) (ce : Cell) (q9 : Addr) (u : SX) (t : State) (H1 : Heap) (locs1 : List Loc), t.heap = H1 → s.vm.Alike t.vm → px u → BX E u t → H.size ≤ H1.size → (∀ q : Nat, q < H.size → ¬ AX q → H1[q]? = H[q]?) → va_S A0 H0 H1 locs1 → H1[q9]? = some ce → ce.vm = .none → s.vm.findClass E = some ce.cls → vx_W p l e R s m args below meth c H1 locs1 (cells + mc) (slots + ms) Q (F0 m pc ls rest) q9)
    (kk : ∀ (r : UInt64) (u : S) (t : State) (H1 : Heap) (locs1 : List Loc), t.heap = H1 → s.vm.Alike t.vm → post r u → B u t → H.size ≤ H1.size → (∀ q : Nat, q < H.size → ¬ A1 q → H1[q]? = H[q]?) → va_S A0 H0 H1 locs1 → W p l e R s m args below meth c H1 locs1 (cells + mc) (slots + ms) Q (F0 m (pc + 3) ls (.double r :: rest))) : W p l e R s m args below meth c H locs cells slots Q (F0 m pc ls st0) := by
  intro T hT X
  rcases hr T hT X with ⟨v, st₀, t, T', L, h0, X', hL, e1, e2, ⟨⟨r, u, hv, hp, hb⟩, hF⟩, st⟩ | ⟨q, st₀, t, T', L, E, ce, h0, X', hL, e1, e2, ⟨u, hp, hb, hF⟩, hce, hcv, hcl, st⟩
  · cases hv
    obtain ⟨k1, k2, k3⟩ := vx_keep h0 e1 hS hA hf hL hF
    obtain ⟨t2, a1, b1⟩ := kk r u t T'.heap (locs ++ L) e1.symm (by rw [← e2]; exact X'.warmed.alike) hp hb k1 k2 k3 T' rfl X'
    exact ⟨t2, st t2 a1, b1⟩
  · obtain ⟨k1, k2, k3⟩ := vx_keep h0 e1 hS hAX hf hL hF
    obtain ⟨t2, a1, b1⟩ := kx E ce q u t T'.heap (locs ++ L) e1.symm (by rw [← e2]; exact X'.warmed.alike) hp hb k1 k2 k3 (by rw [e1]; exact hce) hcv hcl T' rfl X'
    exact ⟨t2, st.trans a1, b1⟩
theorem vx_callv {S SX : Type} {post : S → Prop} {px : SX → Prop} {B : S → State → Prop} {BX : String → SX → State → Prop} {AX : Nat → Prop} (hr : vx_Run p l e R s m args below meth c H locs cells slots mc ms (F0 m pc ls st0) rest (va_Qv post B A1 a) (vx_X px BX AX) free) (hS : va_S A0 H0 H locs) (hA : ∀ q, q < H.size → A1 q → A0 q) (hf : ∀ q, free q → A0 q) (hAX : ∀ q, q < H.size → AX q → A0 q)
    (kx : ∀ (E : String) (ce : Cell) (q9 : Addr) (u : SX) (t : State) (H1 : Heap) (locs1 : List Loc), t.heap = H1 → s.vm.Alike t.vm → px u → BX E u t → H.size ≤ H1.size → (∀ q : Nat, q < H.size → ¬ AX q → H1[q]? = H[q]?) → va_S A0 H0 H1 locs1 → H1[q9]? = some ce → ce.vm = .none → s.vm.findClass E = some ce.cls → vx_W p l e R s m args below meth c H1 locs1 (cells + mc) (slots + ms) Q (F0 m pc ls rest) q9)
    (kk : ∀ (u : S) (t : State) (H1 : Heap) (locs1 : List Loc), t.heap = H1 → s.vm.Alike t.vm → post u → B u t → H.size ≤ H1.size → (∀ q : Nat, q < H.size → ¬ A1 q → H1[q]? = H[q]?) → va_S A0 H0 H1 locs1 → W p l e R s m args below meth c H1 locs1 (cells + mc) (slots + ms) Q (F0 m (pc + 3) ls (rest))) : W p l e R s m args below meth c H locs cells slots Q (F0 m pc ls st0) := by
  intro T hT X
  rcases hr T hT X with ⟨v, st₀, t, T', L, h0, X', hL, e1, e2, ⟨⟨u, hv, hp, hb⟩, hF⟩, st⟩ | ⟨q, st₀, t, T', L, E, ce, h0, X', hL, e1, e2, ⟨u, hp, hb, hF⟩, hce, hcv, hcl, st⟩
  · cases hv
    obtain ⟨k1, k2, k3⟩ := vx_keep h0 e1 hS hA hf hL hF
    obtain ⟨t2, a1, b1⟩ := kk u t T'.heap (locs ++ L) e1.symm (by rw [← e2]; exact X'.warmed.alike) hp hb k1 k2 k3 T' rfl X'
    exact ⟨t2, st t2 a1, b1⟩
  · obtain ⟨k1, k2, k3⟩ := vx_keep h0 e1 hS hAX hf hL hF
    obtain ⟨t2, a1, b1⟩ := kx E ce q u t T'.heap (locs ++ L) e1.symm (by rw [← e2]; exact X'.warmed.alike) hp hb k1 k2 k3 (by rw [e1]; exact hce) hcv hcl T' rfl X'
    exact ⟨t2, st.trans a1, b1⟩
/-- caught by the row x of this method's table; the rows ahead don't take it -/
theorem vx_catch {own name : String} {E : String} {ce : Cell} {q : Addr} (hown : s.vm.findClass own = some m.cls) (pre : List ExceptionTableEntry) (x : ExceptionTableEntry) (suf : List ExceptionTableEntry) (hsplit : c.exceptionTable.toList = pre ++ x :: suf)
    (hpass : ∀ z ∈ pre, covers z pc = false ∨ (z.catchType ≠ 0 ∧ ∃ nm : String, (Cond.classLink own z.catchType nm).before args s = true ∧ va_Nc E nm s)) (hx : covers x pc = true) (h0 : x.catchType ≠ 0)
    (hlink : (Cond.classLink own x.catchType name).before args s = true) (hcast : (Cond.castable E name).before args s = true) (hcell : H[q]? = some ce) (hv : ce.vm = .none) (hcl : s.vm.findClass E = some ce.cls)
    (kk : W p l e R s m args below meth c H locs cells slots Q (F0 m x.handlerPc ls [.ref q])) : vx_W p l e R s m args below meth c H locs cells slots Q (F0 m pc ls rest) q := by
  intro T hT X
  have hpl : e.platform.magicAccessors = ({} : Platform).magicAccessors := by rw [X.admits.platform]
  obtain ⟨c3, c4, hc3, hc4, hasg⟩ := Cond.castable_spec hcast
  cases Option.some.inj (hc3.symm.trans hcl)
  obtain ⟨c5, hc5, hcl5⟩ := Cond.classLink_spec hown hlink e.platform hpl
  cases Option.some.inj (hc4.symm.trans hc5)
  obtain ⟨vm', X', st⟩ := X.thenCaughtThrough q (g := F0 m pc ls rest) rfl (Steps.refl _) (by rw [hT]; exact hcell) (by rw [hv]; rfl) (by obtain ⟨k9, h9, -⟩ := Vm.findClass_spec hcl; exact ⟨k9, h9⟩) pre x suf hsplit
    (fun z hz => by
      rcases hpass z hz with h | ⟨hz0, nm, hl1, hn1⟩
      · exact Or.inl h
      · obtain ⟨c6, hc6, hcl6⟩ := Cond.classLink_spec hown hl1 e.platform hpl
        obtain ⟨a8, b8, h1, h2, h3⟩ := hn1
        cases Option.some.inj (h1.symm.trans hcl)
        cases Option.some.inj (h2.symm.trans hc6)
        exact Or.inr ⟨hz0, _, hcl6, h3⟩) hx (Or.inr ⟨h0, c4, hcl5, hasg⟩)
  obtain ⟨t, a1, b1⟩ := kk (T.setVm vm') hT X'
  exact ⟨t, st.trans a1, b1⟩
end Rows
section Ends
variable {p : Program} {l : Launch} {e : Env} {R : Room} {s : State} {m : MethodId} {args : Array Value} {below : List Frame} {meth : Method} {c : Code} {H : Heap} {locs : List Loc} {cells slots : Nat} {Q : State → Prop}
variable {mc ms : Nat} {free : Addr → Prop} {A0 A1 : Nat → Prop} {H0 : Heap} {a : Array Value} {ls : Array Slot} {st0 rest : List Value}
variable {Qc : Array Value → State → Outcome → State → Prop} {XC : String → State → State → Prop}
/-- what a body that may throw owes at its end -/
def vx_MQ (below : List Frame) (Qc : Array Value → State → Outcome → State → Prop) (XC : String → State → State → Prop) (a : Array Value) (s : State) (mc ms : Nat) (free : Addr → Prop) : State → Prop := fun t =>
  ∃ o, t.status = .running ∧ Ended t below o ∧ vx_Q Qc XC mc ms free a s o t
theorem vx_ret {g : JFrame} {mc ms : Nat} (k : W p l e R s m args below meth c H locs cells slots (MQ below Qc args s mc ms free) g) : W p l e R s m args below meth c H locs cells slots (vx_MQ below Qc XC args s mc ms free) g := by
  intro T hT X
  obtain ⟨t, a1, o, b1, b2, b3, b4⟩ := k T hT X
  exact ⟨t, a1, o, b1, b2, Or.inl ⟨b3, b4⟩⟩
/-- not caught here: it goes on to the caller -/
theorem vx_widen {g : JFrame} {q : Addr} {k n : Nat} (h1 : cells ≤ k) (h2 : slots ≤ n) (kk : vx_W p l e R s m args below meth c H locs k n Q g q) : vx_W p l e R s m args below meth c H locs cells slots Q g q := fun T hT X => kk T hT (stand_widen X h1 h2)
theorem vx_out {pc : Nat} {E : String} {ce : Cell} {q : Addr} {mc ms : Nat} (hout : ∀ x ∈ c.exceptionTable.toList, covers x pc = false) (hlocks : meth.locks = false) (hcell : H[q]? = some ce) (hv : ce.vm = .none) (hcl : s.vm.findClass E = some ce.cls)
    (hx : ∀ t : State, t.heap = H → s.vm.Alike t.vm → XC E s t) (hf : ∀ z ∈ locs, free z.base) (hc : cells ≤ mc) (hs : slots ≤ ms) :
    vx_W p l e R s m args below meth c H locs cells slots (vx_MQ below Qc XC args s mc ms free) (F0 m pc ls rest) q := by
  intro T hT X
  obtain ⟨st1, hrun, hend, hW, hsm⟩ := X.leaveThrown q (g := F0 m pc ls rest) rfl rfl rfl hout hlocks
  have hcell9 : (T.setFrames (.throwing q :: below)).heap[q]? = some ce := by
    show T.heap[q]? = some ce
    rw [hT]; exact hcell
  exact ⟨_, st1, .threw q, hrun, hend, Or.inr ⟨q, rfl, E, ce, locs, hx _ hT hW.alike, hcell9, hv, hcl, hW, hsm.mono hc hs, hf⟩⟩
theorem vx_frame {U : State} {k n : Nat} (h : s.sameButNew ({ U with vm := s.vm } : State) locs k n) : s.heap.size ≤ U.heap.size ∧ ∀ q : Nat, q < s.heap.size → (∀ z ∈ locs, z.base ≠ q) → U.heap[q]? = s.heap[q]? := by
  obtain ⟨-, h2, -, -, -, h6⟩ := h
  refine ⟨h2, fun q hq hz => ?_⟩
  obtain ⟨c9, e1, e2, e3, e4⟩ := h6 q _ (Array.getElem?_eq_getElem hq)
  have hs : c9.slots = (s.heap[q]).slots := Array.ext_getElem? fun i => e4 i fun hm => hz _ hm rfl
  have h9 : c9 = s.heap[q] := by
    rw [hs] at e2
    exact e2
  have e5 : U.heap[q]? = some c9 := e1
  rw [e5, h9, Array.getElem?_eq_getElem hq]
/-- the words of a throw but the four that speak of the heap -/
def vx_no (w : Cond) : Bool := decide (w ≠ .isRef (.static Bundle.tN "UNASSIGNED_STACK" Bundle.steD)) && decide (w ≠ .isRef (.static Bundle.tN "SUPPRESSED_SENTINEL" Bundle.listD)) && decide (w ≠ .laysStatic Bundle.tN "UNASSIGNED_STACK" Bundle.steD) && decide (w ≠ .laysStatic Bundle.tN "SUPPRESSED_SENTINEL" Bundle.listD)
def vx_at0 (own : String) (ic : Nat) (X : String) (names : List String) : List Cond := (Bundle.ownAtoms0 own ic X names).filter vx_no
def vx_atS (own : String) (ic : Nat) (X : String) (names : List String) : List Cond := (Bundle.ownAtoms own ic X names).filter vx_no
/-- a word that the tables alone decide, or a good one -/
def vx_ot (w : Cond) : Bool := w.onTables || goodWord w
theorem vx_ot_at {args a' : Array Value} {s U : State} {w : Cond} (hW : s.WarmedH U.vm) (hvm : s.vm = U.vm) (hg : vx_ot w = true) (h : w.before args s = true) : w.before a' U = true := by
  simp only [vx_ot, Bool.or_eq_true] at hg
  rcases hg with hg | hg
  · exact va_tabs hg hvm h
  · exact word_at hW (good_of_word hg) h
/-- a list's words: the good ones out of the method's own list, the others by premises of their own -/
theorem vx_hat {args : Array Value} {s : State} {L B : List Cond} (h1 : ∀ w ∈ L.filter goodWord, w.before args s = true) (h2 : ∀ w ∈ L.filter (fun w => !goodWord w), w ∈ B) (h3 : ∀ w ∈ B, w.before args s = true) : ∀ w ∈ L, w.before args s = true := by
  intro w hw
  by_cases g : goodWord w = true
  · exact h1 w (List.mem_filter.mpr ⟨hw, g⟩)
  · refine h3 w (h2 w (List.mem_filter.mpr ⟨hw, ?_⟩))
    show (!goodWord w) = true
    cases hgw : goodWord w
    · rfl
    · exact absurd hgw g
theorem vx_c {args : Array Value} {s : State} {w : Cond} {B : List Cond} (h : w.before args s = true) (t : ∀ w ∈ B, w.before args s = true) : ∀ w' ∈ w :: B, w'.before args s = true := fun w' h' => (List.mem_cons.mp h').elim (fun e => by rw [e]; exact h) (t w')
theorem vx_n {args : Array Value} {s : State} : ∀ w ∈ ([] : List Cond), w.before args s = true := fun _ h => nomatch h
theorem vx_own {args : Array Value} {s : State} {L : List Cond} (h1 : ∀ w ∈ L.filter vx_no, w.before args s = true)
    (hU : (Cond.isRef (.static Bundle.tN "UNASSIGNED_STACK" Bundle.steD)).before args s = true) (hN : (Cond.isRef (.static Bundle.tN "SUPPRESSED_SENTINEL" Bundle.listD)).before args s = true)
    (lU : (Cond.laysStatic Bundle.tN "UNASSIGNED_STACK" Bundle.steD).before args s = true) (lN : (Cond.laysStatic Bundle.tN "SUPPRESSED_SENTINEL" Bundle.listD).before args s = true) : ∀ w ∈ L, w.before args s = true := by
  intro w hw
  by_cases e1 : w = .isRef (.static Bundle.tN "UNASSIGNED_STACK" Bundle.steD)
  · rw [e1]; exact hU
  · by_cases e2 : w = .isRef (.static Bundle.tN "SUPPRESSED_SENTINEL" Bundle.listD)
    · rw [e2]; exact hN
    · by_cases e3 : w = .laysStatic Bundle.tN "UNASSIGNED_STACK" Bundle.steD
      · rw [e3]; exact lU
      · by_cases e4 : w = .laysStatic Bundle.tN "SUPPRESSED_SENTINEL" Bundle.listD
        · rw [e4]; exact lN
        · exact h1 w (List.mem_filter.mpr ⟨hw, by unfold vx_no; rw [decide_eq_true e1, decide_eq_true e2, decide_eq_true e3, decide_eq_true e4]; rfl⟩)
/-- where a static field lies, its class's statics cell in H -/
def vx_L (C n d : String) (A : Nat → Prop) (U : State) (H : Heap) : Prop := ∃ (c : ClassId) (k : Class) (i : Nat) (f : Field) (a : Nat) (cell : Cell), U.vm.findClass C = some c ∧ U.fieldFound? C n d = some (c, k, i, f) ∧ f.isStatic = true ∧ k.statics = some a ∧ H[a]? = some cell ∧ cell.vm.isStatics = true ∧ cell.cls = c ∧ f.slot < cell.slots.size ∧ k.staticTypes[f.slot]? = some f.type ∧ ¬ A a
theorem vx_L.moved {C n d : String} {A : Nat → Prop} {u U : State} {H : Heap} (hvm : u.vm.Alike U.vm) (h : vx_L C n d A u H) : vx_L C n d A U H := by
  obtain ⟨c, k, i, f, a, cell, h1, h2, h3, h4, h5, h6, h7, h8, h9, h10⟩ := h
  obtain ⟨k', hi', he⟩ := State.fieldFound?_setVm hvm h2
  exact ⟨c, k', i, f, a, cell, by rw [hvm.findClass]; exact h1, hi', h3, by rw [he]; exact h4, h5, h6, h7, h8, by rw [he]; exact h9, h10⟩
theorem vx_L.kept {C n d : String} {A : Nat → Prop} {U : State} {H H1 : Heap} (h : vx_L C n d A U H) (hq : ∀ a : Nat, a < H.size → ¬ A a → H1[a]? = H[a]?) : vx_L C n d A U H1 := by
  obtain ⟨c, k, i, f, a, cell, h1, h2, h3, h4, h5, h6, h7, h8, h9, h10⟩ := h
  exact ⟨c, k, i, f, a, cell, h1, h2, h3, h4, by rw [hq a (Array.getElem?_eq_some_iff.mp h5).1 h10]; exact h5, h6, h7, h8, h9, h10⟩
theorem vx_L.narrow {C n d : String} {A B : Nat → Prop} {U : State} {H : Heap} (h : vx_L C n d A U H) (hAB : ∀ q, B q → A q) : vx_L C n d B U H := by
  obtain ⟨c, k, i, f, a, cell, h1, h2, h3, h4, h5, h6, h7, h8, h9, h10⟩ := h
  exact ⟨c, k, i, f, a, cell, h1, h2, h3, h4, h5, h6, h7, h8, h9, fun z => h10 (hAB _ z)⟩
theorem vx_L.word {C n d : String} {A : Nat → Prop} {s : State} {args : Array Value} (h : vx_L C n d A s s.heap) : (Cond.laysStatic C n d).before args s = true := by
  obtain ⟨c, k, i, f, a, cell, h1, h2, h3, h4, h5, h6, h7, h8, h9, -⟩ := h
  show (Cond.laysStatic C n d).holds args s none s [] = true
  exact Cond.laysStatic_of h1 h2 h3 h4 h5 h6 h7 h8 h9
/-- .. and what it holds: null or some reference -/
def vx_Zq (C n d : String) (A : Nat → Prop) (U : State) (H : Heap) : Prop := va_Zq C n d A U H ∧ vx_L C n d A U H
theorem vx_Zq.moved {C n d : String} {A : Nat → Prop} {u U : State} {H : Heap} (hvm : u.vm.Alike U.vm) (h : vx_Zq C n d A u H) : vx_Zq C n d A U H := ⟨va_Zq.moved hvm h.1, vx_L.moved hvm h.2⟩
theorem vx_Zq.kept {C n d : String} {A : Nat → Prop} {U : State} {H H1 : Heap} (h : vx_Zq C n d A U H) (hq : ∀ a : Nat, a < H.size → ¬ A a → H1[a]? = H[a]?) : vx_Zq C n d A U H1 := ⟨va_Zq.kept h.1 hq, vx_L.kept h.2 hq⟩
theorem vx_Zq.narrow {C n d : String} {A B : Nat → Prop} {U : State} {H : Heap} (h : vx_Zq C n d A U H) (hAB : ∀ q, B q → A q) : vx_Zq C n d B U H := ⟨va_Zq.narrow h.1 hAB, vx_L.narrow h.2 hAB⟩
theorem vx_Zqof {args : Array Value} {s : State} {C n d : String} {A : Nat → Prop} (hl : (Cond.laysStatic C n d).before args s = true) (hini : (Cond.initialized C).before args s = true) (h : (Cond.isRef (.static C n d)).before args s = true) (hA : ∀ a : Nat, a < s.heap.size → ¬ A a) : vx_Zq C n d A s s.heap := by
  refine ⟨va_Zqof hl hini h hA, ?_⟩
  obtain ⟨c, k, i, f, a, cell, h1, h2, h3, h4, h5, h6, h7, h8, h9⟩ := Cond.laysStatic_spec hl
  exact ⟨c, k, i, f, a, cell, h1, h2, h3, h4, h5, h6, h7, h8, h9, hA a (Array.getElem?_eq_some_iff.mp h5).1⟩
theorem vx_isRef {C n d : String} {v : Value} {A : Nat → Prop} {s : State} {args : Array Value} (h : va_Z C n d v A s s.heap) (hv : v.isRef = true) : (Cond.isRef (.static C n d)).before args s = true := by
  obtain ⟨cf, kf, fi, f, a, cell, h1, h2, h3, h4, h5, h6, h7, -⟩ := h
  have he : (Term.static C n d).eval args s none [] s = some v := by
    simp [Term.eval, State.fieldNamed?, h1, h2, h4, h5, h6, h7]
  simp only [Cond.before, Cond.holds, Cond.value, he]
  cases v <;> simp_all [Value.isRef]
theorem vx_isRefq {C n d : String} {A : Nat → Prop} {s : State} {args : Array Value} (h : va_Zq C n d A s s.heap) : (Cond.isRef (.static C n d)).before args s = true := by
  rcases h with h | ⟨t, h⟩
  · exact vx_isRef h rfl
  · exact vx_isRef h rfl
/-- the same frame, seen from here: as if the method were called anew in this heap -/
theorem vx_rebase {T : State} (X : Stand p l e R s m args below meth c T locs cells slots) {R' : Room} (hf : R'.frames ≤ R.frames) (hl : R'.locals ≤ R.locals) (hc : cells + R'.cells ≤ R.cells) (hs : slots + R'.slots ≤ R.slots) :
    Stand p l e R' ((T.setVm s.vm).setFrames (.invoking m args :: below)) m args below meth c T [] 0 0 := by
  have htop : (T.setVm s.vm).topJava?.isSome := X.here.top
  have hF : ((T.setVm s.vm).setFrames (.invoking m args :: below)).frames = .invoking m args :: below := State.frames_setFrames _ (State.cur_lt_of_top htop)
  obtain ⟨g₀, hg0⟩ := Option.isSome_iff_exists.mp htop
  obtain ⟨r, hr⟩ := State.topJava?_eq_some.mp hg0
  have hl9 : e.platform.stackLimits (T.setVm s.vm).me = e.platform.stackLimits s.me := X.limits
  have hb9 : (T.setVm s.vm).me.stackBytes = s.me.stackBytes := X.bytes
  refine ⟨X.admits, X.cas, X.clock, hF, ?_, X.hears, X.method, X.code, X.here, X.tail, X.warmed, ?_, ?_, ?_⟩
  · have h := X.room
    have hU : ((T.setVm s.vm).setFrames (.invoking m args :: below)).localsInUse = s.localsInUse := by
      rw [State.localsInUse_invoking hF (meth := meth) (c := c) X.method X.code, State.localsInUse_invoking X.frames X.method X.code]
    simp only [State.hasRoom, Bool.and_eq_true, decide_eq_true_eq] at h ⊢
    obtain ⟨⟨⟨⟨h1, h2, h3, h4, h5, h6⟩, h7⟩, h8⟩, h9⟩ := h
    rw [X.frames, List.length_cons] at h2 h3
    have q1 := X.heapSize
    have q2 := X.used
    simp only [hF, hU, List.length_cons, State.stackLimits_setFrames, State.stackBytes_setFrames, hl9, hb9]
    refine ⟨⟨⟨⟨by omega, by omega, by omega, by omega, by omega, h6⟩, ?_⟩, ?_⟩, X.book⟩
    · show T.heap.size + R'.cells ≤ e.platform.maxCells
      omega
    · show T.slotsUsed + R'.slots ≤ e.platform.maxSlots
      omega
  · rw [State.stackLimits_setFrames]; rfl
  · rw [State.stackBytes_setFrames]; rfl
  · refine ⟨?_, Nat.le_refl _, Nat.le_refl _, ?_, ?_, fun a c9 h9 => ⟨c9, h9, rfl, rfl, fun _ _ => rfl⟩⟩
    · obtain ⟨t, ht, -⟩ := State.frames_cons hr
      show T.setVm s.vm = { ((T.setVm s.vm).setFrames (.invoking m args :: below)).setFrames (T.setVm s.vm).frames with heap := T.heap, slotsUsed := T.slotsUsed }
      rw [State.setFrames_setFrames, State.setFrames_self ht]
      rfl
    · show T.slotsUsed = T.slotsUsed + ((T.heap.toList.drop T.heap.size).map (·.slots.size)).sum
      rw [List.drop_eq_nil_of_le (Nat.le_of_eq Array.length_toList)]
      rfl
    · show ((T.heap.toList.drop T.heap.size).map (·.slots.size)).sum ≤ 0
      rw [List.drop_eq_nil_of_le (Nat.le_of_eq Array.length_toList)]
      exact Nat.le_refl _
/-- 'throw new E()': new; dup; invokespecial; athrow -/
theorem vx_throw0 {cc : ByteArray} {pc : Nat} (hexec : p.tables.exec = Jvm.exec) (hb : c.code = cc) (hl : l.stackTraces = false) {own cls : String} {names : List String} {ik ic mc ms : Nat} {A : Nat → Prop}
    (hown : s.vm.findClass own = some m.cls) (hcls : Bundle.fit cls = true) (hnames : ∀ n ∈ names, Bundle.fit n = true)
    (hk : (Cond.classLink own ik cls).before args s = true) (hini : (Cond.initialized cls).before args s = true) (hat : ∀ w ∈ vx_at0 own ic cls names, w.before args s = true)
    (hgood : ∀ w ∈ Cond.classLink own ik cls :: Cond.initialized cls :: vx_at0 own ic cls names, vx_ot w = true)
    (hU : vx_Zq Bundle.tN "UNASSIGNED_STACK" Bundle.steD A s s.heap) (hN : vx_Zq Bundle.tN "SUPPRESSED_SENTINEL" Bundle.listD A s s.heap) (hS : va_S A s.heap H locs) (hsize : ls.size = c.maxLocals)
    (d0 : decode cc pc = .ok (.new ik, 3)) (d3 : decode cc (pc + 3) = .ok (.dup, 1)) (d4 : decode cc (pc + 4) = .ok (.invokespecial ic, 3)) (d7 : decode cc (pc + 7) = .ok (.athrow, 1))
    (hout : ∀ x ∈ c.exceptionTable.toList, covers x (pc + 7) = false)
    (hRframes : names.length + 3 < R.frames) (hRlocals : (rest.map fun v => v.category).sum + (13 * (names.length + 1) + 42) ≤ R.locals) (hRcells : cells + 1 ≤ R.cells) (hRslots : slots + 6 ≤ R.slots) (hlocks : meth.locks = false)
    (hx : ∀ t : State, s.vm.Alike t.vm → H.size ≤ t.heap.size → (∀ q : Nat, q < H.size → t.heap[q]? = H[q]?) → XC cls s t)
    (hf : ∀ z ∈ locs, free z.base) (hc : cells + 1 ≤ mc) (hs : slots + 6 ≤ ms) :
    W p l e R s m args below meth c H locs cells slots (vx_MQ below Qc XC args s mc ms free) (F0 m pc ls rest) := by
  intro T hT X
  have htr : e.platform.stackTraces = false := (show e.platform.stackTraces = l.stackTraces by rw [X.admits.platform]).trans hl
  have Y := vx_rebase X (R' := { frames := R.frames, locals := R.locals, cells := 1, slots := 6 }) (Nat.le_refl _) (Nat.le_refl _) hRcells hRslots
  obtain ⟨s', hA⟩ : ∃ z, z = (T.setVm s.vm).setFrames (.invoking m args :: below) := ⟨_, rfl⟩
  rw [← hA] at Y
  have hvm : s'.vm = s.vm := by rw [hA]; rfl
  have hhp : s'.heap = H := by rw [hA]; exact hT
  have hW0 : s.WarmedH s'.vm := by rw [hvm]; exact State.WarmedH.refl s
  have hat' : ∀ w ∈ vx_at0 own ic cls names, w.before args s' = true := fun w hw => vx_ot_at hW0 hvm.symm (hgood w (List.mem_cons_of_mem _ (List.mem_cons_of_mem _ hw))) (hat w hw)
  have hk' : (Cond.classLink own ik cls).before args s' = true := vx_ot_at hW0 hvm.symm (hgood _ List.mem_cons_self) hk
  have hini' : (Cond.initialized cls).before args s' = true := vx_ot_at hW0 hvm.symm (hgood _ (List.mem_cons_of_mem _ List.mem_cons_self)) hini
  have hU' : vx_Zq Bundle.tN "UNASSIGNED_STACK" Bundle.steD A s' s'.heap := by rw [hhp]; exact vx_Zq.moved hW0.alike (hU.kept hS.2.1)
  have hN' : vx_Zq Bundle.tN "SUPPRESSED_SENTINEL" Bundle.listD A s' s'.heap := by rw [hhp]; exact vx_Zq.moved hW0.alike (hN.kept hS.2.1)
  have h : ∀ w ∈ Bundle.ownAtoms0 own ic cls names, w.before args s' = true := vx_own hat' (vx_isRefq hU'.1) (vx_isRefq hN'.1) hU'.2.word hN'.2.word
  have hown' : s'.vm.findClass own = some m.cls := by rw [hvm]; exact hown
  have hins : (Cond.instantiable cls 6).before args s' = true := h _ (by simp [Bundle.ownAtoms0])
  obtain ⟨vm₁, cX, kX, hfX, hkX, -, -, X₁, st1⟩ := Y.newCold hexec (own := own) (C := cls) (index := ik) (n := 6) hown' hk' hins hini'
    (g := F0 m pc ls rest) rfl (by rw [hb]; exact d0) (Nat.le_refl _) (Nat.le_refl _)
  generalize hT1 : (T.setVm vm₁).pushCell { cls := cX, slots := kX.instanceTypes.map defaultValue, vm := .none } = T1 at X₁ st1
  have hcat : (Value.ref T.heap.size).category = 1 := rfl
  have hcellA : T1.heap[T.heap.size]? = some (freshCell cX kX) := by rw [← hT1]; exact State.heap_pushCell_size _ _
  have d3' : decode c.code (pc + 3) = .ok (.dup, 1) := by rw [hb]; exact d3
  obtain ⟨U, hsteps, hrun, hend, hW, hsame, ce, hce, hO⟩ := X₁.ctorThrow0 hexec htr (own := own) (cls := cls) (names := names) (ic := ic) hown' hcls hnames h (fun x hx => nomatch hx) hfX hkX hcellA (by rw [hhp, hT]; exact Nat.le_refl _)
    (g := { method := m, pc := pc + 4, locals := ls, stack := .ref T.heap.size :: .ref T.heap.size :: rest, locked := none }) rfl hsize rfl rfl (rest := rest) rfl
    (by rw [hb]; exact d4) (by rw [hb]; exact d7) hout hRframes (by simp only [List.map_cons, List.sum_cons, hcat]; omega) hlocks
  obtain ⟨f1, f2⟩ := vx_frame hsame
  rw [hhp] at f1 f2
  have hWs : s.WarmedH U.vm := State.WarmedH.trans hW0 hW
  have hcl : s.vm.findClass cls = some ce.cls := by
    have h9 := hO.cls
    rw [hvm] at h9
    exact h9
  have hall : s.sameButNew ({ U with vm := s.vm } : State) locs mc ms := by
    subst hA
    obtain ⟨e1, e2⟩ := hsame
    rw [State.setFrames_setFrames] at e1
    have h2 : (T.setVm s.vm).sameButNew ({ U with vm := s.vm } : State) [] (0 + 1) (0 + 6) := ⟨e1, e2⟩
    have h3 := X.same.trans h2
    rw [List.append_nil] at h3
    exact h3.mono hc hs
  refine ⟨U, ?_, .threw T.heap.size, hrun, hend, Or.inr ⟨T.heap.size, rfl, cls, ce, locs, hx U hWs.alike f1 (fun q hq => f2 q hq (fun z hz => nomatch hz)), hce, hO.vm, hcl, hWs, hall, hf⟩⟩
  refine st1 _ ?_
  show Steps p.tables e below (T1.setTop { method := m, pc := pc + 3, locals := ls, stack := .ref T.heap.size :: rest, locked := none }) _
  jvm_step X₁.here [X₁.here.top, hexec, d3', Value.category]
  exact hsteps
/-- 'throw new E("text")': new; dup; ldc; invokespecial; athrow -/
theorem vx_throwS {cc : ByteArray} {pc : Nat} (hexec : p.tables.exec = Jvm.exec) (hb : c.code = cc) (hl : l.stackTraces = false) {own cls text : String} {names : List String} {ik is ic mc ms sa : Nat} {A : Nat → Prop}
    (hown : s.vm.findClass own = some m.cls) (hcls : Bundle.fit cls = true) (hnames : ∀ n ∈ names, Bundle.fit n = true)
    (hk : (Cond.classLink own ik cls).before args s = true) (hini : (Cond.initialized cls).before args s = true) (hstr : vk_R own is text sa s) (hat : ∀ w ∈ vx_atS own ic cls names, w.before args s = true)
    (hgood : ∀ w ∈ Cond.classLink own ik cls :: Cond.initialized cls :: vx_atS own ic cls names, vx_ot w = true)
    (hU : vx_Zq Bundle.tN "UNASSIGNED_STACK" Bundle.steD A s s.heap) (hN : vx_Zq Bundle.tN "SUPPRESSED_SENTINEL" Bundle.listD A s s.heap) (hS : va_S A s.heap H locs) (hsize : ls.size = c.maxLocals)
    (d0 : decode cc pc = .ok (.new ik, 3)) (d3 : decode cc (pc + 3) = .ok (.dup, 1)) (d4 : decode cc (pc + 4) = .ok (.ldc is, 2)) (d6 : decode cc (pc + 6) = .ok (.invokespecial ic, 3)) (d9 : decode cc (pc + 9) = .ok (.athrow, 1))
    (hout : ∀ x ∈ c.exceptionTable.toList, covers x (pc + 9) = false)
    (hRframes : names.length + 3 < R.frames) (hRlocals : (rest.map fun v => v.category).sum + (13 * (names.length + 1) + 43) ≤ R.locals) (hRcells : cells + 1 ≤ R.cells) (hRslots : slots + 6 ≤ R.slots) (hlocks : meth.locks = false)
    (hx : ∀ t : State, s.vm.Alike t.vm → H.size ≤ t.heap.size → (∀ q : Nat, q < H.size → t.heap[q]? = H[q]?) → XC cls s t)
    (hf : ∀ z ∈ locs, free z.base) (hc : cells + 1 ≤ mc) (hs : slots + 6 ≤ ms) :
    W p l e R s m args below meth c H locs cells slots (vx_MQ below Qc XC args s mc ms free) (F0 m pc ls rest) := by
  intro T hT X
  have htr : e.platform.stackTraces = false := (show e.platform.stackTraces = l.stackTraces by rw [X.admits.platform]).trans hl
  have Y := vx_rebase X (R' := { frames := R.frames, locals := R.locals, cells := 1, slots := 6 }) (Nat.le_refl _) (Nat.le_refl _) hRcells hRslots
  obtain ⟨s', hA⟩ : ∃ z, z = (T.setVm s.vm).setFrames (.invoking m args :: below) := ⟨_, rfl⟩
  rw [← hA] at Y
  have hvm : s'.vm = s.vm := by rw [hA]; rfl
  have hhp : s'.heap = H := by rw [hA]; exact hT
  have hW0 : s.WarmedH s'.vm := by rw [hvm]; exact State.WarmedH.refl s
  have hat' : ∀ w ∈ vx_atS own ic cls names, w.before args s' = true := fun w hw => vx_ot_at hW0 hvm.symm (hgood w (List.mem_cons_of_mem _ (List.mem_cons_of_mem _ hw))) (hat w hw)
  have hk' : (Cond.classLink own ik cls).before args s' = true := vx_ot_at hW0 hvm.symm (hgood _ List.mem_cons_self) hk
  have hini' : (Cond.initialized cls).before args s' = true := vx_ot_at hW0 hvm.symm (hgood _ (List.mem_cons_of_mem _ List.mem_cons_self)) hini
  have hU' : vx_Zq Bundle.tN "UNASSIGNED_STACK" Bundle.steD A s' s'.heap := by rw [hhp]; exact vx_Zq.moved hW0.alike (hU.kept hS.2.1)
  have hN' : vx_Zq Bundle.tN "SUPPRESSED_SENTINEL" Bundle.listD A s' s'.heap := by rw [hhp]; exact vx_Zq.moved hW0.alike (hN.kept hS.2.1)
  have h : ∀ w ∈ Bundle.ownAtoms own ic cls names, w.before args s' = true := vx_own hat' (vx_isRefq hU'.1) (vx_isRefq hN'.1) hU'.2.word hN'.2.word
  have hown' : s'.vm.findClass own = some m.cls := by rw [hvm]; exact hown
  have hins : (Cond.instantiable cls 6).before args s' = true := h _ (by simp [Bundle.ownAtoms])
  obtain ⟨vm₁, cX, kX, hfX, hkX, -, -, X₁, st1⟩ := Y.newCold hexec (own := own) (C := cls) (index := ik) (n := 6) hown' hk' hins hini'
    (g := F0 m pc ls rest) rfl (by rw [hb]; exact d0) (Nat.le_refl _) (Nat.le_refl _)
  generalize hT1 : (T.setVm vm₁).pushCell { cls := cX, slots := kX.instanceTypes.map defaultValue, vm := .none } = T1 at X₁ st1
  have hcat : (Value.ref T.heap.size).category = 1 := rfl
  have hcellA : T1.heap[T.heap.size]? = some (freshCell cX kX) := by rw [← hT1]; exact State.heap_pushCell_size _ _
  have d3' : decode c.code (pc + 3) = .ok (.dup, 1) := by rw [hb]; exact d3
  have d4' : decode c.code (pc + 4) = .ok (.ldc is, 2) := by rw [hb]; exact d4
  have hstr' : vk_R own is text sa s' := vk_R.warm hW0 hstr
  obtain ⟨U, hsteps, hrun, hend, hW, hsame, ce, hce, hO⟩ := X₁.ctorThrowS hexec htr (own := own) (cls := cls) (names := names) (ic := ic) hown' hcls hnames h (fun x hx => nomatch hx) hfX hkX hcellA (by rw [hhp, hT]; exact Nat.le_refl _) (msg := .ref sa) rfl
    (g := { method := m, pc := pc + 6, locals := ls, stack := .ref sa :: .ref T.heap.size :: .ref T.heap.size :: rest, locked := none }) rfl hsize rfl rfl (rest := rest) rfl
    (by rw [hb]; exact d6) (by rw [hb]; exact d9) hout hRframes (by simp only [List.map_cons, List.sum_cons, hcat]; omega) hlocks
  obtain ⟨f1, f2⟩ := vx_frame hsame
  rw [hhp] at f1 f2
  have hWs : s.WarmedH U.vm := State.WarmedH.trans hW0 hW
  have hcl : s.vm.findClass cls = some ce.cls := by
    have h9 := hO.cls
    rw [hvm] at h9
    exact h9
  have hall : s.sameButNew ({ U with vm := s.vm } : State) locs mc ms := by
    subst hA
    obtain ⟨e1, e2⟩ := hsame
    rw [State.setFrames_setFrames] at e1
    have h2 : (T.setVm s.vm).sameButNew ({ U with vm := s.vm } : State) [] (0 + 1) (0 + 6) := ⟨e1, e2⟩
    have h3 := X.same.trans h2
    rw [List.append_nil] at h3
    exact h3.mono hc hs
  refine ⟨U, ?_, .threw T.heap.size, hrun, hend, Or.inr ⟨T.heap.size, rfl, cls, ce, locs, hx U hWs.alike f1 (fun q hq => f2 q hq (fun z hz => nomatch hz)), hce, hO.vm, hcl, hWs, hall, hf⟩⟩
  refine st1 _ ?_
  show Steps p.tables e below (T1.setTop { method := m, pc := pc + 3, locals := ls, stack := .ref T.heap.size :: rest, locked := none }) _
  jvm_step X₁.here [X₁.here.top, hexec, d3', Value.category]
  exact X₁.ldcString hexec (own := own) (text := text) (index := is) (a := sa) hown' hstr'.1 hstr'.2
    (g := { method := m, pc := pc + 4, locals := ls, stack := .ref T.heap.size :: .ref T.heap.size :: rest, locked := none }) rfl d4' _ hsteps
/-- 'throw new E("text")', the text by a wide index -/
theorem vx_throwSW {cc : ByteArray} {pc : Nat} (hexec : p.tables.exec = Jvm.exec) (hb : c.code = cc) (hl : l.stackTraces = false) {own cls text : String} {names : List String} {ik is ic mc ms sa : Nat} {A : Nat → Prop}
    (hown : s.vm.findClass own = some m.cls) (hcls : Bundle.fit cls = true) (hnames : ∀ n ∈ names, Bundle.fit n = true)
    (hk : (Cond.classLink own ik cls).before args s = true) (hini : (Cond.initialized cls).before args s = true) (hstr : vk_R own is text sa s) (hat : ∀ w ∈ vx_atS own ic cls names, w.before args s = true)
    (hgood : ∀ w ∈ Cond.classLink own ik cls :: Cond.initialized cls :: vx_atS own ic cls names, vx_ot w = true)
    (hU : vx_Zq Bundle.tN "UNASSIGNED_STACK" Bundle.steD A s s.heap) (hN : vx_Zq Bundle.tN "SUPPRESSED_SENTINEL" Bundle.listD A s s.heap) (hS : va_S A s.heap H locs) (hsize : ls.size = c.maxLocals)
    (d0 : decode cc pc = .ok (.new ik, 3)) (d3 : decode cc (pc + 3) = .ok (.dup, 1)) (d4 : decode cc (pc + 4) = .ok (.ldc_w is, 3)) (d7 : decode cc (pc + 7) = .ok (.invokespecial ic, 3)) (d10 : decode cc (pc + 10) = .ok (.athrow, 1))
    (hout : ∀ x ∈ c.exceptionTable.toList, covers x (pc + 10) = false)
    (hRframes : names.length + 3 < R.frames) (hRlocals : (rest.map fun v => v.category).sum + (13 * (names.length + 1) + 43) ≤ R.locals) (hRcells : cells + 1 ≤ R.cells) (hRslots : slots + 6 ≤ R.slots) (hlocks : meth.locks = false)
    (hx : ∀ t : State, s.vm.Alike t.vm → H.size ≤ t.heap.size → (∀ q : Nat, q < H.size → t.heap[q]? = H[q]?) → XC cls s t)
    (hf : ∀ z ∈ locs, free z.base) (hc : cells + 1 ≤ mc) (hs : slots + 6 ≤ ms) :
    W p l e R s m args below meth c H locs cells slots (vx_MQ below Qc XC args s mc ms free) (F0 m pc ls rest) := by
  intro T hT X
  have htr : e.platform.stackTraces = false := (show e.platform.stackTraces = l.stackTraces by rw [X.admits.platform]).trans hl
  have Y := vx_rebase X (R' := { frames := R.frames, locals := R.locals, cells := 1, slots := 6 }) (Nat.le_refl _) (Nat.le_refl _) hRcells hRslots
  obtain ⟨s', hA⟩ : ∃ z, z = (T.setVm s.vm).setFrames (.invoking m args :: below) := ⟨_, rfl⟩
  rw [← hA] at Y
  have hvm : s'.vm = s.vm := by rw [hA]; rfl
  have hhp : s'.heap = H := by rw [hA]; exact hT
  have hW0 : s.WarmedH s'.vm := by rw [hvm]; exact State.WarmedH.refl s
  have hat' : ∀ w ∈ vx_atS own ic cls names, w.before args s' = true := fun w hw => vx_ot_at hW0 hvm.symm (hgood w (List.mem_cons_of_mem _ (List.mem_cons_of_mem _ hw))) (hat w hw)
  have hk' : (Cond.classLink own ik cls).before args s' = true := vx_ot_at hW0 hvm.symm (hgood _ List.mem_cons_self) hk
  have hini' : (Cond.initialized cls).before args s' = true := vx_ot_at hW0 hvm.symm (hgood _ (List.mem_cons_of_mem _ List.mem_cons_self)) hini
  have hU' : vx_Zq Bundle.tN "UNASSIGNED_STACK" Bundle.steD A s' s'.heap := by rw [hhp]; exact vx_Zq.moved hW0.alike (hU.kept hS.2.1)
  have hN' : vx_Zq Bundle.tN "SUPPRESSED_SENTINEL" Bundle.listD A s' s'.heap := by rw [hhp]; exact vx_Zq.moved hW0.alike (hN.kept hS.2.1)
  have h : ∀ w ∈ Bundle.ownAtoms own ic cls names, w.before args s' = true := vx_own hat' (vx_isRefq hU'.1) (vx_isRefq hN'.1) hU'.2.word hN'.2.word
  have hown' : s'.vm.findClass own = some m.cls := by rw [hvm]; exact hown
  have hins : (Cond.instantiable cls 6).before args s' = true := h _ (by simp [Bundle.ownAtoms])
  obtain ⟨vm₁, cX, kX, hfX, hkX, -, -, X₁, st1⟩ := Y.newCold hexec (own := own) (C := cls) (index := ik) (n := 6) hown' hk' hins hini'
    (g := F0 m pc ls rest) rfl (by rw [hb]; exact d0) (Nat.le_refl _) (Nat.le_refl _)
  generalize hT1 : (T.setVm vm₁).pushCell { cls := cX, slots := kX.instanceTypes.map defaultValue, vm := .none } = T1 at X₁ st1
  have hcat : (Value.ref T.heap.size).category = 1 := rfl
  have hcellA : T1.heap[T.heap.size]? = some (freshCell cX kX) := by rw [← hT1]; exact State.heap_pushCell_size _ _
  have d3' : decode c.code (pc + 3) = .ok (.dup, 1) := by rw [hb]; exact d3
  have d4' : decode c.code (pc + 4) = .ok (.ldc_w is, 3) := by rw [hb]; exact d4
  have hstr' : vk_R own is text sa s' := vk_R.warm hW0 hstr
  obtain ⟨U, hsteps, hrun, hend, hW, hsame, ce, hce, hO⟩ := X₁.ctorThrowS hexec htr (own := own) (cls := cls) (names := names) (ic := ic) hown' hcls hnames h (fun x hx => nomatch hx) hfX hkX hcellA (by rw [hhp, hT]; exact Nat.le_refl _) (msg := .ref sa) rfl
    (g := { method := m, pc := pc + 7, locals := ls, stack := .ref sa :: .ref T.heap.size :: .ref T.heap.size :: rest, locked := none }) rfl hsize rfl rfl (rest := rest) rfl
    (by rw [hb]; exact d7) (by rw [hb]; exact d10) hout hRframes (by simp only [List.map_cons, List.sum_cons, hcat]; omega) hlocks
  obtain ⟨f1, f2⟩ := vx_frame hsame
  rw [hhp] at f1 f2
  have hWs : s.WarmedH U.vm := State.WarmedH.trans hW0 hW
  have hcl : s.vm.findClass cls = some ce.cls := by
    have h9 := hO.cls
    rw [hvm] at h9
    exact h9
  have hall : s.sameButNew ({ U with vm := s.vm } : State) locs mc ms := by
    subst hA
    obtain ⟨e1, e2⟩ := hsame
    rw [State.setFrames_setFrames] at e1
    have h2 : (T.setVm s.vm).sameButNew ({ U with vm := s.vm } : State) [] (0 + 1) (0 + 6) := ⟨e1, e2⟩
    have h3 := X.same.trans h2
    rw [List.append_nil] at h3
    exact h3.mono hc hs
  refine ⟨U, ?_, .threw T.heap.size, hrun, hend, Or.inr ⟨T.heap.size, rfl, cls, ce, locs, hx U hWs.alike f1 (fun q hq => f2 q hq (fun z hz => nomatch hz)), hce, hO.vm, hcl, hWs, hall, hf⟩⟩
  refine st1 _ ?_
  show Steps p.tables e below (T1.setTop { method := m, pc := pc + 3, locals := ls, stack := .ref T.heap.size :: rest, locked := none }) _
  jvm_step X₁.here [X₁.here.top, hexec, d3', Value.category]
  exact X₁.ldcStringW hexec (own := own) (text := text) (index := is) (a := sa) hown' hstr'.1 hstr'.2
    (g := { method := m, pc := pc + 4, locals := ls, stack := .ref T.heap.size :: .ref T.heap.size :: rest, locked := none }) rfl d4' _ hsteps
end Ends
section Bodies
variable {l : Launch}
theorem vx_ofW {y : MethodName} {ws ws' : List Cond} {rm : Room} {Pc : Array Value → State → Prop} {Qc : Array Value → State → Outcome → State → Prop} {XC : String → State → State → Prop} {mc ms : Nat} {free : Addr → Prop} {cc : ByteArray} {maxL : Nat} {ret : Option FieldType}
    (hy : plainName y.cls = true) (hw : ws = Cond.code y cc maxL ret :: ws')
    (body : ∀ p e s m args below meth c s₁, BodyLoose p l y (headSpec ws rm) cc maxL ret e s m args below meth c s₁ → c.maxLocals = maxL → (∀ x ∈ c.exceptionTable.toList, False) → Pc args s →
      W p l e (headSpec ws rm).room s m args below meth c s.heap [] 0 0 (vx_MQ below Qc XC args s mc ms free) (entryFrame m args maxL)) : vx_Met l y ws rm Pc Qc XC mc ms free := by
  refine MetFree.of_bodyS (code := cc) (maxLocals := maxL) (ret := ret) hy ?_ ?_
  · intro args s m h hn
    obtain ⟨meth, c, h1, h2, h3, h4, h5, h6, -, -⟩ := Cond.code_spec hn (atoms_spec (ws := ws) h _ (by rw [hw]; exact List.mem_cons_self))
    exact ⟨meth, c, h1, h2, h3, h4, h5, h6⟩
  · intro p e s m args below meth c s₁ B hml hP _
    have hh0 : s₁.heap = s.heap := by rw [B.state]; rfl
    have ht : ∀ x ∈ c.exceptionTable.toList, False := by
      obtain ⟨meth9, c9, h1, h2, -, -, -, -, h7, -⟩ := Cond.code_spec B.named (atoms_spec (ws := ws) B.pre _ (by rw [hw]; exact List.mem_cons_self))
      cases Option.some.inj (h1.symm.trans B.method)
      cases Option.some.inj (h2.symm.trans (Stand.of_body B).code)
      intro x hx
      rw [Array.isEmpty_iff.mp h7] at hx
      cases hx
    obtain ⟨t, a1, o, b1, b2, b3⟩ := body p e s m args below meth c s₁ B hml ht hP s₁ hh0 (Stand.of_body B)
    exact ⟨t, o, a1, b1, b2, b3⟩
/-- the table of a body with handlers -/
theorem vx_table {p : Program} {x y : MethodName} {S : Spec} {cc bytes : ByteArray} {maxL maxL' : Nat} {ret ret' : Option FieldType} {e : Env} {s s₁ : State} {m : MethodId} {args : Array Value} {below : List Frame} {meth : Method} {c : Code} {hh : List (Nat × Nat × Nat × Nat)}
    (B : BodyLoose p l y S cc maxL ret e s m args below meth c s₁) (h : (Cond.codeWith y bytes maxL' ret' hh).before args s = true) : c.exceptionTable.toList = tableOf hh := by
  obtain ⟨m9, meth9, c9, hn9, h1, h2, -, -, h6, -⟩ := Cond.codeWith_spec h
  cases Option.some.inj (hn9.symm.trans B.named)
  cases Option.some.inj (h1.symm.trans B.method)
  cases Option.some.inj (h2.symm.trans (Stand.of_body B).code)
  rw [← h6, table_eq]
end Bodies
end VXA
/-! ===== END ===== -/
/-! ===== BEGIN a static call of a method with an exception table ===== -/
section VXS
variable {p : Program} {l : Launch} {e : Env} {R : Room} {s : State} {m : MethodId} {args : Array Value} {below : List Frame} {meth : Method} {c : Code} {T : State} {H : Heap} {locs : List Loc} {cells slots : Nat}
abbrev vx_CSW (R : Room) (s : State) (args : Array Value) (own : String) (index : Nat) (y : MethodName) (bytes : ByteArray) (maxL : Nat) (ret : Option FieldType) (hh : List (Nat × Nat × Nat × Nat)) (ws : List Cond) (rm : Room) (mc ms n : Nat) : Prop :=
  (rm.cells = mc ∧ rm.slots = ms ∧ rm.frames + 1 ≤ R.frames ∧ 8 + (maxL + 11) + rm.locals ≤ R.locals ∧ (∀ w ∈ ws, ∀ (a' : Array Value) (U : State), s.WarmedH U.vm → w.before a' U = true) ∧ Cond.codeWith y bytes maxL ret hh ∈ ws) ∧
  (Cond.codeWith y bytes maxL ret hh).before args s = true ∧ (Cond.initialized y.cls).before args s = true ∧ (y.cls ≠ "java/lang/invoke/MethodHandle" ∧ y.cls ≠ "java/lang/invoke/VarHandle") ∧
  (∀ sig, parseMethodDescriptor y.desc = some sig → n = sig.parameters.length) ∧ (Cond.methodLink own index y).before args s = true ∧ (Cond.static y).before args s = true
theorem vx_cwSW {own : String} {index maxL mc ms : Nat} {y : MethodName} {bytes : ByteArray} {ret : Option FieldType} {hh : List (Nat × Nat × Nat × Nat)} {Ts ws ws' : List Cond} {rm : Room} (n : Nat) (ht : ∀ w ∈ Ts, w.before args s = true) (hT : GoodIn Ts (va_wsS own index y ws)) (hw : ws = Cond.codeWith y bytes maxL ret hh :: ws') (hrc : rm.cells = mc) (hrs : rm.slots = ms)
    (hd : y.cls ≠ "java/lang/invoke/MethodHandle" ∧ y.cls ≠ "java/lang/invoke/VarHandle" ∧ (parseMethodDescriptor y.desc).map (fun d => d.parameters.length) = some n) (hR : rm.frames + 1 ≤ R.frames ∧ 8 + (maxL + 11) + rm.locals ≤ R.locals) :
    vx_CSW R s args own index y bytes maxL ret hh ws rm mc ms n := by
  have ok : ∀ w ∈ va_wsS own index y ws, w.before args s = true := fun w h => ht w (hT w h).1
  have hG : GoodIn Ts ws := fun w h => hT w (by unfold va_wsS; exact List.mem_append_right _ h)
  have hc : Cond.codeWith y bytes maxL ret hh ∈ ws := by rw [hw]; exact List.mem_cons_self
  refine ⟨⟨hrc, hrs, hR.1, hR.2, pay_in ht hG, hc⟩, ht _ (hG _ hc).1, ok _ (by simp [va_wsS]), ⟨hd.1, hd.2.1⟩, fun sig h => ?_, ok _ (by simp [va_wsS]), ok _ (by simp [va_wsS])⟩
  have h2 := hd.2.2
  rw [h] at h2
  exact (Option.some.inj h2).symm
theorem vx_callSW (X : Stand p l e R s m args below meth c T locs cells slots) (hexec : p.tables.exec = Jvm.exec) {own : String} {index : Nat} {y : MethodName} {bytes : ByteArray} {maxL : Nat} {ret : Option FieldType} {hh : List (Nat × Nat × Nat × Nat)}
    (hown : s.vm.findClass own = some m.cls) (hlink : (Cond.methodLink own index y).before args s = true) (hstat : (Cond.static y).before args s = true) (hinit : (Cond.initialized y.cls).before args s = true)
    (hcode : (Cond.codeWith y bytes maxL ret hh).before args s = true) (hy : y.cls ≠ "java/lang/invoke/MethodHandle" ∧ y.cls ≠ "java/lang/invoke/VarHandle")
    {W9 : Nat} {Pre : Pt → Array Value → Prop} {Post : Pt → Array Value → Option Value → Pt → Prop} (hK : Back l R p e below s args y 3 W9 Pre Post)
    {g : JFrame} (hg : g.method = m) (hsize : g.locals.size = c.maxLocals) {argsL rest : List Value} (hlen : ∀ sig, parseMethodDescriptor y.desc = some sig → argsL.length = sig.parameters.length)
    (hstack : g.stack = argsL.reverse ++ rest) (hW : 2 * g.monitorRoom + (rest.map fun v => v.category).sum ≤ W9) (hdg : decode c.code g.pc = .ok (.invokestatic index, 3))
    (hpre : ∀ vm₁, s.WarmedH vm₁ → Pre ⟨T.setVm vm₁, locs, cells, slots⟩ argsL.toArray) :
    ∃ (v : Option Value) (vm₁ : Vm) (B : Pt), s.WarmedH vm₁ ∧ Stand p l e R s m args below meth c B.U B.locs B.cells B.slots ∧ Post ⟨T.setVm vm₁, locs, cells, slots⟩ argsL.toArray v B ∧
      ∀ target, Steps p.tables e below (B.U.setTop { g with pc := g.pc + 3, stack := v.toList ++ rest }) target → Steps p.tables e below (T.setTop g) target := by
  obtain ⟨mk, methM, cM, hnamed, hmethM, -, -, -, -, -, -, hsigM⟩ := Cond.codeWith_spec hcode
  have hstatic : methM.isStatic = true := Cond.static_spec hnamed hmethM hstat
  obtain ⟨kP, hkP, -⟩ := className_of_methodNamed hnamed
  have hinitP : kP.init = .initialized := Cond.initialized_spec (findClass_of_methodNamed hnamed) hkP hinit
  obtain ⟨vm₁, X₁, hstep₁⟩ := X.invokestatic hexec hown hlink hnamed hmethM hstatic hkP hinitP hy (g := g) hg (argsL := argsL) (rest := rest) (hlen _ hsigM) hstack hdg
  obtain ⟨v, B, X', hpost, hsteps⟩ := hK m meth c ⟨T.setVm vm₁, locs, cells, slots⟩ { g with stack := rest } (.invokestatic index) mk argsL.toArray X₁ hg hsize hdg hW (X₁.named hnamed) (hpre vm₁ X₁.warmed)
  exact ⟨v, vm₁, B, X₁.warmed, X', hpost, fun target h => hstep₁ _ fun acts => by rw [doInvoke_state]; exact hsteps.trans h⟩
theorem vx_runSW {y : MethodName} {bytes cc : ByteArray} {maxL nL mc ms n index : Nat} {ret : Option FieldType} {hh : List (Nat × Nat × Nat × Nat)} {ws : List Cond} {rm : Room} {Pc : Array Value → State → Prop} {Qc : Array Value → State → Outcome → State → Prop} {free : Addr → Prop} {Ts : List Cond} {own : String} {As rest : List Value} {g : JFrame}
    (S : CallFix p m c cc nL s args Ts own) (hM : Met l y ws rm Pc Qc mc ms free) (cw : vx_CSW R s args own index y bytes maxL ret hh ws rm mc ms n) (hp : PreS s H Pc As)
    (hg : g.method = m) (hn : As.length = n) (hsize : g.locals.size = nL) (hstack : g.stack = As.reverse ++ rest) (hW : 2 * g.monitorRoom + (rest.map fun v => v.category).sum ≤ 8) (hdg : decode cc g.pc = .ok (.invokestatic index, 3)) (hf : cells + mc ≤ R.cells ∧ slots + ms ≤ R.slots) :
    va_Run p l e R s m args below meth c H locs cells slots mc ms g rest (Qc As.toArray) (free) := by
  obtain ⟨⟨hrc, hrs, hfr, hlo, hws, hcw⟩, hcode, hini, hy, hlen, hl, hstt⟩ := cw
  have hK : Back l R p e below s args y 3 8 (PreOf R mc ms Pc) (PostOf Qc mc ms free) := va_backW (hh := hh) (bytes := bytes) (maxL := maxL) (ret := ret) hM hp.1 hrc hrs hfr hlo hws hcw (fun a' U hW => word_at hW (Or.inl (by first | rfl | simp [Cond.onTables, Cond.keeps, Cond.steady])) hini)
  obtain ⟨hx, hb, hml, ho, -⟩ := S
  intro T hT X
  obtain ⟨v, vm₁, ⟨U', l2, c2, s2⟩, hW₁, X', ⟨g', mk, t, L, e1, e2, hq, h1, hL, h2, h3⟩, st⟩ := vx_callSW X hx (hh := hh) (bytes := bytes) (maxL := maxL) (ret := ret) ho hl hstt hini hcode hy hK hg (hsize.trans hml.symm) (argsL := As) (rest := rest) (fun sig h => hn.trans (hlen sig h)) hstack hW (by rw [hb]; exact hdg)
    (fun vm₁ hW₁ => ⟨hf.1, hf.2, hp.2 (T.setVm vm₁) hT hW₁⟩)
  dsimp only [Pt.U, Pt.locs, Pt.cells, Pt.slots] at X' e1 e2 h1 h2 h3 st
  subst h1; subst h2; subst h3
  exact ⟨v, (T.setVm vm₁).calling g' mk As.toArray, t, U', L, hT, X', hL, e1, e2, hq, st⟩
/-- not caught here, past rows that name other classes: it goes on to the caller -/
theorem vx_outP {p : Program} {l : Launch} {e : Env} {R : Room} {s : State} {m : MethodId} {args : Array Value} {below : List Frame} {meth : Method} {c : Code} {H : Heap} {locs : List Loc} {cells slots : Nat} {free : Addr → Prop} {ls : Array Slot} {rest : List Value} {Qc : Array Value → State → Outcome → State → Prop} {XC : String → State → State → Prop}
    {pc : Nat} {own E : String} {ce : Cell} {q : Addr} {mc ms : Nat} (hown : s.vm.findClass own = some m.cls) (hlocks : meth.locks = false)
    (hpass : ∀ z ∈ c.exceptionTable.toList, covers z pc = false ∨ (z.catchType ≠ 0 ∧ ∃ nm : String, (Cond.classLink own z.catchType nm).before args s = true ∧ va_Nc E nm s)) (hcell : H[q]? = some ce) (hv : ce.vm = .none) (hcl : s.vm.findClass E = some ce.cls)
    (hx : ∀ t : State, t.heap = H → s.vm.Alike t.vm → XC E s t) (hf : ∀ z ∈ locs, free z.base) (hc : cells ≤ mc) (hs : slots ≤ ms) :
    vx_W p l e R s m args below meth c H locs cells slots (vx_MQ below Qc XC args s mc ms free) (F0 m pc ls rest) q := by
  intro T hT X
  have hpl : e.platform.magicAccessors = ({} : Platform).magicAccessors := by rw [X.admits.platform]
  obtain ⟨vm', hW', X', st⟩ := X.outThrough hlocks q (g := F0 m pc ls rest) rfl rfl rfl (cell := ce) (by rw [hT]; exact hcell) (by rw [hv]; rfl)
    (by obtain ⟨k9, h9, -⟩ := Vm.findClass_spec hcl; exact ⟨k9, h9⟩) (fun z hz => by
      rcases hpass z hz with h | ⟨hz0, nm, hl1, hn1⟩
      · exact Or.inl h
      · obtain ⟨c6, hc6, hcl6⟩ := Cond.classLink_spec hown hl1 e.platform hpl
        obtain ⟨a8, b8, h1, h2, h3⟩ := hn1
        cases Option.some.inj (h1.symm.trans hcl)
        cases Option.some.inj (h2.symm.trans hc6)
        exact Or.inr ⟨hz0, _, hcl6, h3⟩)
  obtain ⟨g₀, hfr⟩ := X'.frames_eq
  have hcell9 : ((T.setVm vm').setFrames (.throwing q :: below)).heap[q]? = some ce := by
    show T.heap[q]? = some ce
    rw [hT]; exact hcell
  have hend : Ended ((T.setVm vm').setFrames (.throwing q :: below)) below (.threw q) := State.frames_setFrames _ (State.cur_lt_of_frames hfr)
  refine ⟨(T.setVm vm').setFrames (.throwing q :: below), ?_, .threw q, X'.here.running, hend, Or.inr ⟨q, rfl, E, ce, locs, hx _ hT (X'.ends _).1.alike, hcell9, hv, hcl, (X'.ends _).1, (X'.ends _).2.mono hc hs, hf⟩⟩
  rw [X.pushThrowing_eq]
  exact st
/-- a thing of a world lies in the heap -/
theorem vx_lt {D : va_G} {cl : List vw_C} {ws : va_W} {H1 : Heap} (h : va_P D cl ws H1) {k : Nat} {q : Nat × va_E} (hk : ws[k]? = some q) : q.1 < H1.size := (h k q hk).lt
end VXS
/-! ===== END ===== -/
/-! ===== BEGIN methods with a table of their own: called by a name, returning or throwing ===== -/
section VXH
/-! vx_backW, vx_callVX, vx_callSX, vx_callVW, vx_runVW, vx_runVX, vx_runSX, vx_ofWH follow the same proofs as their sisters above (Free/Laws.lean, Shelf42/LK1.lean); vx_outP calls Shelf42/NT130.lean (outThrough). -/
section
variable {l : Launch} {R : Room} {p : Program} {e : Env} {below : List Frame} {s : State} {sargs : Array Value} {y : MethodName} {len W9 : Nat}
theorem vx_backW {ws : List Cond} {rm : Room} {Pc : Array Value → State → Prop} {Qc : Array Value → State → Outcome → State → Prop} {XC : String → State → State → Prop} {mc ms : Nat} {free : Addr → Prop} {bytes : ByteArray} {maxL : Nat} {ret : Option FieldType} {hh : List (Nat × Nat × Nat × Nat)}
    (hM : vx_Met l y ws rm Pc Qc XC mc ms free) (hblind : FrameBlind Pc) (hrc : rm.cells = mc) (hrs : rm.slots = ms)
    (hframes : rm.frames + 1 ≤ R.frames) (hlocals : W9 + (maxL + 11) + rm.locals ≤ R.locals)
    (hws : ∀ w ∈ ws, ∀ a' U, s.WarmedH U.vm → w.before a' U = true) (hcode : Cond.codeWith y bytes maxL ret hh ∈ ws) (hinit : ∀ a' U, s.WarmedH U.vm → (Cond.initialized y.cls).before a' U = true) :
    vx_Back l R p e below s sargs y len W9 (PreOf R mc ms Pc) (PostOf Qc mc ms free) (vx_Post XC mc ms free) := by
  intro m meth c A g ig mk a X hg hsize hdg hW hn hp
  have h1 : (headSpec ws rm).pre.before a A.U = true := atoms_intro fun w hw => hws w hw _ _ X.warmed
  have h2 : (Cond.codeWith y bytes maxL ret hh).before a A.U = true := hws _ hcode _ _ X.warmed
  have h3 : (Cond.initialized y.cls).before a A.U = true := hinit _ _ X.warmed
  have h4 : A.cells + (headSpec ws rm).room.cells ≤ R.cells := by rw [show (headSpec ws rm).room.cells = mc from hrc]; exact hp.1
  have h5 : A.slots + (headSpec ws rm).room.slots ≤ R.slots := by rw [show (headSpec ws rm).room.slots = ms from hrs]; exact hp.2.1
  have hPc : Pc a (A.U.calling g mk a) := hblind _ _ _ _ hp.2.2
  obtain ⟨U, Ls, c0, s0⟩ := A
  dsimp only [Pt.U, Pt.locs, Pt.cells, Pt.slots] at h1 h2 h3 h4 h5 X hn hPc ⊢
  obtain ⟨m9, methY, cY, hn9, hmY, hcY, -, hlY, -⟩ := Cond.codeWith_spec h2
  cases Option.some.inj (hn9.symm.trans hn)
  obtain ⟨kY, hkY, -⟩ := className_of_methodNamed hn
  have hinitY : kY.init = .initialized := Cond.initialized_spec (findClass_of_methodNamed hn) hkY h3
  have h : At U g.method c below := by rw [hg]; exact X.here
  have hlocals9 : W9 + (maxL + 11) + (headSpec ws rm).room.locals ≤ R.locals := hlocals
  have happ : (headSpec ws rm).appliesLoose y e.platform (U.calling g mk a) = true :=
    Spec.appliesLoose_calling (g := g) h hdg hn hkY hinitY
      (X.room_calling (g := g) (R' := (headSpec ws rm).room) hsize hmY hcY hframes (by rw [hlY]; omega) h4 h5) h1
  obtain ⟨mid, hmid⟩ := h.above
  have hfr : (U.setTop g).frames = (.java g :: mid) ++ below := by rw [State.frames_setTop' g h.top, hmid]; rfl
  obtain ⟨o, s₂, hsteps, -, hend, hq⟩ := Steps.callFree hM p X.admits X.cas X.clock (acts := []) hfr happ hPc trivial
  have hq' : vx_Q Qc XC mc ms free a (U.calling g mk a) o s₂ := hq
  rw [State.frames_setTop' g h.top] at hend
  obtain ⟨g₀, hg0⟩ := Option.isSome_iff_exists.mp h.top
  obtain ⟨r, hr⟩ := State.topJava?_eq_some.mp hg0
  have hr' : (({ U with heap := s₂.heap, slotsUsed := s₂.slotsUsed } : State).setVm s₂.vm).frames = .java g₀ :: r := hr
  rcases hq' with ⟨hqc, L, hfe, hL⟩ | ⟨q, rfl, E, ce, L, hx, hce, hcv, hcl, hW₂, hsm, hL⟩
  · obtain ⟨⟨v, rfl⟩, hW₂, e2, q2, q3, q4, q5, q6⟩ := id hfe
    have e3 : s₂ = ({ (U.calling g mk a).setFrames s₂.frames with heap := s₂.heap, slotsUsed := s₂.slotsUsed } : State).setVm s₂.vm := by
      have : s₂ = ({ s₂ with vm := (U.calling g mk a).vm } : State).setVm s₂.vm := rfl
      rw [e2] at this
      exact this
    obtain ⟨c₂, i₂, len₂, hc₂, hd₂, hf₂⟩ := hend
    have hW' : U.WarmedH s₂.vm := hW₂
    have hcc : c₂ = c := by
      have h1 : s₂.code? g.method = U.code? g.method := by
        rw [State.code?_eq, State.code?_eq, hW'.alike.method?]
      exact Option.some.inj (hc₂.symm.trans (h1.trans h.code))
    subst hcc
    have hlen : len₂ = len := by rw [hdg] at hd₂; cases hd₂; rfl
    subst hlen
    have hs₂ : s₂ = (({ U with heap := s₂.heap, slotsUsed := s₂.slotsUsed } : State).setVm s₂.vm).setTop { g with pc := g.pc + len₂, stack := v.toList ++ g.stack } := by
      refine e3.trans ?_
      rw [hf₂, State.calling_eq h.top, State.setFrames_setFrames, State.setTop_of_frames _ hr', hr]
      rfl
    have hsame : U.sameButNew ({ U with heap := s₂.heap, slotsUsed := s₂.slotsUsed } : State) L mc ms := by
      refine ⟨?_, q2, q3, q4, q5, q6⟩
      obtain ⟨t, ht, -⟩ := State.frames_cons hr
      show ({ U with heap := s₂.heap, slotsUsed := s₂.slotsUsed } : State) = { U.setFrames U.frames with heap := s₂.heap, slotsUsed := s₂.slotsUsed }
      rw [State.setFrames_self ht]
    subst hg
    refine Or.inl ⟨v, ⟨(({ U with heap := s₂.heap, slotsUsed := s₂.slotsUsed } : State).setVm s₂.vm), Ls ++ L, c0 + mc, s0 + ms⟩,
      ⟨X.admits, X.cas, X.clock, X.frames, X.room, X.hears, X.method, X.code, (X.here.setHeapUsed s₂.heap s₂.slotsUsed).setVm hW'.alike, X.tail, State.WarmedH.trans X.warmed hW', X.limits, X.bytes, X.same.trans (hsame.setVm s.vm)⟩,
      ⟨g, mk, s₂, L, rfl, rfl, hqc, rfl, hL, rfl, rfl⟩, ?_⟩
    show Steps p.tables e below _ ((({ U with heap := s₂.heap, slotsUsed := s₂.slotsUsed } : State).setVm s₂.vm).setTop { g with pc := g.pc + len₂, stack := v.toList ++ g.stack })
    rw [← hs₂]
    exact hsteps
  · obtain ⟨e2, q2, q3, q4, q5, q6⟩ := id hsm
    have e3 : s₂ = ({ (U.calling g mk a).setFrames s₂.frames with heap := s₂.heap, slotsUsed := s₂.slotsUsed } : State).setVm s₂.vm := by
      have : s₂ = ({ s₂ with vm := (U.calling g mk a).vm } : State).setVm s₂.vm := rfl
      rw [e2] at this
      exact this
    have hf₂ : s₂.frames = .throwing q :: .java g :: U.frames.tail := hend
    have hW' : U.WarmedH s₂.vm := hW₂
    have hs₂ : s₂ = ((({ U with heap := s₂.heap, slotsUsed := s₂.slotsUsed } : State).setVm s₂.vm).setTop g).pushFrame (.throwing q) := by
      refine e3.trans ?_
      rw [hf₂, State.calling_eq h.top, State.setFrames_setFrames, State.pushFrame, State.frames_setTop _ hr', State.setTop_of_frames _ hr', State.setFrames_setFrames, hr]
      rfl
    have hsame : U.sameButNew ({ U with heap := s₂.heap, slotsUsed := s₂.slotsUsed } : State) L mc ms := by
      refine ⟨?_, q2, q3, q4, q5, q6⟩
      obtain ⟨t, ht, -⟩ := State.frames_cons hr
      show ({ U with heap := s₂.heap, slotsUsed := s₂.slotsUsed } : State) = { U.setFrames U.frames with heap := s₂.heap, slotsUsed := s₂.slotsUsed }
      rw [State.setFrames_self ht]
    subst hg
    refine Or.inr ⟨q, ⟨(({ U with heap := s₂.heap, slotsUsed := s₂.slotsUsed } : State).setVm s₂.vm), Ls ++ L, c0 + mc, s0 + ms⟩,
      ⟨X.admits, X.cas, X.clock, X.frames, X.room, X.hears, X.method, X.code, (X.here.setHeapUsed s₂.heap s₂.slotsUsed).setVm hW'.alike, X.tail, State.WarmedH.trans X.warmed hW', X.limits, X.bytes, X.same.trans (hsame.setVm s.vm)⟩,
      ⟨g, mk, s₂, L, E, ce, rfl, rfl, hx, hce, hcv, hcl, rfl, hL, rfl, rfl⟩, ?_⟩
    show Steps p.tables e below _ (((({ U with heap := s₂.heap, slotsUsed := s₂.slotsUsed } : State).setVm s₂.vm).setTop g).pushFrame (.throwing q))
    rw [← hs₂]
    exact hsteps
end
variable {p : Program} {l : Launch} {e : Env} {R : Room} {s : State} {m : MethodId} {args : Array Value} {below : List Frame} {meth : Method} {c : Code} {T : State} {H : Heap} {locs : List Loc} {cells slots : Nat}
theorem vx_callVX (X : Stand p l e R s m args below meth c T locs cells slots) (hexec : p.tables.exec = Jvm.exec) {own C : String} {index : Nat} {y : MethodName} {bytes : ByteArray} {maxL : Nat} {ret : Option FieldType} {hh : List (Nat × Nat × Nat × Nat)}
    (hown : s.vm.findClass own = some m.cls) (hlink : (Cond.methodLink own index y).before args s = true) (hinst : (Cond.instanceMethod y).before args s = true) (hsel : (Cond.selects C y y).before args s = true)
    (hcode : (Cond.codeWith y bytes maxL ret hh).before args s = true) (hy : y.cls ≠ "java/lang/invoke/MethodHandle" ∧ y.cls ≠ "java/lang/invoke/VarHandle")
    {W9 : Nat} {Pre : Pt → Array Value → Prop} {Post : Pt → Array Value → Option Value → Pt → Prop} {PostX : Pt → Array Value → Addr → Pt → Prop} (hK : vx_Back l R p e below s args y 3 W9 Pre Post PostX)
    {b : Addr} {cellB : Cell} (hcell : T.heap[b]? = some cellB) (hobj : cellB.vm.isStatics = false) (hcls : s.vm.findClass C = some cellB.cls)
    {g : JFrame} (hg : g.method = m) (hsize : g.locals.size = c.maxLocals) {argsL rest : List Value} (hlen : ∀ sig, parseMethodDescriptor y.desc = some sig → argsL.length = sig.parameters.length)
    (hstack : g.stack = argsL.reverse ++ .ref b :: rest) (hW : 2 * g.monitorRoom + (rest.map fun v => v.category).sum ≤ W9) (hdg : decode c.code g.pc = .ok (.invokevirtual index, 3))
    (hpre : ∀ vm₁, s.WarmedH vm₁ → Pre ⟨T.setVm vm₁, locs, cells, slots⟩ (Value.ref b :: argsL).toArray) :
    (∃ (v : Option Value) (vm₁ : Vm) (B : Pt), s.WarmedH vm₁ ∧ Stand p l e R s m args below meth c B.U B.locs B.cells B.slots ∧ Post ⟨T.setVm vm₁, locs, cells, slots⟩ (Value.ref b :: argsL).toArray v B ∧
      ∀ target, Steps p.tables e below (B.U.setTop { g with pc := g.pc + 3, stack := v.toList ++ rest }) target → Steps p.tables e below (T.setTop g) target) ∨
    (∃ (q : Addr) (vm₁ : Vm) (B : Pt), s.WarmedH vm₁ ∧ Stand p l e R s m args below meth c B.U B.locs B.cells B.slots ∧ PostX ⟨T.setVm vm₁, locs, cells, slots⟩ (Value.ref b :: argsL).toArray q B ∧
      Steps p.tables e below (T.setTop g) ((B.U.setTop { g with stack := rest }).pushFrame (.throwing q))) := by
  obtain ⟨mk, methM, hnamed, hmethM, hstM, habM⟩ := Cond.instanceMethod_spec hinst
  obtain ⟨m8, methM', cM, hn8, hmethM', -, -, -, -, -, -, hsigM⟩ := Cond.codeWith_spec hcode
  cases Option.some.inj (hn8.symm.trans hnamed)
  cases hmethM.symm.trans hmethM'
  obtain ⟨c2, r2, m2, q1, q2, q3, q4, kP, hkP, hkPi⟩ := Cond.selects_spec hsel
  cases hcls.symm.trans q1
  cases (State.methodFound?_of_named hnamed hy).symm.trans q2
  cases hnamed.symm.trans q3
  have hselP : selectMethod e.platform s.vm cellB.cls mk = .method mk := by rw [Launch.admits_selectMethod X.admits]; exact q4
  obtain ⟨vm₁, X₁, hstep₁⟩ := X.invokevirtual hexec hown hlink hnamed hmethM hstM hkP hkPi hy (a := b) (cell := cellB) hcell
    (fun z h => by rw [h] at hobj; cases hobj) hselP hmethM habM hkP hkPi (g := g) hg (argsL := argsL) (rest := rest) (hlen _ hsigM) hstack hdg
  rcases hK m meth c ⟨T.setVm vm₁, locs, cells, slots⟩ { g with stack := rest } (.invokevirtual index) mk (Value.ref b :: argsL).toArray X₁ hg hsize hdg hW (X₁.named hnamed) (hpre vm₁ X₁.warmed) with ⟨v, B, X', hpost, hsteps⟩ | ⟨q, B, X', hpost, hsteps⟩
  · exact Or.inl ⟨v, vm₁, B, X₁.warmed, X', hpost, fun target h => hstep₁ _ fun acts => by rw [doInvoke_state]; exact hsteps.trans h⟩
  · exact Or.inr ⟨q, vm₁, B, X₁.warmed, X', hpost, hstep₁ _ fun acts => by rw [doInvoke_state]; exact hsteps⟩
theorem vx_callSX (X : Stand p l e R s m args below meth c T locs cells slots) (hexec : p.tables.exec = Jvm.exec) {own : String} {index : Nat} {y : MethodName} {bytes : ByteArray} {maxL : Nat} {ret : Option FieldType} {hh : List (Nat × Nat × Nat × Nat)}
    (hown : s.vm.findClass own = some m.cls) (hlink : (Cond.methodLink own index y).before args s = true) (hstat : (Cond.static y).before args s = true) (hinit : (Cond.initialized y.cls).before args s = true)
    (hcode : (Cond.codeWith y bytes maxL ret hh).before args s = true) (hy : y.cls ≠ "java/lang/invoke/MethodHandle" ∧ y.cls ≠ "java/lang/invoke/VarHandle")
    {W9 : Nat} {Pre : Pt → Array Value → Prop} {Post : Pt → Array Value → Option Value → Pt → Prop} {PostX : Pt → Array Value → Addr → Pt → Prop} (hK : vx_Back l R p e below s args y 3 W9 Pre Post PostX)
    {g : JFrame} (hg : g.method = m) (hsize : g.locals.size = c.maxLocals) {argsL rest : List Value} (hlen : ∀ sig, parseMethodDescriptor y.desc = some sig → argsL.length = sig.parameters.length)
    (hstack : g.stack = argsL.reverse ++ rest) (hW : 2 * g.monitorRoom + (rest.map fun v => v.category).sum ≤ W9) (hdg : decode c.code g.pc = .ok (.invokestatic index, 3))
    (hpre : ∀ vm₁, s.WarmedH vm₁ → Pre ⟨T.setVm vm₁, locs, cells, slots⟩ argsL.toArray) :
    (∃ (v : Option Value) (vm₁ : Vm) (B : Pt), s.WarmedH vm₁ ∧ Stand p l e R s m args below meth c B.U B.locs B.cells B.slots ∧ Post ⟨T.setVm vm₁, locs, cells, slots⟩ argsL.toArray v B ∧
      ∀ target, Steps p.tables e below (B.U.setTop { g with pc := g.pc + 3, stack := v.toList ++ rest }) target → Steps p.tables e below (T.setTop g) target) ∨
    (∃ (q : Addr) (vm₁ : Vm) (B : Pt), s.WarmedH vm₁ ∧ Stand p l e R s m args below meth c B.U B.locs B.cells B.slots ∧ PostX ⟨T.setVm vm₁, locs, cells, slots⟩ argsL.toArray q B ∧
      Steps p.tables e below (T.setTop g) ((B.U.setTop { g with stack := rest }).pushFrame (.throwing q))) := by
  obtain ⟨mk, methM, cM, hnamed, hmethM, -, -, -, -, -, -, hsigM⟩ := Cond.codeWith_spec hcode
  have hstatic : methM.isStatic = true := Cond.static_spec hnamed hmethM hstat
  obtain ⟨kP, hkP, -⟩ := className_of_methodNamed hnamed
  have hinitP : kP.init = .initialized := Cond.initialized_spec (findClass_of_methodNamed hnamed) hkP hinit
  obtain ⟨vm₁, X₁, hstep₁⟩ := X.invokestatic hexec hown hlink hnamed hmethM hstatic hkP hinitP hy (g := g) hg (argsL := argsL) (rest := rest) (hlen _ hsigM) hstack hdg
  rcases hK m meth c ⟨T.setVm vm₁, locs, cells, slots⟩ { g with stack := rest } (.invokestatic index) mk argsL.toArray X₁ hg hsize hdg hW (X₁.named hnamed) (hpre vm₁ X₁.warmed) with ⟨v, B, X', hpost, hsteps⟩ | ⟨q, B, X', hpost, hsteps⟩
  · exact Or.inl ⟨v, vm₁, B, X₁.warmed, X', hpost, fun target h => hstep₁ _ fun acts => by rw [doInvoke_state]; exact hsteps.trans h⟩
  · exact Or.inr ⟨q, vm₁, B, X₁.warmed, X', hpost, hstep₁ _ fun acts => by rw [doInvoke_state]; exact hsteps⟩
theorem vx_callVW (X : Stand p l e R s m args below meth c T locs cells slots) (hexec : p.tables.exec = Jvm.exec) {own C : String} {index : Nat} {y : MethodName} {bytes : ByteArray} {maxL : Nat} {ret : Option FieldType} {hh : List (Nat × Nat × Nat × Nat)}
    (hown : s.vm.findClass own = some m.cls) (hlink : (Cond.methodLink own index y).before args s = true) (hinst : (Cond.instanceMethod y).before args s = true) (hsel : (Cond.selects C y y).before args s = true)
    (hcode : (Cond.codeWith y bytes maxL ret hh).before args s = true) (hy : y.cls ≠ "java/lang/invoke/MethodHandle" ∧ y.cls ≠ "java/lang/invoke/VarHandle")
    {W9 : Nat} {Pre : Pt → Array Value → Prop} {Post : Pt → Array Value → Option Value → Pt → Prop} (hK : Back l R p e below s args y 3 W9 Pre Post)
    {b : Addr} {cellB : Cell} (hcell : T.heap[b]? = some cellB) (hobj : cellB.vm.isStatics = false) (hcls : s.vm.findClass C = some cellB.cls)
    {g : JFrame} (hg : g.method = m) (hsize : g.locals.size = c.maxLocals) {argsL rest : List Value} (hlen : ∀ sig, parseMethodDescriptor y.desc = some sig → argsL.length = sig.parameters.length)
    (hstack : g.stack = argsL.reverse ++ .ref b :: rest) (hW : 2 * g.monitorRoom + (rest.map fun v => v.category).sum ≤ W9) (hdg : decode c.code g.pc = .ok (.invokevirtual index, 3))
    (hpre : ∀ vm₁, s.WarmedH vm₁ → Pre ⟨T.setVm vm₁, locs, cells, slots⟩ (Value.ref b :: argsL).toArray) :
    ∃ (v : Option Value) (vm₁ : Vm) (B : Pt), s.WarmedH vm₁ ∧ Stand p l e R s m args below meth c B.U B.locs B.cells B.slots ∧ Post ⟨T.setVm vm₁, locs, cells, slots⟩ (Value.ref b :: argsL).toArray v B ∧
      ∀ target, Steps p.tables e below (B.U.setTop { g with pc := g.pc + 3, stack := v.toList ++ rest }) target → Steps p.tables e below (T.setTop g) target := by
  obtain ⟨mk, methM, hnamed, hmethM, hstM, habM⟩ := Cond.instanceMethod_spec hinst
  obtain ⟨m8, methM', cM, hn8, hmethM', -, -, -, -, -, -, hsigM⟩ := Cond.codeWith_spec hcode
  cases Option.some.inj (hn8.symm.trans hnamed)
  cases hmethM.symm.trans hmethM'
  obtain ⟨c2, r2, m2, q1, q2, q3, q4, kP, hkP, hkPi⟩ := Cond.selects_spec hsel
  cases hcls.symm.trans q1
  cases (State.methodFound?_of_named hnamed hy).symm.trans q2
  cases hnamed.symm.trans q3
  have hselP : selectMethod e.platform s.vm cellB.cls mk = .method mk := by rw [Launch.admits_selectMethod X.admits]; exact q4
  obtain ⟨vm₁, X₁, hstep₁⟩ := X.invokevirtual hexec hown hlink hnamed hmethM hstM hkP hkPi hy (a := b) (cell := cellB) hcell
    (fun z h => by rw [h] at hobj; cases hobj) hselP hmethM habM hkP hkPi (g := g) hg (argsL := argsL) (rest := rest) (hlen _ hsigM) hstack hdg
  obtain ⟨v, B, X', hpost, hsteps⟩ := hK m meth c ⟨T.setVm vm₁, locs, cells, slots⟩ { g with stack := rest } (.invokevirtual index) mk (Value.ref b :: argsL).toArray X₁ hg hsize hdg hW (X₁.named hnamed) (hpre vm₁ X₁.warmed)
  exact ⟨v, vm₁, B, X₁.warmed, X', hpost, fun target h => hstep₁ _ fun acts => by rw [doInvoke_state]; exact hsteps.trans h⟩
abbrev vx_CVW (R : Room) (s : State) (args : Array Value) (own C : String) (index : Nat) (y : MethodName) (bytes : ByteArray) (maxL : Nat) (ret : Option FieldType) (hh : List (Nat × Nat × Nat × Nat)) (ws : List Cond) (rm : Room) (mc ms n : Nat) : Prop :=
  (rm.cells = mc ∧ rm.slots = ms ∧ rm.frames + 1 ≤ R.frames ∧ 8 + (maxL + 11) + rm.locals ≤ R.locals ∧ (∀ w ∈ ws, ∀ (a' : Array Value) (U : State), s.WarmedH U.vm → w.before a' U = true) ∧ Cond.codeWith y bytes maxL ret hh ∈ ws) ∧
  (Cond.codeWith y bytes maxL ret hh).before args s = true ∧ (Cond.initialized y.cls).before args s = true ∧ (y.cls ≠ "java/lang/invoke/MethodHandle" ∧ y.cls ≠ "java/lang/invoke/VarHandle") ∧
  (∀ sig, parseMethodDescriptor y.desc = some sig → n = sig.parameters.length) ∧ (Cond.methodLink own index y).before args s = true ∧ (Cond.instanceMethod y).before args s = true ∧ (Cond.selects C y y).before args s = true
theorem vx_cwVW {own C : String} {index maxL mc ms : Nat} {y : MethodName} {bytes : ByteArray} {ret : Option FieldType} {hh : List (Nat × Nat × Nat × Nat)} {Ts ws ws' : List Cond} {rm : Room} (n : Nat) (ht : ∀ w ∈ Ts, w.before args s = true) (hT : GoodIn Ts (wsV own index C y ws)) (hw : ws = Cond.codeWith y bytes maxL ret hh :: ws') (hrc : rm.cells = mc) (hrs : rm.slots = ms)
    (hd : y.cls = C ∧ y.cls ≠ "java/lang/invoke/MethodHandle" ∧ y.cls ≠ "java/lang/invoke/VarHandle" ∧ (parseMethodDescriptor y.desc).map (fun d => d.parameters.length) = some n) (hR : rm.frames + 1 ≤ R.frames ∧ 8 + (maxL + 11) + rm.locals ≤ R.locals) :
    vx_CVW R s args own C index y bytes maxL ret hh ws rm mc ms n := by
  obtain ⟨hC, hd⟩ := hd
  subst hC
  have ok : ∀ w ∈ wsV own index y.cls y ws, w.before args s = true := fun w h => ht w (hT w h).1
  have hG : GoodIn Ts ws := fun w h => hT w (by unfold wsV; exact List.mem_append_right _ h)
  have hc : Cond.codeWith y bytes maxL ret hh ∈ ws := by rw [hw]; exact List.mem_cons_self
  refine ⟨⟨hrc, hrs, hR.1, hR.2, pay_in ht hG, hc⟩, ht _ (hG _ hc).1, ok _ (by simp [wsV]), ⟨hd.1, hd.2.1⟩, fun sig h => ?_, ok _ (by simp [wsV]), ok _ (by simp [wsV]), ok _ (by simp [wsV])⟩
  have h2 := hd.2.2
  rw [h] at h2
  exact (Option.some.inj h2).symm
theorem vx_runVW {y : MethodName} {bytes cc : ByteArray} {maxL nL mc ms n index : Nat} {ret : Option FieldType} {hh : List (Nat × Nat × Nat × Nat)} {ws : List Cond} {rm : Room} {Pc : Array Value → State → Prop} {Qc : Array Value → State → Outcome → State → Prop} {free : Addr → Prop} {Ts : List Cond} {own C : String} {b : Addr} {As rest : List Value} {g : JFrame}
    (S : CallFix p m c cc nL s args Ts own) (hM : Met l y ws rm Pc Qc mc ms free) (cw : vx_CVW R s args own C index y bytes maxL ret hh ws rm mc ms n) (hp : PreV s H C b Pc As)
    (hg : g.method = m) (hn : As.length = n) (hsize : g.locals.size = nL) (hstack : g.stack = As.reverse ++ .ref b :: rest) (hW : 2 * g.monitorRoom + (rest.map fun v => v.category).sum ≤ 8) (hdg : decode cc g.pc = .ok (.invokevirtual index, 3)) (hf : cells + mc ≤ R.cells ∧ slots + ms ≤ R.slots) :
    va_Run p l e R s m args below meth c H locs cells slots mc ms g rest (Qc (Value.ref b :: As).toArray) free := by
  obtain ⟨⟨hrc, hrs, hfr, hlo, hws, hcw⟩, hcode, hini, hy, hlen, hl, hin, hse⟩ := cw
  have hK : Back l R p e below s args y 3 8 (PreOf R mc ms Pc) (PostOf Qc mc ms free) := va_backW (hh := hh) (bytes := bytes) (maxL := maxL) (ret := ret) hM hp.1 hrc hrs hfr hlo hws hcw (fun a' U hW => word_at hW (Or.inl (by first | rfl | simp [Cond.onTables, Cond.keeps, Cond.steady])) hini)
  obtain ⟨hx, hb, hml, ho, -⟩ := S
  obtain ⟨-, ⟨cellB, hcB, hoB, hclB⟩, hPc⟩ := hp
  intro T hT X
  obtain ⟨v, vm₁, ⟨U', l2, c2, s2⟩, hW₁, X', ⟨g', mk, t, L, e1, e2, hq, h1, hL, h2, h3⟩, st⟩ := vx_callVW X hx (C := C) (hh := hh) (bytes := bytes) (maxL := maxL) (ret := ret) ho hl hin hse hcode hy hK (by rw [hT]; exact hcB) hoB hclB hg (hsize.trans hml.symm) (argsL := As) (rest := rest) (fun sig h => hn.trans (hlen sig h)) hstack hW (by rw [hb]; exact hdg)
    (fun vm₁ hW₁ => ⟨hf.1, hf.2, hPc (T.setVm vm₁) hT hW₁⟩)
  dsimp only [Pt.U, Pt.locs, Pt.cells, Pt.slots] at X' e1 e2 h1 h2 h3 st
  subst h1; subst h2; subst h3
  exact ⟨v, (T.setVm vm₁).calling g' mk (Value.ref b :: As).toArray, t, U', L, hT, X', hL, e1, e2, hq, st⟩
section
variable {y : MethodName} {bytes cc : ByteArray} {maxL nL mc ms n index : Nat} {ret : Option FieldType} {ws : List Cond} {rm : Room} {Pc : Array Value → State → Prop} {Qc : Array Value → State → Outcome → State → Prop} {XC : String → State → State → Prop} {free : Addr → Prop} {Ts : List Cond} {own C : String} {b : Addr} {As rest : List Value} {g : JFrame}
theorem vx_runVX {hh : List (Nat × Nat × Nat × Nat)} (S : CallFix p m c cc nL s args Ts own) (hM : vx_Met l y ws rm Pc Qc XC mc ms free) (cw : vx_CVW R s args own C index y bytes maxL ret hh ws rm mc ms n) (hp : PreV s H C b Pc As)
    (hg : g.method = m) (hn : As.length = n) (hsize : g.locals.size = nL) (hstack : g.stack = As.reverse ++ .ref b :: rest) (hW : 2 * g.monitorRoom + (rest.map fun v => v.category).sum ≤ 8) (hdg : decode cc g.pc = .ok (.invokevirtual index, 3)) (hf : cells + mc ≤ R.cells ∧ slots + ms ≤ R.slots) :
    vx_Run p l e R s m args below meth c H locs cells slots mc ms g rest (Qc (Value.ref b :: As).toArray) XC free := by
  obtain ⟨⟨hrc, hrs, hfr, hlo, hws, hcw⟩, hcode, hini, hy, hlen, hl, hin, hse⟩ := cw
  have hK : vx_Back l R p e below s args y 3 8 (PreOf R mc ms Pc) (PostOf Qc mc ms free) (vx_Post XC mc ms free) := vx_backW (hh := hh) (bytes := bytes) (maxL := maxL) (ret := ret) hM hp.1 hrc hrs hfr hlo hws hcw (fun a' U hW => word_at hW (Or.inl (by first | rfl | simp [Cond.onTables, Cond.keeps, Cond.steady])) hini)
  obtain ⟨hx, hb, hml, ho, -⟩ := S
  obtain ⟨-, ⟨cellB, hcB, hoB, hclB⟩, hPc⟩ := hp
  intro T hT X
  rcases vx_callVX X hx (C := C) (hh := hh) (bytes := bytes) (maxL := maxL) (ret := ret) ho hl hin hse hcode hy hK (by rw [hT]; exact hcB) hoB hclB hg (hsize.trans hml.symm) (argsL := As) (rest := rest) (fun sig h => hn.trans (hlen sig h)) hstack hW (by rw [hb]; exact hdg)
    (fun vm₁ hW₁ => ⟨hf.1, hf.2, hPc (T.setVm vm₁) hT hW₁⟩) with ⟨v, vm₁, ⟨U', l2, c2, s2⟩, hW₁, X', ⟨g', mk, t, L, e1, e2, hq, h1, hL, h2, h3⟩, st⟩ | ⟨q, vm₁, ⟨U', l2, c2, s2⟩, hW₁, X', ⟨g', mk, t, L, E, ce, e1, e2, hq, hce, hcv, hcl, h1, hL, h2, h3⟩, st⟩
  · dsimp only [Pt.U, Pt.locs, Pt.cells, Pt.slots] at X' e1 e2 h1 h2 h3 st
    subst h1; subst h2; subst h3
    exact Or.inl ⟨v, (T.setVm vm₁).calling g' mk (Value.ref b :: As).toArray, t, U', L, hT, X', hL, e1, e2, hq, st⟩
  · dsimp only [Pt.U, Pt.locs, Pt.cells, Pt.slots] at X' e1 e2 h1 h2 h3 st hcl
    subst h1; subst h2; subst h3
    exact Or.inr ⟨q, (T.setVm vm₁).calling g' mk (Value.ref b :: As).toArray, t, U', L, E, ce, hT, X', hL, e1, e2, hq, hce, hcv, vx_cls hW₁ hcl, st⟩
theorem vx_runSX {hh : List (Nat × Nat × Nat × Nat)} (S : CallFix p m c cc nL s args Ts own) (hM : vx_Met l y ws rm Pc Qc XC mc ms free) (cw : vx_CSW R s args own index y bytes maxL ret hh ws rm mc ms n) (hp : PreS s H Pc As)
    (hg : g.method = m) (hn : As.length = n) (hsize : g.locals.size = nL) (hstack : g.stack = As.reverse ++ rest) (hW : 2 * g.monitorRoom + (rest.map fun v => v.category).sum ≤ 8) (hdg : decode cc g.pc = .ok (.invokestatic index, 3)) (hf : cells + mc ≤ R.cells ∧ slots + ms ≤ R.slots) :
    vx_Run p l e R s m args below meth c H locs cells slots mc ms g rest (Qc As.toArray) XC free := by
  obtain ⟨⟨hrc, hrs, hfr, hlo, hws, hcw⟩, hcode, hini, hy, hlen, hl, hstt⟩ := cw
  have hK : vx_Back l R p e below s args y 3 8 (PreOf R mc ms Pc) (PostOf Qc mc ms free) (vx_Post XC mc ms free) := vx_backW (hh := hh) (bytes := bytes) (maxL := maxL) (ret := ret) hM hp.1 hrc hrs hfr hlo hws hcw (fun a' U hW => word_at hW (Or.inl (by first | rfl | simp [Cond.onTables, Cond.keeps, Cond.steady])) hini)
  obtain ⟨hx, hb, hml, ho, -⟩ := S
  intro T hT X
  rcases vx_callSX X hx (hh := hh) (bytes := bytes) (maxL := maxL) (ret := ret) ho hl hstt hini hcode hy hK hg (hsize.trans hml.symm) (argsL := As) (rest := rest) (fun sig h => hn.trans (hlen sig h)) hstack hW (by rw [hb]; exact hdg)
    (fun vm₁ hW₁ => ⟨hf.1, hf.2, hp.2 (T.setVm vm₁) hT hW₁⟩) with ⟨v, vm₁, ⟨U', l2, c2, s2⟩, hW₁, X', ⟨g', mk, t, L, e1, e2, hq, h1, hL, h2, h3⟩, st⟩ | ⟨q, vm₁, ⟨U', l2, c2, s2⟩, hW₁, X', ⟨g', mk, t, L, E, ce, e1, e2, hq, hce, hcv, hcl, h1, hL, h2, h3⟩, st⟩
  · dsimp only [Pt.U, Pt.locs, Pt.cells, Pt.slots] at X' e1 e2 h1 h2 h3 st
    subst h1; subst h2; subst h3
    exact Or.inl ⟨v, (T.setVm vm₁).calling g' mk As.toArray, t, U', L, hT, X', hL, e1, e2, hq, st⟩
  · dsimp only [Pt.U, Pt.locs, Pt.cells, Pt.slots] at X' e1 e2 h1 h2 h3 st hcl
    subst h1; subst h2; subst h3
    exact Or.inr ⟨q, (T.setVm vm₁).calling g' mk As.toArray, t, U', L, E, ce, hT, X', hL, e1, e2, hq, hce, hcv, vx_cls hW₁ hcl, st⟩
end
end VXH
theorem vx_ofWH {l : Launch} {y : MethodName} {ws ws' : List Cond} {rm : Room} {Pc : Array Value → State → Prop} {Qc : Array Value → State → Outcome → State → Prop} {XC : String → State → State → Prop} {mc ms : Nat} {free : Addr → Prop} {cc : ByteArray} {maxL : Nat} {ret : Option FieldType} {hh : List (Nat × Nat × Nat × Nat)}
    (hy : plainName y.cls = true) (hw : ws = Cond.codeWith y cc maxL ret hh :: ws')
    (body : ∀ p e s m args below meth c s₁, BodyLoose p l y (headSpec ws rm) cc maxL ret e s m args below meth c s₁ → c.maxLocals = maxL → Pc args s →
      W p l e (headSpec ws rm).room s m args below meth c s.heap [] 0 0 (vx_MQ below Qc XC args s mc ms free) (entryFrame m args maxL)) : vx_Met l y ws rm Pc Qc XC mc ms free := by
  refine MetFree.of_bodyS (code := cc) (maxLocals := maxL) (ret := ret) hy ?_ ?_
  · intro args s m h hn
    obtain ⟨m9, meth, c, hn9, h1, h2, h3, h4, -, h5, h6, -⟩ := Cond.codeWith_spec (atoms_spec (ws := ws) h _ (by rw [hw]; exact List.mem_cons_self))
    cases hn.symm.trans hn9
    exact ⟨meth, c, h1, h2, h3, h4, h5, h6⟩
  · intro p e s m args below meth c s₁ B hml hP _
    have hh0 : s₁.heap = s.heap := by rw [B.state]; rfl
    obtain ⟨t, a1, o, b1, b2, b3⟩ := body p e s m args below meth c s₁ B hml hP s₁ hh0 (Stand.of_body B)
    exact ⟨t, o, a1, b1, b2, b3⟩
/-! ===== END ===== -/

/-! ===== BEGIN what the machine throws by itself, no traces kept ===== -/
section VXM
set_option maxHeartbeats 1000000 in
/-- the machine throws cls with the message text, no traces kept: from its note over the frame g to 'throwing' over the same frame (follows the proofs of Stand.vmThrowsMessage, Shelf/KitTracedVmS.lean, and Stand.throwsMessageColdBareV, StandMessageColdV.lean, without the step out of the frame) -/
theorem vx_vmAt {p : Program} {l : Launch} {e : Env} {R : Room} {s : State} {m₀ : MethodId} {args : Array Value} {below : List Frame} {meth : Method} {c : Code} {W : State} {locs : List Loc} {cells slots : Nat}
    (X : Stand p l e R s m₀ args below meth c W locs cells slots) (hexec : p.tables.exec = Jvm.exec) (htr : e.platform.stackTraces = false) {cls : String} {names : List String} {text : String}
    (hcls : Bundle.fit cls = true) (hnames : ∀ n ∈ names, Bundle.fit n = true) (hsoe : (cls == "java/lang/StackOverflowError") = false) (hoom : (cls == "java/lang/OutOfMemoryError") = false)
    (h : ∀ a ∈ Bundle.messageArmAtoms cls names, a.before args s = true)
    (hlocs : ∀ x ∈ locs, ∀ cell, s.heap[x.base]? = some cell → cell.vm.isStatics = false)
    (htext : (text == notModelled) = false) (hlimit : ¬ (stringBytes (stringToUtf16 text)).size > e.platform.arrayLengthLimit) (hheap : ¬ (stringBytes (stringToUtf16 text)).size * componentBytes .byte > e.platform.maxHeapBytes)
    {g : JFrame} (hg : g.method = m₀) (hsize : g.locals.size = c.maxLocals)
    (hRframes : names.length + 4 < R.frames) (hRlocals : 2 * g.monitorRoom + (g.stack.map fun v => v.category).sum + 10240 ≤ R.locals) (hshort : 13 * names.length + 55 ≤ 10240)
    (hRcells : cells + 3 ≤ R.cells) (hRslots : slots + ((stringBytes (stringToUtf16 text)).size + 4 + 6) ≤ R.slots) (hlocks : meth.locks = false) :
    ∃ (S : State) (q : Addr) (ce : Cell), (∀ target, Steps p.tables e below ((S.setTop g).pushFrame (.throwing q)) target → Steps p.tables e below ((W.setTop g).pushFrame (.throwNew cls (some text) none)) target) ∧
      Stand p l e R s m₀ args below meth c S locs (cells + 3) (slots + ((stringBytes (stringToUtf16 text)).size + 4 + 6)) ∧ S.heap[q]? = some ce ∧ s.vm.findClass cls = some ce.cls ∧ ce.vm = .none := by
  have howns : e.platform.frameOwnsMonitors = true := by rw [X.admits.platform]
  have hfin : e.platform.finalization = false := by rw [X.admits.platform]
  have hpl : e.platform.magicAccessors = ({} : Platform).magicAccessors := by rw [X.admits.platform]
  have a : ∀ x, x ∈ Bundle.messageArmAtoms cls names → x.holds args s none s [] = true := fun x hx => h x hx
  obtain ⟨T, Z0, L, -, Y⟩ := ThrowableC.of_atoms (args := args) howns hfin hpl (fun x hx => h x (by simp [Bundle.messageArmAtoms, hx]))
  obtain ⟨Z, M, LZ, LM, hnZ⟩ := Init0T.ofS_atoms (args := args) hpl L Y (fun x hx => h x (by simp [Bundle.messageArmAtoms, hx]))
  obtain ⟨P1, Ps, hlen, L1, hL, hP1m, hlink1, hlink⟩ := Bundle.chainS (args := args) hpl hnZ names cls hcls hnames (fun x hx => h x (by simp [Bundle.messageArmAtoms, hx]))
  obtain ⟨Zs, LZs, hn4, hfitv, hfitc⟩ := StringT.of_atoms (args := args) (fun x hx => h x (by simp [Bundle.messageArmAtoms, hx]))
  have hfound : s.vm.findClass cls = some P1.m.cls := findClass_of_methodNamed hP1m
  obtain ⟨c1, kX, hc1, hk, hord, -, -, hn6⟩ := Cond.instantiable_spec (a (.instantiable cls 6) (by simp [Bundle.messageArmAtoms]))
  cases Option.some.inj (hc1.symm.trans hfound)
  have hinit := Cond.initialized_spec hfound hk (a (.initialized cls) (by simp [Bundle.messageArmAtoms]))
  have hctor : kX.findMethod "<init>" "(Ljava/lang/String;)V" = some P1.m.idx := findMethod_of_methodNamed hP1m hk
  have hsel0 : selectMethod e.platform s.vm P1.m.cls T.fill0 = .method T.fill0 := by
    obtain ⟨c2, r2, m2, q1, q2, q3, q4, -⟩ := Cond.selects_spec (a (.selects cls Bundle.tFill0 Bundle.tFill0) (by simp [Bundle.messageArmAtoms]))
    cases Option.some.inj (q1.symm.trans hfound)
    cases Option.some.inj (q2.symm.trans (State.methodFound?_of_named Y.fill0 (by decide)))
    cases Option.some.inj (q3.symm.trans Y.fill0)
    rw [Launch.admits_selectMethod X.admits]; exact q4
  have hselF : selectMethod e.platform s.vm P1.m.cls T.fill = .method T.fill := by
    obtain ⟨c2, r2, m2, q1, q2, q3, q4, -⟩ := Cond.selects_spec (a (.selects cls Bundle.tFill Bundle.tFill) (by simp [Bundle.messageArmAtoms]))
    cases Option.some.inj (q1.symm.trans hfound)
    cases Option.some.inj (q2.symm.trans (State.methodFound?_of_named Y.fill (by decide)))
    cases Option.some.inj (q3.symm.trans Y.fill)
    rw [Launch.admits_selectMethod X.admits]; exact q4
  obtain ⟨cellS0, hcS0, hiss⟩ := Y.statics
  obtain ⟨u0, hu0⟩ := Cond.staticRefV Y.unassigned L.unassignedStatic L.statics hcS0 hiss (a (.isRef (.static Bundle.tN "UNASSIGNED_STACK" Bundle.steD)) (by simp [Bundle.messageArmAtoms]))
  obtain ⟨sen, hsen⟩ := Cond.staticRefV Y.sentinel L.sentinelStatic L.statics hcS0 hiss (a (.isRef (.static Bundle.tN "SUPPRESSED_SENTINEL" Bundle.listD)) (by simp [Bundle.messageArmAtoms]))
  obtain ⟨ci198, i198, fB, hk198, hg198, ha198, hsB, -, hnB, htB, hffB⟩ := Cond.ownField (t := .object "java/lang/Object") Y.found L.cls (by decide +kernel) (a (.fieldLink Bundle.tN 198 Bundle.tN "backtrace" "Ljava/lang/Object;") (by simp [Bundle.messageArmAtoms])) (a (.lays Bundle.tN Bundle.tN "backtrace" "Ljava/lang/Object;") (by simp [Bundle.messageArmAtoms])) e.platform hpl
  obtain ⟨cellS, hcS', heS, -, hkeep⟩ := X.same.2.2.2.2.2 T.aS cellS0 hcS0
  have hcellS : W.heap[T.aS]? = some cellS := hcS'
  have hout' : ∀ i, (⟨T.aS, i⟩ : Loc) ∉ locs := fun i hmem => by
    have := hlocs _ hmem cellS0 hcS0
    rw [hiss] at this; cases this
  have hknownS : cellS.vm ≠ .unknown := by
    rw [heS]; intro hu
    rw [show cellS0.vm = .unknown from hu] at hiss
    cases hiss
  have hvU : cellS.slots[T.fUnassigned.slot]? = some u0.v := by rw [hkeep _ (hout' _)]; exact hu0
  have hvSen : cellS.slots[T.fSentinel.slot]? = some sen.v := by rw [hkeep _ (hout' _)]; exact hsen
  obtain ⟨iM, hffM⟩ := Y.msg
  obtain ⟨tyC, dC, hdC, hdnC⟩ := Cond.laysAt hfound hk Y.cause (a (.lays cls Bundle.tN "cause" "Ljava/lang/Throwable;") (by simp [Bundle.messageArmAtoms]))
  obtain ⟨tyS, dS, hdS, hdnS⟩ := Cond.laysAt hfound hk Y.stack (a (.lays cls Bundle.tN "stackTrace" Bundle.steD) (by simp [Bundle.messageArmAtoms]))
  obtain ⟨tyP, dP, hdP, hdnP⟩ := Cond.laysAt hfound hk Y.supp (a (.lays cls Bundle.tN "suppressedExceptions" Bundle.listD) (by simp [Bundle.messageArmAtoms]))
  obtain ⟨tyM, dM, hdM, hdnM⟩ := Cond.laysAt hfound hk hffM (a (.lays cls Bundle.tN "detailMessage" "Ljava/lang/String;") (by simp [Bundle.messageArmAtoms]))
  obtain ⟨tyB, dB, hdB, hdnB⟩ := Cond.laysAt hfound hk hffB (a (.lays cls Bundle.tN "backtrace" "Ljava/lang/Object;") (by simp [Bundle.messageArmAtoms]))
  have bC := Cond.laysApart hdB hdC hdnB hdnC (by rw [hnB, Y.causeName]; decide)
  have bS := Cond.laysApart hdB hdS hdnB hdnS (by rw [hnB, Y.stackName]; decide)
  have bP := Cond.laysApart hdB hdP hdnB hdnP (by rw [hnB, Y.suppName]; decide)
  have hbk : ((preparedCellV T.toThrowableT (freshCell P1.m.cls kX) (W.heap.size + 2) u0 sen).withEntry W.cur).slots[fB.slot]? = some .null := by
    have := fresh_default (c := P1.m.cls) tyB
    rw [htB] at this
    simpa [preparedCellV, Cell.setSlot, Cell.withEntry, Array.getElem?_setIfInBounds, bC, bS, bP, bC.symm, bS.symm, bP.symm, defaultValue] using this
  have tkC := Takes.of_laid (v := .ref (W.heap.size + 2)) hk hord tyC (by rw [Y.causeType]; rfl)
  have tkS := Takes.of_laid (v := u0.v) hk hord tyS (by rw [Y.stackType]; exact fits_refV_array _ u0)
  have tkP := Takes.of_laid (v := sen.v) hk hord tyP (by rw [Y.suppType]; exact fits_refV_object _ sen)
  have tkM := Takes.of_laid (v := .ref (W.heap.size + 1)) hk hord tyM (by rw [Y.msgType]; rfl)
  have hskip : SkipFacts T e.platform s (fun u => u) u0 ((preparedCellV T.toThrowableT (freshCell P1.m.cls kX) (W.heap.size + 2) u0 sen).withEntry W.cur) := ⟨{ ci198 := ci198, i198 := i198, fBack := fB }, ⟨hk198, hg198, ha198, hsB⟩, hbk, fun _ _ => rfl⟩
  have h0 : At W g.method c below := by rw [hg]; exact X.here
  obtain ⟨hbeyond, hfreeW⟩ := X.vmMayThrow hsize (.throwNew cls (some text) none) (fun f hf => by cases hf) rfl hRlocals
  have hfr' : W.frames.length + Ps.length + 4 < (e.platform.stackLimits W.me).1 := by have := X.framesAbove hRframes; omega
  have hwd' : (stackUse (.java g :: W.frames.tail)).2 + 13 * Ps.length + 55 ≤ (e.platform.stackLimits W.me).2 := by have := X.stackAbove hsize (K := 13 * Ps.length + 55) (by omega); omega
  have hslots : W.slotsUsed + (stringBytes (stringToUtf16 text)).size + Zs.kS.instanceTypes.size + kX.instanceTypes.size ≤ e.platform.maxSlots := by
    have := X.slotsAbove hRslots
    rw [hn4, hn6]
    omega
  obtain ⟨vm', hW', st⟩ := Steps.vmThrowsMessageColdByV p (s₀ := s) (S := W) (g := g) h0 hexec T L Z LZ M LM X.warmed (t := W.cur) rfl Zs LZs P1 L1 Ps hL hlink1 hlink hsoe hoom hfound hk hinit hord hctor
    (Launch.admits_hotImplicitExceptions X.admits) hbeyond hfreeW htext hlimit hheap (X.cellsAbove hRcells) hslots (hfitv _) (hfitc _)
    (Nn := fun u => u) heapOnly_id (fun _ _ => rfl) (fun _ => rfl) (fun u x y => setCell_twice _ _ _ _) (fun _ => Nat.le_refl _) (cN := ((preparedCellV T.toThrowableT (freshCell P1.m.cls kX) (W.heap.size + 2) u0 sen).withEntry W.cur))
    hsel0 hcellS hknownS hvU tkS (fun _ hu => hu) (fun _ hu => hu) rfl rfl rfl (by simp [preparedCellV, Cell.setSlot, Cell.withEntry]) hskip (fun _ _ hA hW _ hroom _ hrest => L.nativeOff p htr hA hW hroom hrest) hselF hvSen tkC tkP tkM Y.objLocals rfl hfr' hwd'
  rw [plainBareV_eq T.toThrowableT (W.heap.size + 2) u0 sen (.ref (W.heap.size + 1)) W.cur rfl rfl] at st
  obtain ⟨-, -, w3, w4, -, -, -⟩ := withThrown_facts e.platform W Zs text P1.m.cls kX
  have X3 := ((X.pushed (bytesOf Zs.cB (stringToUtf16 text))).pushed (stringAt Zs.cS Zs.kS Zs.fv Zs.fc (stringToUtf16 text) W.heap.size)).pushed (freshCell P1.m.cls kX)
  rw [← withString_eq] at X3
  have X4 := X3.noted hW'
  have ha : (W.heap.size + 2) < ((withThrown W Zs text P1.m.cls kX).setVm vm').heap.size := by show _ < (withThrown W Zs text P1.m.cls kX).heap.size; rw [w3]; omega
  have hcell : ((withThrown W Zs text P1.m.cls kX).setVm vm').heap[(W.heap.size + 2)]? = some (freshCell P1.m.cls kX) := w4
  have X5 := ((((X4.stored hcell T.fCause.slot (.ref (W.heap.size + 2))).storedAgain ha T.fStack.slot u0.v).storedAgain ha T.fSupp.slot sen.v).storedAgain ha T.fStack.slot u0.v).storedAgain ha T.fMsg.slot (.ref (W.heap.size + 1))
  obtain ⟨g₁, hfrM⟩ := X5.frames_eq
  have hU : ((((withThrown W Zs text P1.m.cls kX).setVm vm').setCell (W.heap.size + 2) (plainBareV T.toThrowableT (freshCell P1.m.cls kX) (W.heap.size + 2) u0 sen (.ref (W.heap.size + 1)))).setTop g).pushFrame (.throwing (W.heap.size + 2)) = (((withThrown W Zs text P1.m.cls kX).setVm vm').setCell (W.heap.size + 2) (plainBareV T.toThrowableT (freshCell P1.m.cls kX) (W.heap.size + 2) u0 sen (.ref (W.heap.size + 1)))).setFrames (.throwing (W.heap.size + 2) :: .java g :: below) := by
    rw [State.pushFrame, State.frames_setTop _ hfrM, State.setTop_of_frames _ hfrM, State.setFrames_setFrames]
  have b1 : (bytesOf Zs.cB (stringToUtf16 text)).slots.size = (stringBytes (stringToUtf16 text)).size := by
    rw [(Cell.writeAll_facts _ _).2.2]; simp [bytes0]
  have b2 : (stringAt Zs.cS Zs.kS Zs.fv Zs.fc (stringToUtf16 text) W.heap.size).slots.size = 4 := by simp [string0, Cell.setSlot, hn4]
  have b3 : (freshCell P1.m.cls kX).slots.size = 6 := by simp [hn6]
  rw [b1, b2, b3] at X5
  have e9 : slots + (stringBytes (stringToUtf16 text)).size + 4 + 6 = slots + ((stringBytes (stringToUtf16 text)).size + 4 + 6) := by omega
  rw [e9] at X5
  simp only [List.append_assoc, List.cons_append, List.nil_append] at X5
  refine ⟨((withThrown W Zs text P1.m.cls kX).setVm vm').setCell (W.heap.size + 2) (plainBareV T.toThrowableT (freshCell P1.m.cls kX) (W.heap.size + 2) u0 sen (.ref (W.heap.size + 1))), W.heap.size + 2, _, fun target ht => st _ (by rw [X.tail, ← hU]; exact ht),
    X5.forget (fun y hy => ?_), heapAt_setCell_self _ ha, hfound, rfl⟩
  simp only [List.mem_cons, List.not_mem_nil, or_false] at hy
  have hge : s.heap.size ≤ W.heap.size := X.same.2.1
  rcases hy with rfl | rfl | rfl | rfl | rfl <;> exact Nat.le_trans hge (Nat.le_add_right _ 2)
set_option maxHeartbeats 1000000 in
/-- the machine throws NullPointerException, no traces kept: from its note over the frame g to 'throwing' over the same frame (follows the proof of Stand.vmThrowsNpe, Shelf42/KT2.lean; throwsNpeColdBareVAt, Shelf42/NT91.lean, called) -/
theorem vx_npeAt {p : Program} {l : Launch} {e : Env} {R : Room} {s : State} {m₀ : MethodId} {args : Array Value} {below : List Frame} {meth : Method} {c : Code} {W : State} {locs : List Loc} {cells slots : Nat}
    (X : Stand p l e R s m₀ args below meth c W locs cells slots) (hexec : p.tables.exec = Jvm.exec) (htr : e.platform.stackTraces = false) {n : Nat}
    (h : ∀ a ∈ Bundle.npeArmAtoms n, a.before args s = true)
    (hlocs : ∀ x ∈ locs, ∀ cell, s.heap[x.base]? = some cell → cell.vm.isStatics = false)
    {g : JFrame} (hg : g.method = m₀) (hsize : g.locals.size = c.maxLocals)
    (hRframes : 7 < R.frames) (hRlocals : 2 * g.monitorRoom + (g.stack.map fun v => v.category).sum + 10240 ≤ R.locals)
    (hRcells : cells + 1 ≤ R.cells) (hRslots : slots + n ≤ R.slots) (hlocks : meth.locks = false) :
    ∃ (S : State) (q : Addr) (ce : Cell), (∀ target, Steps p.tables e below ((S.setTop g).pushFrame (.throwing q)) target → Steps p.tables e below ((W.setTop g).pushFrame (.throwNew "java/lang/NullPointerException" none none)) target) ∧
      Stand p l e R s m₀ args below meth c S locs (cells + 1) (slots + n) ∧ S.heap[q]? = some ce ∧ s.vm.findClass "java/lang/NullPointerException" = some ce.cls ∧ ce.vm = .none := by
  have howns : e.platform.frameOwnsMonitors = true := by rw [X.admits.platform]
  have hfin : e.platform.finalization = false := by rw [X.admits.platform]
  have hpl : e.platform.magicAccessors = ({} : Platform).magicAccessors := by rw [X.admits.platform]
  have hpl2 : e.platform.arrayCloneIsPublic = true := by rw [X.admits.platform]
  have a' : ∀ x, x ∈ Bundle.npeArmAtoms n → x.holds args s none s [] = true := fun x hx => h x hx
  obtain ⟨T, Z, L, LZ, Y⟩ := ThrowableC.of_atoms (args := args) howns hfin hpl (fun x hx => h x (by simp [Bundle.npeArmAtoms, hx]))
  obtain ⟨N, LN, hcN, hnNF, hordN, hffS⟩ := NpeC.of_atoms (args := args) hpl hpl2 L Y (fun x hx => h x (by simp [Bundle.npeArmAtoms, hx]))
  obtain ⟨P1, L1, hP1m, hP1s⟩ := PassC.of_atoms (args := args) (s := s) hpl (X := Bundle.nN) (Y := Bundle.rN) (by decide) (by decide) LibCode.NullPointerException.Init0.at_0 LibCode.NullPointerException.Init0.at_1 LibCode.NullPointerException.Init0.at_4 (fun x hx => h x (by simp [Bundle.npeArmAtoms, hx]))
  obtain ⟨PR, LR, hPRm, hPRs⟩ := PassC.of_atoms (args := args) (s := s) hpl (X := Bundle.rN) (Y := Bundle.eN) (by decide) (by decide) LibCode.RuntimeException.Init0.at_0 LibCode.RuntimeException.Init0.at_1 LibCode.RuntimeException.Init0.at_4 (fun x hx => h x (by simp [Bundle.npeArmAtoms, hx]))
  obtain ⟨PE, LEx, hPEm, hPEs⟩ := PassC.of_atoms (args := args) (s := s) hpl (X := Bundle.eN) (Y := Bundle.tN) (by decide) (by decide) LibCode.Exception.Init0.at_0 LibCode.Exception.Init0.at_1 LibCode.Exception.Init0.at_4 (fun x hx => h x (by simp [Bundle.npeArmAtoms, hx]))
  have hfound : s.vm.findClass Bundle.nN = some P1.m.cls := findClass_of_methodNamed hP1m
  have ecls : N.cN = P1.m.cls := Option.some.inj (hcN.symm.trans hfound)
  have hk : s.vm.classes[P1.m.cls]? = some N.kN := by rw [← ecls]; exact LN.cls
  have hinit := Cond.initialized_spec hfound hk (a' (.initialized Bundle.nN) (by simp [Bundle.npeArmAtoms]))
  have hctor : N.kN.findMethod "<init>" "()V" = some P1.m.idx := findMethod_of_methodNamed hP1m hk
  obtain ⟨c1, k1, hc1, hk1, -, -, -, hn⟩ := Cond.instantiable_spec (a' (.instantiable Bundle.nN n) (by simp [Bundle.npeArmAtoms]))
  cases Option.some.inj (hc1.symm.trans hfound)
  cases Option.some.inj (hk1.symm.trans hk)
  have hfsz : (freshCell P1.m.cls N.kN).slots.size = n := by simp [hn]
  have hlink1 : P1.sup = PR.m := Option.some.inj (hP1s.symm.trans hPRm)
  have hlinkR : PR.sup = PE.m := Option.some.inj (hPRs.symm.trans hPEm)
  have hlinkE : PE.sup = Z.m T.toThrowableT := Option.some.inj (hPEs.symm.trans Y.init0)
  have hLs : ∀ P, P ∈ [PR, PE] → P.Links0 e.platform s := fun P hP => by
    simp only [List.mem_cons, List.not_mem_nil, or_false] at hP
    rcases hP with rfl | rfl
    · exact LR
    · exact LEx
  have hsel0 : selectMethod e.platform s.vm P1.m.cls T.fill0 = .method T.fill0 := by
    obtain ⟨c2, r2, m2, q1, q2, q3, q4, -⟩ := Cond.selects_spec (a' (.selects Bundle.nN Bundle.tFill0 Bundle.tFill0) (by simp [Bundle.npeArmAtoms]))
    cases Option.some.inj (q1.symm.trans hfound)
    cases Option.some.inj (q2.symm.trans (State.methodFound?_of_named Y.fill0 (by decide)))
    cases Option.some.inj (q3.symm.trans Y.fill0)
    rw [Launch.admits_selectMethod X.admits]; exact q4
  have hselF : selectMethod e.platform s.vm P1.m.cls T.fill = .method N.fill := by
    obtain ⟨c2, r2, m2, q1, q2, q3, q4, -⟩ := Cond.selects_spec (a' (.selects Bundle.nN Bundle.tFill Bundle.nFill) (by simp [Bundle.npeArmAtoms]))
    cases Option.some.inj (q1.symm.trans hfound)
    cases Option.some.inj (q2.symm.trans (State.methodFound?_of_named Y.fill (by decide)))
    cases Option.some.inj (q3.symm.trans hnNF)
    rw [Launch.admits_selectMethod X.admits]; exact q4
  obtain ⟨cellS0, hcS0, hiss⟩ := Y.statics
  obtain ⟨u0, hu0⟩ := Cond.staticRefV Y.unassigned L.unassignedStatic L.statics hcS0 hiss (a' (.isRef (.static Bundle.tN "UNASSIGNED_STACK" Bundle.steD)) (by simp [Bundle.npeArmAtoms]))
  obtain ⟨sen, hsen⟩ := Cond.staticRefV Y.sentinel L.sentinelStatic L.statics hcS0 hiss (a' (.isRef (.static Bundle.tN "SUPPRESSED_SENTINEL" Bundle.listD)) (by simp [Bundle.npeArmAtoms]))
  obtain ⟨ci198, i198, fB, hk198, hg198, ha198, hsB, -, hnB, htB, hffB⟩ := Cond.ownField (t := .object "java/lang/Object") Y.found L.cls (by decide +kernel) (a' (.fieldLink Bundle.tN 198 Bundle.tN "backtrace" Bundle.objD) (by simp [Bundle.npeArmAtoms])) (a' (.lays Bundle.tN Bundle.tN "backtrace" Bundle.objD) (by simp [Bundle.npeArmAtoms])) e.platform hpl
  obtain ⟨cellS, hcS', heS, -, hkeep⟩ := X.same.2.2.2.2.2 T.aS cellS0 hcS0
  have hcellS : W.heap[T.aS]? = some cellS := hcS'
  have hout' : ∀ i, (⟨T.aS, i⟩ : Loc) ∉ locs := fun i hmem => by
    have := hlocs _ hmem cellS0 hcS0
    rw [hiss] at this; cases this
  have hknownS : cellS.vm ≠ .unknown := by
    rw [heS]; intro hu
    rw [show cellS0.vm = .unknown from hu] at hiss
    cases hiss
  have hvU : cellS.slots[T.fUnassigned.slot]? = some u0.v := by rw [hkeep _ (hout' _)]; exact hu0
  have hvSen : cellS.slots[T.fSentinel.slot]? = some sen.v := by rw [hkeep _ (hout' _)]; exact hsen
  obtain ⟨tyC, dC, hdC, hdnC⟩ := Cond.laysAt hfound hk Y.cause (a' (.lays Bundle.nN Bundle.tN "cause" "Ljava/lang/Throwable;") (by simp [Bundle.npeArmAtoms]))
  obtain ⟨tyS, dS, hdS, hdnS⟩ := Cond.laysAt hfound hk Y.stack (a' (.lays Bundle.nN Bundle.tN "stackTrace" Bundle.steD) (by simp [Bundle.npeArmAtoms]))
  obtain ⟨tyP, dP, hdP, hdnP⟩ := Cond.laysAt hfound hk Y.supp (a' (.lays Bundle.nN Bundle.tN "suppressedExceptions" Bundle.listD) (by simp [Bundle.npeArmAtoms]))
  obtain ⟨tyX, dX, hdX, hdnX⟩ := Cond.laysAt hfound hk hffS (a' (.lays Bundle.nN Bundle.nN "extendedMessageState" "I") (by simp [Bundle.npeArmAtoms, Bundle.npeAtoms]))
  obtain ⟨hnX, htX⟩ := State.fieldFound?_type hffS (t := .int) (by decide +kernel)
  have xC := Cond.laysApart hdC hdX hdnC hdnX (by rw [hnX, Y.causeName]; decide)
  have xS := Cond.laysApart hdS hdX hdnS hdnX (by rw [hnX, Y.stackName]; decide)
  have xP := Cond.laysApart hdP hdX hdnP hdnX (by rw [hnX, Y.suppName]; decide)
  have hv0 : (freshCell P1.m.cls N.kN).slots[N.fState.slot]? = some (.int 0) := by
    have := fresh_default (c := P1.m.cls) tyX
    rw [htX] at this; exact this
  obtain ⟨tyB, dB, hdB, hdnB⟩ := Cond.laysAt hfound hk hffB (a' (.lays Bundle.nN Bundle.tN "backtrace" Bundle.objD) (by simp [Bundle.npeArmAtoms]))
  have bC := Cond.laysApart hdB hdC hdnB hdnC (by rw [hnB, Y.causeName]; decide)
  have bS := Cond.laysApart hdB hdS hdnB hdnS (by rw [hnB, Y.stackName]; decide)
  have bP := Cond.laysApart hdB hdP hdnB hdnP (by rw [hnB, Y.suppName]; decide)
  have bX := Cond.laysApart hdB hdX hdnB hdnX (by rw [hnB, hnX]; decide)
  have hbk : ((npeCell N.toNpeT (preparedCellV T.toThrowableT (freshCell P1.m.cls N.kN) W.heap.size u0 sen) W.cur).withEntry W.cur).slots[fB.slot]? = some .null := by
    have := fresh_default (c := P1.m.cls) tyB
    rw [htB] at this
    simpa [npeCell, preparedCellV, Cell.setSlot, Cell.withEntry, Array.getElem?_setIfInBounds, bC, bS, bP, bX, bC.symm, bS.symm, bP.symm, bX.symm, defaultValue] using this
  have tkC := Takes.of_laid (v := .ref W.heap.size) hk hordN tyC (by rw [Y.causeType]; rfl)
  have tkS := Takes.of_laid (v := u0.v) hk hordN tyS (by rw [Y.stackType]; exact fits_refV_array _ u0)
  have tkP := Takes.of_laid (v := sen.v) hk hordN tyP (by rw [Y.suppType]; exact fits_refV_object _ sen)
  have tkX := Takes.of_laid (v := .int 1) hk hordN tyX (by rw [htX]; rfl)
  have hskip : SkipFacts T e.platform s (fun u => u) u0 ((npeCell N.toNpeT (preparedCellV T.toThrowableT (freshCell P1.m.cls N.kN) W.heap.size u0 sen) W.cur).withEntry W.cur) := ⟨{ ci198 := ci198, i198 := i198, fBack := fB }, ⟨hk198, hg198, ha198, hsB⟩, hbk, fun _ _ => rfl⟩
  obtain ⟨vm', X3, st, -⟩ := X.throwsNpeColdBareVAt hexec hg hsize T L Z LZ N LN P1 L1 [PR, PE] hLs hlink1 ⟨hlinkR, hlinkE, trivial⟩ hfound hk hinit hordN hctor hsel0 hselF hcellS hknownS hvU hvSen
    hv0 xC xS xP tkC tkS tkP tkX Y.objLocals hskip (fun _ _ hA hW _ hroom _ hrest => L.nativeOff p htr hA hW hroom hrest) (by simpa using hRframes) hRlocals (by simp) hRcells (by rw [hn]; exact hRslots)
  have hlt : W.heap.size < ((W.pushCell (freshCell P1.m.cls N.kN)).setVm vm').heap.size := by
    show W.heap.size < (W.pushCell (freshCell P1.m.cls N.kN)).heap.size
    rw [State.heap_size_pushCell]; omega
  rw [hfsz] at X3
  obtain ⟨g₁, hfrM⟩ := X3.frames_eq
  have hU : ((((W.pushCell (freshCell P1.m.cls N.kN)).setVm vm').setCell W.heap.size (npeBareV T.toThrowableT N.toNpeT (freshCell P1.m.cls N.kN) W.heap.size u0 sen)).setTop g).pushFrame (.throwing W.heap.size) = (((W.pushCell (freshCell P1.m.cls N.kN)).setVm vm').setCell W.heap.size (npeBareV T.toThrowableT N.toNpeT (freshCell P1.m.cls N.kN) W.heap.size u0 sen)).setFrames (.throwing W.heap.size :: .java g :: below) := by
    rw [State.pushFrame, State.frames_setTop _ hfrM, State.setTop_of_frames _ hfrM, State.setFrames_setFrames]
  refine ⟨_, W.heap.size, _, fun target ht => st.trans (by rw [← hU]; exact ht), X3.forget (fun y hy => ?_), heapAt_setCell_self _ hlt, hfound, rfl⟩
  simp only [List.mem_cons, List.not_mem_nil, or_false] at hy
  have hge : s.heap.size ≤ W.heap.size := X.same.2.1
  rcases hy with rfl | rfl | rfl | rfl | rfl <;> exact hge
/-- the words of a machine's NullPointerException, but the four that speak of the heap -/
def vx_atN (n : Nat) : List Cond := (Bundle.npeArmAtoms n).filter vx_no
/-- the words of a machine's throw with a message, but the four that speak of the heap -/
def vx_atM (X : String) (names : List String) : List Cond := (Bundle.messageArmAtoms X names).filter vx_no
section
variable {p : Program} {l : Launch} {e : Env} {R : Room} {s : State} {m : MethodId} {args : Array Value} {below : List Frame} {meth : Method} {c : Code} {H : Heap} {locs : List Loc} {cells slots : Nat}
/-- a frame seen from a rebased start, seen from the first start again -/
theorem vx_back9 {T S : State} {R' : Room} {k n : Nat} (X : Stand p l e R s m args below meth c T locs cells slots) (Y : Stand p l e R' ((T.setVm s.vm).setFrames (.invoking m args :: below)) m args below meth c T [] 0 0) (Z : Stand p l e R' ((T.setVm s.vm).setFrames (.invoking m args :: below)) m args below meth c S [] k n) :
    Stand p l e R s m args below meth c S locs (cells + k) (slots + n) := by
  have hW0 : s.WarmedH ((T.setVm s.vm).setFrames (.invoking m args :: below)).vm := State.WarmedH.refl s
  refine { admits := X.admits, cas := X.cas, clock := X.clock, frames := X.frames, room := X.room, hears := X.hears, method := X.method, code := X.code, here := Z.here, tail := Z.tail, warmed := State.WarmedH.trans hW0 Z.warmed, limits := Z.limits.trans (Y.limits.symm.trans X.limits), bytes := Z.bytes.trans (Y.bytes.symm.trans X.bytes), same := ?_ }
  obtain ⟨e1, e2⟩ := Z.same
  rw [State.setFrames_setFrames] at e1
  have h2 : (T.setVm s.vm).sameButNew (S.setVm s.vm) [] k n := ⟨e1, e2⟩
  have h3 := X.same.trans h2
  rw [List.append_nil] at h3
  exact h3
/-- from the machine's note that E is thrown here with this text -/
def vx_Note (p : Program) (l : Launch) (e : Env) (R : Room) (s : State) (m : MethodId) (args : Array Value) (below : List Frame) (meth : Method) (c : Code) (H : Heap) (locs : List Loc) (cells slots : Nat) (Q : State → Prop) (g : JFrame) (E text : String) : Prop :=
  ∀ T : State, T.heap = H → Stand p l e R s m args below meth c T locs cells slots → ∃ t, Steps p.tables e below ((T.setTop g).pushFrame (.throwNew E (some text) none)) t ∧ Q t
theorem vx_vm {pc : Nat} {ls : Array Slot} {rest : List Value} {Q : State → Prop} (hexec : p.tables.exec = Jvm.exec) (hl : l.stackTraces = false) {cls text : String} {names : List String} {nb : Nat} {A : Nat → Prop}
    (hcls : Bundle.fit cls = true) (hnames : ∀ n ∈ names, Bundle.fit n = true) (hsoe : (cls == "java/lang/StackOverflowError") = false) (hoom : (cls == "java/lang/OutOfMemoryError") = false)
    (hat : ∀ w ∈ vx_atM cls names, w.before args s = true) (hgood : ∀ w ∈ vx_atM cls names, vx_ot w = true)
    (hU : vx_Zq Bundle.tN "UNASSIGNED_STACK" Bundle.steD A s s.heap) (hN : vx_Zq Bundle.tN "SUPPRESSED_SENTINEL" Bundle.listD A s s.heap) (hS : va_S A s.heap H locs) (hsize : ls.size = c.maxLocals)
    (htext : (text == notModelled) = false) (hnb : (stringBytes (stringToUtf16 text)).size ≤ nb) (hnb1 : nb ≤ 1000)
    (hRframes : names.length + 4 < R.frames) (hRlocals : (rest.map fun v => v.category).sum + 10240 ≤ R.locals) (hshort : 13 * names.length + 55 ≤ 10240) (hRcells : cells + 3 ≤ R.cells) (hRslots : slots + (nb + 10) ≤ R.slots) (hlocks : meth.locks = false)
    (k : ∀ (H1 : Heap) (q9 : Addr) (ce : Cell), H.size ≤ H1.size → (∀ q : Nat, q < H.size → H1[q]? = H[q]?) → va_S A s.heap H1 locs → H1[q9]? = some ce → ce.vm = .none → s.vm.findClass cls = some ce.cls → vx_W p l e R s m args below meth c H1 locs (cells + 3) (slots + (nb + 10)) Q (F0 m pc ls rest) q9) :
    vx_Note p l e R s m args below meth c H locs cells slots Q (F0 m pc ls rest) cls text := by
  intro T hT X
  have htr : e.platform.stackTraces = false := (show e.platform.stackTraces = l.stackTraces by rw [X.admits.platform]).trans hl
  have Y := vx_rebase X (R' := { frames := R.frames, locals := R.locals, cells := 3, slots := nb + 10 }) (Nat.le_refl _) (Nat.le_refl _) hRcells hRslots
  have hhp : ((T.setVm s.vm).setFrames (.invoking m args :: below)).heap = H := hT
  have hW0 : s.WarmedH ((T.setVm s.vm).setFrames (.invoking m args :: below)).vm := State.WarmedH.refl s
  have hat' : ∀ w ∈ vx_atM cls names, w.before args ((T.setVm s.vm).setFrames (.invoking m args :: below)) = true := fun w hw => vx_ot_at hW0 rfl (hgood w hw) (hat w hw)
  have hU' : vx_Zq Bundle.tN "UNASSIGNED_STACK" Bundle.steD A ((T.setVm s.vm).setFrames (.invoking m args :: below)) ((T.setVm s.vm).setFrames (.invoking m args :: below)).heap := by rw [hhp]; exact vx_Zq.moved hW0.alike (hU.kept hS.2.1)
  have hN' : vx_Zq Bundle.tN "SUPPRESSED_SENTINEL" Bundle.listD A ((T.setVm s.vm).setFrames (.invoking m args :: below)) ((T.setVm s.vm).setFrames (.invoking m args :: below)).heap := by rw [hhp]; exact vx_Zq.moved hW0.alike (hN.kept hS.2.1)
  obtain ⟨S, q, ce, st, Z, hce, hcl', hv⟩ := vx_vmAt Y hexec htr (cls := cls) (names := names) (text := text) hcls hnames hsoe hoom (vx_own hat' (vx_isRefq hU'.1) (vx_isRefq hN'.1) hU'.2.word hN'.2.word) (fun x hx => nomatch hx) htext
    (by rw [Launch.admits_arrayLengthLimit X.admits]; omega) (by rw [Launch.admits_maxHeapBytes X.admits]; simp only [componentBytes]; omega)
    (g := F0 m pc ls rest) rfl hsize hRframes (by show 2 * 0 + (rest.map fun v => v.category).sum + 10240 ≤ R.locals; omega) hshort (by show 0 + 3 ≤ 3; omega) (by show 0 + (_ + 4 + 6) ≤ nb + 10; omega) hlocks
  obtain ⟨f1, f2⟩ := vx_frame Z.same
  have f1' : H.size ≤ S.heap.size := by rw [← hT]; exact f1
  have f2' : ∀ q : Nat, q < H.size → S.heap[q]? = H[q]? := fun q hq => by
    rw [← hT]
    exact f2 q (by rw [← hT] at hq; exact hq) (fun z hz => nomatch hz)
  have X5 := vx_back9 X Y Z
  have X6 : Stand p l e R s m args below meth c S locs (cells + 3) (slots + (nb + 10)) := { X5 with same := X5.same.mono (by omega) (by omega) }
  obtain ⟨t, a1, b1⟩ := k S.heap q ce f1' f2' ⟨Nat.le_trans hS.1 f1', fun q h1 h2 => (f2' q (Nat.lt_of_lt_of_le h1 hS.1)).trans (hS.2.1 q h1 h2), hS.2.2⟩ hce hv hcl' S rfl X6
  exact ⟨t, st t a1, b1⟩
/-- from the machine's note that NullPointerException is thrown here -/
def vx_NoteN (p : Program) (l : Launch) (e : Env) (R : Room) (s : State) (m : MethodId) (args : Array Value) (below : List Frame) (meth : Method) (c : Code) (H : Heap) (locs : List Loc) (cells slots : Nat) (Q : State → Prop) (g : JFrame) : Prop :=
  ∀ T : State, T.heap = H → Stand p l e R s m args below meth c T locs cells slots → ∃ t, Steps p.tables e below ((T.setTop g).pushFrame (.throwNew "java/lang/NullPointerException" none none)) t ∧ Q t
theorem vx_npe {pc : Nat} {ls : Array Slot} {rest : List Value} {Q : State → Prop} (hexec : p.tables.exec = Jvm.exec) (hl : l.stackTraces = false) {nb : Nat} {A : Nat → Prop}
    (hat : ∀ w ∈ vx_atN nb, w.before args s = true) (hgood : ∀ w ∈ vx_atN nb, vx_ot w = true)
    (hU : vx_Zq Bundle.tN "UNASSIGNED_STACK" Bundle.steD A s s.heap) (hN : vx_Zq Bundle.tN "SUPPRESSED_SENTINEL" Bundle.listD A s s.heap) (hS : va_S A s.heap H locs) (hsize : ls.size = c.maxLocals)
    (hRframes : 7 < R.frames) (hRlocals : (rest.map fun v => v.category).sum + 10240 ≤ R.locals) (hRcells : cells + 1 ≤ R.cells) (hRslots : slots + nb ≤ R.slots) (hlocks : meth.locks = false)
    (k : ∀ (H1 : Heap) (q9 : Addr) (ce : Cell), H.size ≤ H1.size → (∀ q : Nat, q < H.size → H1[q]? = H[q]?) → va_S A s.heap H1 locs → H1[q9]? = some ce → ce.vm = .none → s.vm.findClass "java/lang/NullPointerException" = some ce.cls → vx_W p l e R s m args below meth c H1 locs (cells + 1) (slots + nb) Q (F0 m pc ls rest) q9) :
    vx_NoteN p l e R s m args below meth c H locs cells slots Q (F0 m pc ls rest) := by
  intro T hT X
  have htr : e.platform.stackTraces = false := (show e.platform.stackTraces = l.stackTraces by rw [X.admits.platform]).trans hl
  have Y := vx_rebase X (R' := { frames := R.frames, locals := R.locals, cells := 1, slots := nb }) (Nat.le_refl _) (Nat.le_refl _) hRcells hRslots
  have hhp : ((T.setVm s.vm).setFrames (.invoking m args :: below)).heap = H := hT
  have hW0 : s.WarmedH ((T.setVm s.vm).setFrames (.invoking m args :: below)).vm := State.WarmedH.refl s
  have hat' : ∀ w ∈ vx_atN nb, w.before args ((T.setVm s.vm).setFrames (.invoking m args :: below)) = true := fun w hw => vx_ot_at hW0 rfl (hgood w hw) (hat w hw)
  have hU' : vx_Zq Bundle.tN "UNASSIGNED_STACK" Bundle.steD A ((T.setVm s.vm).setFrames (.invoking m args :: below)) ((T.setVm s.vm).setFrames (.invoking m args :: below)).heap := by rw [hhp]; exact vx_Zq.moved hW0.alike (hU.kept hS.2.1)
  have hN' : vx_Zq Bundle.tN "SUPPRESSED_SENTINEL" Bundle.listD A ((T.setVm s.vm).setFrames (.invoking m args :: below)) ((T.setVm s.vm).setFrames (.invoking m args :: below)).heap := by rw [hhp]; exact vx_Zq.moved hW0.alike (hN.kept hS.2.1)
  obtain ⟨S, q, ce, st, Z, hce, hcl', hv⟩ := vx_npeAt Y hexec htr (n := nb) (vx_own hat' (vx_isRefq hU'.1) (vx_isRefq hN'.1) hU'.2.word hN'.2.word) (fun x hx => nomatch hx)
    (g := F0 m pc ls rest) rfl hsize hRframes (by show 2 * 0 + (rest.map fun v => v.category).sum + 10240 ≤ R.locals; omega) (by show 0 + 1 ≤ 1; omega) (by show 0 + nb ≤ nb; omega) hlocks
  obtain ⟨f1, f2⟩ := vx_frame Z.same
  have f1' : H.size ≤ S.heap.size := by rw [← hT]; exact f1
  have f2' : ∀ q : Nat, q < H.size → S.heap[q]? = H[q]? := fun q hq => by
    rw [← hT]
    exact f2 q (by rw [← hT] at hq; exact hq) (fun z hz => nomatch hz)
  have X5 := vx_back9 X Y Z
  have X6 : Stand p l e R s m args below meth c S locs (cells + 1) (slots + nb) := { X5 with same := X5.same.mono (by omega) (by omega) }
  obtain ⟨t, a1, b1⟩ := k S.heap q ce f1' f2' ⟨Nat.le_trans hS.1 f1', fun q h1 h2 => (f2' q (Nat.lt_of_lt_of_le h1 hS.1)).trans (hS.2.1 q h1 h2), hS.2.2⟩ hce hv hcl' S rfl X6
  exact ⟨t, st t a1, b1⟩
variable {Q : State → Prop} {cc : ByteArray} {pc : Nat} {ls : Array Slot} {rest : List Value}
theorem vx_idivZ (hexec : p.tables.exec = Jvm.exec) (hb : c.code = cc) {a b : Int32} (h0 : b = 0) (d : decode cc pc = .ok (.idiv, 1)) (k : vx_Note p l e R s m args below meth c H locs cells slots Q (F0 m pc ls rest) "java/lang/ArithmeticException" "/ by zero") :
    W p l e R s m args below meth c H locs cells slots Q (F0 m pc ls (.int b :: .int a :: rest)) := by
  intro T hT X
  obtain ⟨t, st, q⟩ := k T hT X
  exact ⟨t, X.idivZero hexec (g := F0 m pc ls (.int b :: .int a :: rest)) rfl (a := a) (rest := rest) (by rw [h0]) (by rw [hb]; exact d) t st, q⟩
theorem vx_iremZ (hexec : p.tables.exec = Jvm.exec) (hb : c.code = cc) {a b : Int32} (h0 : b = 0) (d : decode cc pc = .ok (.irem, 1)) (k : vx_Note p l e R s m args below meth c H locs cells slots Q (F0 m pc ls rest) "java/lang/ArithmeticException" "/ by zero") :
    W p l e R s m args below meth c H locs cells slots Q (F0 m pc ls (.int b :: .int a :: rest)) := by
  intro T hT X
  obtain ⟨t, st, q⟩ := k T hT X
  exact ⟨t, X.iremZero hexec (g := F0 m pc ls (.int b :: .int a :: rest)) rfl (a := a) (rest := rest) (by rw [h0]) (by rw [hb]; exact d) t st, q⟩
theorem vx_ldivZ (hexec : p.tables.exec = Jvm.exec) (hb : c.code = cc) {a b : Int64} (h0 : b = 0) (d : decode cc pc = .ok (.ldiv, 1)) (k : vx_Note p l e R s m args below meth c H locs cells slots Q (F0 m pc ls rest) "java/lang/ArithmeticException" "/ by zero") :
    W p l e R s m args below meth c H locs cells slots Q (F0 m pc ls (.long b :: .long a :: rest)) := by
  intro T hT X
  obtain ⟨t, st, q⟩ := k T hT X
  exact ⟨t, X.ldivZero hexec (g := F0 m pc ls (.long b :: .long a :: rest)) rfl (a := a) (rest := rest) (by rw [h0]) (by rw [hb]; exact d) t st, q⟩
theorem vx_lremZ (hexec : p.tables.exec = Jvm.exec) (hb : c.code = cc) {a b : Int64} (h0 : b = 0) (d : decode cc pc = .ok (.lrem, 1)) (k : vx_Note p l e R s m args below meth c H locs cells slots Q (F0 m pc ls rest) "java/lang/ArithmeticException" "/ by zero") :
    W p l e R s m args below meth c H locs cells slots Q (F0 m pc ls (.long b :: .long a :: rest)) := by
  intro T hT X
  obtain ⟨t, st, q⟩ := k T hT X
  exact ⟨t, X.lremZero hexec (g := F0 m pc ls (.long b :: .long a :: rest)) rfl (a := a) (rest := rest) (by rw [h0]) (by rw [hb]; exact d) t st, q⟩
theorem vx_ialdZ {D : va_G} {cl : List vw_C} {ws : va_W} {tys : List (ClassId × FieldType)} {a : Nat} (hexec : p.tables.exec = Jvm.exec) (hb : c.code = cc) (hK : va_K D cl tys s) (hP : va_P D cl ws H) (q0 t0 : Nat) {cA : ClassId} {n : Nat} {f : Nat → Int32} (ha : ws[q0]? = some (a, .inl (cA, n, .inl f))) (ht : tys[t0]? = some (cA, .int)) {i : Int32} (hout : ¬ vp_in i n) (hdg : decode cc pc = .ok (.iaload, 1))
    (k : ∀ tx : String, tx = (toString "Index " ++ toString i ++ toString " out of bounds for length " ++ toString n : String) → vx_Note p l e R s m args below meth c H locs cells slots Q (F0 m pc ls rest) "java/lang/ArrayIndexOutOfBoundsException" tx) : W p l e R s m args below meth c H locs cells slots Q (F0 m pc ls (.int i :: .ref a :: rest)) := by
  intro T hT X
  obtain ⟨t, st, q⟩ := k _ rfl T hT X
  refine ⟨t, ?_, q⟩
  have h1 := X.ialoadOut hexec (by rw [hT]; exact hP q0 _ ha) ((hK.2 t0 _ ht).1 n (fun j => .int (f j))) (j := i) (by show (i < 0 ∨ (arrV _ _ _).slots.size ≤ _); rw [arrV_size]; exact Classical.byContradiction hout) (g := F0 m pc ls (.int i :: .ref a :: rest)) rfl (rest := rest) rfl (by rw [hb]; exact hdg) t
  simp only [arrV_size] at h1
  exact h1 st
theorem vx_iastZ {D : va_G} {cl : List vw_C} {ws : va_W} {tys : List (ClassId × FieldType)} {a : Nat} (hexec : p.tables.exec = Jvm.exec) (hb : c.code = cc) (hK : va_K D cl tys s) (hP : va_P D cl ws H) (q0 t0 : Nat) {cA : ClassId} {n : Nat} {f : Nat → Int32} (ha : ws[q0]? = some (a, .inl (cA, n, .inl f))) (ht : tys[t0]? = some (cA, .int)) {i : Int32} {x : Int32} (hout : ¬ vp_in i n) (hdg : decode cc pc = .ok (.iastore, 1))
    (k : ∀ tx : String, tx = (toString "Index " ++ toString i ++ toString " out of bounds for length " ++ toString n : String) → vx_Note p l e R s m args below meth c H locs cells slots Q (F0 m pc ls rest) "java/lang/ArrayIndexOutOfBoundsException" tx) : W p l e R s m args below meth c H locs cells slots Q (F0 m pc ls (.int x :: .int i :: .ref a :: rest)) := by
  intro T hT X
  obtain ⟨t, st, q⟩ := k _ rfl T hT X
  refine ⟨t, ?_, q⟩
  have h1 := X.iastoreOut hexec (by rw [hT]; exact hP q0 _ ha) ((hK.2 t0 _ ht).1 n (fun j => .int (f j))) (j := i) (by show (i < 0 ∨ (arrV _ _ _).slots.size ≤ _); rw [arrV_size]; exact Classical.byContradiction hout) (g := F0 m pc ls (.int x :: .int i :: .ref a :: rest)) rfl (rest := rest) rfl (by rw [hb]; exact hdg) t
  simp only [arrV_size] at h1
  exact h1 st
theorem vx_baldZ {D : va_G} {cl : List vw_C} {ws : va_W} {tys : List (ClassId × FieldType)} {a : Nat} (hexec : p.tables.exec = Jvm.exec) (hb : c.code = cc) (hK : va_K D cl tys s) (hP : va_P D cl ws H) (q0 t0 : Nat) {cA : ClassId} {n : Nat} {f : Nat → Int32} (ha : ws[q0]? = some (a, .inl (cA, n, .inl f))) (ht : tys[t0]? = some (cA, .byte)) {i : Int32} (hout : ¬ vp_in i n) (hdg : decode cc pc = .ok (.baload, 1))
    (k : ∀ tx : String, tx = (toString "Index " ++ toString i ++ toString " out of bounds for length " ++ toString n : String) → vx_Note p l e R s m args below meth c H locs cells slots Q (F0 m pc ls rest) "java/lang/ArrayIndexOutOfBoundsException" tx) : W p l e R s m args below meth c H locs cells slots Q (F0 m pc ls (.int i :: .ref a :: rest)) := by
  intro T hT X
  obtain ⟨t, st, q⟩ := k _ rfl T hT X
  refine ⟨t, ?_, q⟩
  have h1 := X.baloadOut hexec (by rw [hT]; exact hP q0 _ ha) ((hK.2 t0 _ ht).1 n (fun j => .int (f j))) (j := i) (by show (i < 0 ∨ (arrV _ _ _).slots.size ≤ _); rw [arrV_size]; exact Classical.byContradiction hout) (g := F0 m pc ls (.int i :: .ref a :: rest)) rfl (rest := rest) rfl (by rw [hb]; exact hdg) t
  simp only [arrV_size] at h1
  exact h1 st
theorem vx_bastZ {D : va_G} {cl : List vw_C} {ws : va_W} {tys : List (ClassId × FieldType)} {a : Nat} (hexec : p.tables.exec = Jvm.exec) (hb : c.code = cc) (hK : va_K D cl tys s) (hP : va_P D cl ws H) (q0 t0 : Nat) {cA : ClassId} {n : Nat} {f : Nat → Int32} (ha : ws[q0]? = some (a, .inl (cA, n, .inl f))) (ht : tys[t0]? = some (cA, .byte)) {i : Int32} {x : Int32} (hout : ¬ vp_in i n) (hdg : decode cc pc = .ok (.bastore, 1))
    (k : ∀ tx : String, tx = (toString "Index " ++ toString i ++ toString " out of bounds for length " ++ toString n : String) → vx_Note p l e R s m args below meth c H locs cells slots Q (F0 m pc ls rest) "java/lang/ArrayIndexOutOfBoundsException" tx) : W p l e R s m args below meth c H locs cells slots Q (F0 m pc ls (.int x :: .int i :: .ref a :: rest)) := by
  intro T hT X
  obtain ⟨t, st, q⟩ := k _ rfl T hT X
  refine ⟨t, ?_, q⟩
  have h1 := X.bastoreOut hexec (by rw [hT]; exact hP q0 _ ha) ((hK.2 t0 _ ht).1 n (fun j => .int (f j))) (j := i) (by show (i < 0 ∨ (arrV _ _ _).slots.size ≤ _); rw [arrV_size]; exact Classical.byContradiction hout) (g := F0 m pc ls (.int x :: .int i :: .ref a :: rest)) rfl (rest := rest) rfl (by rw [hb]; exact hdg) t
  simp only [arrV_size] at h1
  exact h1 st
theorem vx_zaldZ {D : va_G} {cl : List vw_C} {ws : va_W} {tys : List (ClassId × FieldType)} {a : Nat} (hexec : p.tables.exec = Jvm.exec) (hb : c.code = cc) (hK : va_K D cl tys s) (hP : va_P D cl ws H) (q0 t0 : Nat) {cA : ClassId} {n : Nat} {f : Nat → Int32} (ha : ws[q0]? = some (a, .inl (cA, n, .inl f))) (ht : tys[t0]? = some (cA, .boolean)) {i : Int32} (hout : ¬ vp_in i n) (hdg : decode cc pc = .ok (.baload, 1))
    (k : ∀ tx : String, tx = (toString "Index " ++ toString i ++ toString " out of bounds for length " ++ toString n : String) → vx_Note p l e R s m args below meth c H locs cells slots Q (F0 m pc ls rest) "java/lang/ArrayIndexOutOfBoundsException" tx) : W p l e R s m args below meth c H locs cells slots Q (F0 m pc ls (.int i :: .ref a :: rest)) := by
  intro T hT X
  obtain ⟨t, st, q⟩ := k _ rfl T hT X
  refine ⟨t, ?_, q⟩
  have h1 := X.baloadOut hexec (by rw [hT]; exact hP q0 _ ha) ((hK.2 t0 _ ht).1 n (fun j => .int (f j))) (j := i) (by show (i < 0 ∨ (arrV _ _ _).slots.size ≤ _); rw [arrV_size]; exact Classical.byContradiction hout) (g := F0 m pc ls (.int i :: .ref a :: rest)) rfl (rest := rest) rfl (by rw [hb]; exact hdg) t
  simp only [arrV_size] at h1
  exact h1 st
theorem vx_zastZ {D : va_G} {cl : List vw_C} {ws : va_W} {tys : List (ClassId × FieldType)} {a : Nat} (hexec : p.tables.exec = Jvm.exec) (hb : c.code = cc) (hK : va_K D cl tys s) (hP : va_P D cl ws H) (q0 t0 : Nat) {cA : ClassId} {n : Nat} {f : Nat → Int32} (ha : ws[q0]? = some (a, .inl (cA, n, .inl f))) (ht : tys[t0]? = some (cA, .boolean)) {i : Int32} {x : Int32} (hout : ¬ vp_in i n) (hdg : decode cc pc = .ok (.bastore, 1))
    (k : ∀ tx : String, tx = (toString "Index " ++ toString i ++ toString " out of bounds for length " ++ toString n : String) → vx_Note p l e R s m args below meth c H locs cells slots Q (F0 m pc ls rest) "java/lang/ArrayIndexOutOfBoundsException" tx) : W p l e R s m args below meth c H locs cells slots Q (F0 m pc ls (.int x :: .int i :: .ref a :: rest)) := by
  intro T hT X
  obtain ⟨t, st, q⟩ := k _ rfl T hT X
  refine ⟨t, ?_, q⟩
  have h1 := X.bastoreOut hexec (by rw [hT]; exact hP q0 _ ha) ((hK.2 t0 _ ht).1 n (fun j => .int (f j))) (j := i) (by show (i < 0 ∨ (arrV _ _ _).slots.size ≤ _); rw [arrV_size]; exact Classical.byContradiction hout) (g := F0 m pc ls (.int x :: .int i :: .ref a :: rest)) rfl (rest := rest) rfl (by rw [hb]; exact hdg) t
  simp only [arrV_size] at h1
  exact h1 st
theorem vx_caldZ {D : va_G} {cl : List vw_C} {ws : va_W} {tys : List (ClassId × FieldType)} {a : Nat} (hexec : p.tables.exec = Jvm.exec) (hb : c.code = cc) (hK : va_K D cl tys s) (hP : va_P D cl ws H) (q0 t0 : Nat) {cA : ClassId} {n : Nat} {f : Nat → Int32} (ha : ws[q0]? = some (a, .inl (cA, n, .inl f))) (ht : tys[t0]? = some (cA, .char)) {i : Int32} (hout : ¬ vp_in i n) (hdg : decode cc pc = .ok (.caload, 1))
    (k : ∀ tx : String, tx = (toString "Index " ++ toString i ++ toString " out of bounds for length " ++ toString n : String) → vx_Note p l e R s m args below meth c H locs cells slots Q (F0 m pc ls rest) "java/lang/ArrayIndexOutOfBoundsException" tx) : W p l e R s m args below meth c H locs cells slots Q (F0 m pc ls (.int i :: .ref a :: rest)) := by
  intro T hT X
  obtain ⟨t, st, q⟩ := k _ rfl T hT X
  refine ⟨t, ?_, q⟩
  have h1 := X.caloadOut hexec (by rw [hT]; exact hP q0 _ ha) ((hK.2 t0 _ ht).1 n (fun j => .int (f j))) (j := i) (by show (i < 0 ∨ (arrV _ _ _).slots.size ≤ _); rw [arrV_size]; exact Classical.byContradiction hout) (g := F0 m pc ls (.int i :: .ref a :: rest)) rfl (rest := rest) rfl (by rw [hb]; exact hdg) t
  simp only [arrV_size] at h1
  exact h1 st
theorem vx_castZ {D : va_G} {cl : List vw_C} {ws : va_W} {tys : List (ClassId × FieldType)} {a : Nat} (hexec : p.tables.exec = Jvm.exec) (hb : c.code = cc) (hK : va_K D cl tys s) (hP : va_P D cl ws H) (q0 t0 : Nat) {cA : ClassId} {n : Nat} {f : Nat → Int32} (ha : ws[q0]? = some (a, .inl (cA, n, .inl f))) (ht : tys[t0]? = some (cA, .char)) {i : Int32} {x : Int32} (hout : ¬ vp_in i n) (hdg : decode cc pc = .ok (.castore, 1))
    (k : ∀ tx : String, tx = (toString "Index " ++ toString i ++ toString " out of bounds for length " ++ toString n : String) → vx_Note p l e R s m args below meth c H locs cells slots Q (F0 m pc ls rest) "java/lang/ArrayIndexOutOfBoundsException" tx) : W p l e R s m args below meth c H locs cells slots Q (F0 m pc ls (.int x :: .int i :: .ref a :: rest)) := by
  intro T hT X
  obtain ⟨t, st, q⟩ := k _ rfl T hT X
  refine ⟨t, ?_, q⟩
  have h1 := X.castoreOut hexec (by rw [hT]; exact hP q0 _ ha) ((hK.2 t0 _ ht).1 n (fun j => .int (f j))) (j := i) (by show (i < 0 ∨ (arrV _ _ _).slots.size ≤ _); rw [arrV_size]; exact Classical.byContradiction hout) (g := F0 m pc ls (.int x :: .int i :: .ref a :: rest)) rfl (rest := rest) rfl (by rw [hb]; exact hdg) t
  simp only [arrV_size] at h1
  exact h1 st
theorem vx_saldZ {D : va_G} {cl : List vw_C} {ws : va_W} {tys : List (ClassId × FieldType)} {a : Nat} (hexec : p.tables.exec = Jvm.exec) (hb : c.code = cc) (hK : va_K D cl tys s) (hP : va_P D cl ws H) (q0 t0 : Nat) {cA : ClassId} {n : Nat} {f : Nat → Int32} (ha : ws[q0]? = some (a, .inl (cA, n, .inl f))) (ht : tys[t0]? = some (cA, .short)) {i : Int32} (hout : ¬ vp_in i n) (hdg : decode cc pc = .ok (.saload, 1))
    (k : ∀ tx : String, tx = (toString "Index " ++ toString i ++ toString " out of bounds for length " ++ toString n : String) → vx_Note p l e R s m args below meth c H locs cells slots Q (F0 m pc ls rest) "java/lang/ArrayIndexOutOfBoundsException" tx) : W p l e R s m args below meth c H locs cells slots Q (F0 m pc ls (.int i :: .ref a :: rest)) := by
  intro T hT X
  obtain ⟨t, st, q⟩ := k _ rfl T hT X
  refine ⟨t, ?_, q⟩
  have h1 := X.saloadOut hexec (by rw [hT]; exact hP q0 _ ha) ((hK.2 t0 _ ht).1 n (fun j => .int (f j))) (j := i) (by show (i < 0 ∨ (arrV _ _ _).slots.size ≤ _); rw [arrV_size]; exact Classical.byContradiction hout) (g := F0 m pc ls (.int i :: .ref a :: rest)) rfl (rest := rest) rfl (by rw [hb]; exact hdg) t
  simp only [arrV_size] at h1
  exact h1 st
theorem vx_sastZ {D : va_G} {cl : List vw_C} {ws : va_W} {tys : List (ClassId × FieldType)} {a : Nat} (hexec : p.tables.exec = Jvm.exec) (hb : c.code = cc) (hK : va_K D cl tys s) (hP : va_P D cl ws H) (q0 t0 : Nat) {cA : ClassId} {n : Nat} {f : Nat → Int32} (ha : ws[q0]? = some (a, .inl (cA, n, .inl f))) (ht : tys[t0]? = some (cA, .short)) {i : Int32} {x : Int32} (hout : ¬ vp_in i n) (hdg : decode cc pc = .ok (.sastore, 1))
    (k : ∀ tx : String, tx = (toString "Index " ++ toString i ++ toString " out of bounds for length " ++ toString n : String) → vx_Note p l e R s m args below meth c H locs cells slots Q (F0 m pc ls rest) "java/lang/ArrayIndexOutOfBoundsException" tx) : W p l e R s m args below meth c H locs cells slots Q (F0 m pc ls (.int x :: .int i :: .ref a :: rest)) := by
  intro T hT X
  obtain ⟨t, st, q⟩ := k _ rfl T hT X
  refine ⟨t, ?_, q⟩
  have h1 := X.sastoreOut hexec (by rw [hT]; exact hP q0 _ ha) ((hK.2 t0 _ ht).1 n (fun j => .int (f j))) (j := i) (by show (i < 0 ∨ (arrV _ _ _).slots.size ≤ _); rw [arrV_size]; exact Classical.byContradiction hout) (g := F0 m pc ls (.int x :: .int i :: .ref a :: rest)) rfl (rest := rest) rfl (by rw [hb]; exact hdg) t
  simp only [arrV_size] at h1
  exact h1 st
theorem vx_laldZ {D : va_G} {cl : List vw_C} {ws : va_W} {tys : List (ClassId × FieldType)} {a : Nat} (hexec : p.tables.exec = Jvm.exec) (hb : c.code = cc) (hK : va_K D cl tys s) (hP : va_P D cl ws H) (q0 t0 : Nat) {cA : ClassId} {n : Nat} {f : Nat → Int64} (ha : ws[q0]? = some (a, .inl (cA, n, .inr (.inl f)))) (ht : tys[t0]? = some (cA, .long)) {i : Int32} (hout : ¬ vp_in i n) (hdg : decode cc pc = .ok (.laload, 1))
    (k : ∀ tx : String, tx = (toString "Index " ++ toString i ++ toString " out of bounds for length " ++ toString n : String) → vx_Note p l e R s m args below meth c H locs cells slots Q (F0 m pc ls rest) "java/lang/ArrayIndexOutOfBoundsException" tx) : W p l e R s m args below meth c H locs cells slots Q (F0 m pc ls (.int i :: .ref a :: rest)) := by
  intro T hT X
  obtain ⟨t, st, q⟩ := k _ rfl T hT X
  refine ⟨t, ?_, q⟩
  have h1 := X.laloadOut hexec (by rw [hT]; exact hP q0 _ ha) ((hK.2 t0 _ ht).1 n (fun j => .long (f j))) (j := i) (by show (i < 0 ∨ (arrV _ _ _).slots.size ≤ _); rw [arrV_size]; exact Classical.byContradiction hout) (g := F0 m pc ls (.int i :: .ref a :: rest)) rfl (rest := rest) rfl (by rw [hb]; exact hdg) t
  simp only [arrV_size] at h1
  exact h1 st
theorem vx_lastZ {D : va_G} {cl : List vw_C} {ws : va_W} {tys : List (ClassId × FieldType)} {a : Nat} (hexec : p.tables.exec = Jvm.exec) (hb : c.code = cc) (hK : va_K D cl tys s) (hP : va_P D cl ws H) (q0 t0 : Nat) {cA : ClassId} {n : Nat} {f : Nat → Int64} (ha : ws[q0]? = some (a, .inl (cA, n, .inr (.inl f)))) (ht : tys[t0]? = some (cA, .long)) {i : Int32} {x : Int64} (hout : ¬ vp_in i n) (hdg : decode cc pc = .ok (.lastore, 1))
    (k : ∀ tx : String, tx = (toString "Index " ++ toString i ++ toString " out of bounds for length " ++ toString n : String) → vx_Note p l e R s m args below meth c H locs cells slots Q (F0 m pc ls rest) "java/lang/ArrayIndexOutOfBoundsException" tx) : W p l e R s m args below meth c H locs cells slots Q (F0 m pc ls (.long x :: .int i :: .ref a :: rest)) := by
  intro T hT X
  obtain ⟨t, st, q⟩ := k _ rfl T hT X
  refine ⟨t, ?_, q⟩
  have h1 := X.lastoreOut hexec (by rw [hT]; exact hP q0 _ ha) ((hK.2 t0 _ ht).1 n (fun j => .long (f j))) (j := i) (by show (i < 0 ∨ (arrV _ _ _).slots.size ≤ _); rw [arrV_size]; exact Classical.byContradiction hout) (g := F0 m pc ls (.long x :: .int i :: .ref a :: rest)) rfl (rest := rest) rfl (by rw [hb]; exact hdg) t
  simp only [arrV_size] at h1
  exact h1 st
theorem vx_faldZ {D : va_G} {cl : List vw_C} {ws : va_W} {tys : List (ClassId × FieldType)} {a : Nat} (hexec : p.tables.exec = Jvm.exec) (hb : c.code = cc) (hK : va_K D cl tys s) (hP : va_P D cl ws H) (q0 t0 : Nat) {cA : ClassId} {n : Nat} {f : Nat → UInt32} (ha : ws[q0]? = some (a, .inl (cA, n, .inr (.inr (.inl f))))) (ht : tys[t0]? = some (cA, .float)) {i : Int32} (hout : ¬ vp_in i n) (hdg : decode cc pc = .ok (.faload, 1))
    (k : ∀ tx : String, tx = (toString "Index " ++ toString i ++ toString " out of bounds for length " ++ toString n : String) → vx_Note p l e R s m args below meth c H locs cells slots Q (F0 m pc ls rest) "java/lang/ArrayIndexOutOfBoundsException" tx) : W p l e R s m args below meth c H locs cells slots Q (F0 m pc ls (.int i :: .ref a :: rest)) := by
  intro T hT X
  obtain ⟨t, st, q⟩ := k _ rfl T hT X
  refine ⟨t, ?_, q⟩
  have h1 := X.faloadOut hexec (by rw [hT]; exact hP q0 _ ha) ((hK.2 t0 _ ht).1 n (fun j => .float (f j))) (j := i) (by show (i < 0 ∨ (arrV _ _ _).slots.size ≤ _); rw [arrV_size]; exact Classical.byContradiction hout) (g := F0 m pc ls (.int i :: .ref a :: rest)) rfl (rest := rest) rfl (by rw [hb]; exact hdg) t
  simp only [arrV_size] at h1
  exact h1 st
theorem vx_fastZ {D : va_G} {cl : List vw_C} {ws : va_W} {tys : List (ClassId × FieldType)} {a : Nat} (hexec : p.tables.exec = Jvm.exec) (hb : c.code = cc) (hK : va_K D cl tys s) (hP : va_P D cl ws H) (q0 t0 : Nat) {cA : ClassId} {n : Nat} {f : Nat → UInt32} (ha : ws[q0]? = some (a, .inl (cA, n, .inr (.inr (.inl f))))) (ht : tys[t0]? = some (cA, .float)) {i : Int32} {x : UInt32} (hout : ¬ vp_in i n) (hdg : decode cc pc = .ok (.fastore, 1))
    (k : ∀ tx : String, tx = (toString "Index " ++ toString i ++ toString " out of bounds for length " ++ toString n : String) → vx_Note p l e R s m args below meth c H locs cells slots Q (F0 m pc ls rest) "java/lang/ArrayIndexOutOfBoundsException" tx) : W p l e R s m args below meth c H locs cells slots Q (F0 m pc ls (.float x :: .int i :: .ref a :: rest)) := by
  intro T hT X
  obtain ⟨t, st, q⟩ := k _ rfl T hT X
  refine ⟨t, ?_, q⟩
  have h1 := X.fastoreOut hexec (by rw [hT]; exact hP q0 _ ha) ((hK.2 t0 _ ht).1 n (fun j => .float (f j))) (j := i) (by show (i < 0 ∨ (arrV _ _ _).slots.size ≤ _); rw [arrV_size]; exact Classical.byContradiction hout) (g := F0 m pc ls (.float x :: .int i :: .ref a :: rest)) rfl (rest := rest) rfl (by rw [hb]; exact hdg) t
  simp only [arrV_size] at h1
  exact h1 st
theorem vx_daldZ {D : va_G} {cl : List vw_C} {ws : va_W} {tys : List (ClassId × FieldType)} {a : Nat} (hexec : p.tables.exec = Jvm.exec) (hb : c.code = cc) (hK : va_K D cl tys s) (hP : va_P D cl ws H) (q0 t0 : Nat) {cA : ClassId} {n : Nat} {f : Nat → UInt64} (ha : ws[q0]? = some (a, .inl (cA, n, .inr (.inr (.inr (.inl f)))))) (ht : tys[t0]? = some (cA, .double)) {i : Int32} (hout : ¬ vp_in i n) (hdg : decode cc pc = .ok (.daload, 1))
    (k : ∀ tx : String, tx = (toString "Index " ++ toString i ++ toString " out of bounds for length " ++ toString n : String) → vx_Note p l e R s m args below meth c H locs cells slots Q (F0 m pc ls rest) "java/lang/ArrayIndexOutOfBoundsException" tx) : W p l e R s m args below meth c H locs cells slots Q (F0 m pc ls (.int i :: .ref a :: rest)) := by
  intro T hT X
  obtain ⟨t, st, q⟩ := k _ rfl T hT X
  refine ⟨t, ?_, q⟩
  have h1 := X.daloadOut hexec (by rw [hT]; exact hP q0 _ ha) ((hK.2 t0 _ ht).1 n (fun j => .double (f j))) (j := i) (by show (i < 0 ∨ (arrV _ _ _).slots.size ≤ _); rw [arrV_size]; exact Classical.byContradiction hout) (g := F0 m pc ls (.int i :: .ref a :: rest)) rfl (rest := rest) rfl (by rw [hb]; exact hdg) t
  simp only [arrV_size] at h1
  exact h1 st
theorem vx_dastZ {D : va_G} {cl : List vw_C} {ws : va_W} {tys : List (ClassId × FieldType)} {a : Nat} (hexec : p.tables.exec = Jvm.exec) (hb : c.code = cc) (hK : va_K D cl tys s) (hP : va_P D cl ws H) (q0 t0 : Nat) {cA : ClassId} {n : Nat} {f : Nat → UInt64} (ha : ws[q0]? = some (a, .inl (cA, n, .inr (.inr (.inr (.inl f)))))) (ht : tys[t0]? = some (cA, .double)) {i : Int32} {x : UInt64} (hout : ¬ vp_in i n) (hdg : decode cc pc = .ok (.dastore, 1))
    (k : ∀ tx : String, tx = (toString "Index " ++ toString i ++ toString " out of bounds for length " ++ toString n : String) → vx_Note p l e R s m args below meth c H locs cells slots Q (F0 m pc ls rest) "java/lang/ArrayIndexOutOfBoundsException" tx) : W p l e R s m args below meth c H locs cells slots Q (F0 m pc ls (.double x :: .int i :: .ref a :: rest)) := by
  intro T hT X
  obtain ⟨t, st, q⟩ := k _ rfl T hT X
  refine ⟨t, ?_, q⟩
  have h1 := X.dastoreOut hexec (by rw [hT]; exact hP q0 _ ha) ((hK.2 t0 _ ht).1 n (fun j => .double (f j))) (j := i) (by show (i < 0 ∨ (arrV _ _ _).slots.size ≤ _); rw [arrV_size]; exact Classical.byContradiction hout) (g := F0 m pc ls (.double x :: .int i :: .ref a :: rest)) rfl (rest := rest) rfl (by rw [hb]; exact hdg) t
  simp only [arrV_size] at h1
  exact h1 st
theorem vx_arraylengthN (hexec : p.tables.exec = Jvm.exec) (hb : c.code = cc) (hdg : decode cc pc = .ok (.arraylength, 1)) (k : vx_NoteN p l e R s m args below meth c H locs cells slots Q (F0 m pc ls rest)) : W p l e R s m args below meth c H locs cells slots Q (F0 m pc ls (.null :: rest)) := by
  intro T hT X
  obtain ⟨t, st, q⟩ := k T hT X
  exact ⟨t, X.arraylengthNull hexec (g := F0 m pc ls (.null :: rest)) rfl (rest := rest) rfl (by rw [hb]; exact hdg) t st, q⟩
theorem vx_ialoadN (hexec : p.tables.exec = Jvm.exec) (hb : c.code = cc) {i : Int32} (hdg : decode cc pc = .ok (.iaload, 1)) (k : vx_NoteN p l e R s m args below meth c H locs cells slots Q (F0 m pc ls rest)) : W p l e R s m args below meth c H locs cells slots Q (F0 m pc ls (.int i :: .null :: rest)) := by
  intro T hT X
  obtain ⟨t, st, q⟩ := k T hT X
  exact ⟨t, X.ialoadNull hexec (g := F0 m pc ls (.int i :: .null :: rest)) rfl (rest := rest) rfl (by rw [hb]; exact hdg) t st, q⟩
theorem vx_laloadN (hexec : p.tables.exec = Jvm.exec) (hb : c.code = cc) {i : Int32} (hdg : decode cc pc = .ok (.laload, 1)) (k : vx_NoteN p l e R s m args below meth c H locs cells slots Q (F0 m pc ls rest)) : W p l e R s m args below meth c H locs cells slots Q (F0 m pc ls (.int i :: .null :: rest)) := by
  intro T hT X
  obtain ⟨t, st, q⟩ := k T hT X
  exact ⟨t, X.laloadNull hexec (g := F0 m pc ls (.int i :: .null :: rest)) rfl (rest := rest) rfl (by rw [hb]; exact hdg) t st, q⟩
theorem vx_faloadN (hexec : p.tables.exec = Jvm.exec) (hb : c.code = cc) {i : Int32} (hdg : decode cc pc = .ok (.faload, 1)) (k : vx_NoteN p l e R s m args below meth c H locs cells slots Q (F0 m pc ls rest)) : W p l e R s m args below meth c H locs cells slots Q (F0 m pc ls (.int i :: .null :: rest)) := by
  intro T hT X
  obtain ⟨t, st, q⟩ := k T hT X
  exact ⟨t, X.faloadNull hexec (g := F0 m pc ls (.int i :: .null :: rest)) rfl (rest := rest) rfl (by rw [hb]; exact hdg) t st, q⟩
theorem vx_daloadN (hexec : p.tables.exec = Jvm.exec) (hb : c.code = cc) {i : Int32} (hdg : decode cc pc = .ok (.daload, 1)) (k : vx_NoteN p l e R s m args below meth c H locs cells slots Q (F0 m pc ls rest)) : W p l e R s m args below meth c H locs cells slots Q (F0 m pc ls (.int i :: .null :: rest)) := by
  intro T hT X
  obtain ⟨t, st, q⟩ := k T hT X
  exact ⟨t, X.daloadNull hexec (g := F0 m pc ls (.int i :: .null :: rest)) rfl (rest := rest) rfl (by rw [hb]; exact hdg) t st, q⟩
theorem vx_aaloadN (hexec : p.tables.exec = Jvm.exec) (hb : c.code = cc) {i : Int32} (hdg : decode cc pc = .ok (.aaload, 1)) (k : vx_NoteN p l e R s m args below meth c H locs cells slots Q (F0 m pc ls rest)) : W p l e R s m args below meth c H locs cells slots Q (F0 m pc ls (.int i :: .null :: rest)) := by
  intro T hT X
  obtain ⟨t, st, q⟩ := k T hT X
  exact ⟨t, X.aaloadNull hexec (g := F0 m pc ls (.int i :: .null :: rest)) rfl (rest := rest) rfl (by rw [hb]; exact hdg) t st, q⟩
theorem vx_baloadN (hexec : p.tables.exec = Jvm.exec) (hb : c.code = cc) {i : Int32} (hdg : decode cc pc = .ok (.baload, 1)) (k : vx_NoteN p l e R s m args below meth c H locs cells slots Q (F0 m pc ls rest)) : W p l e R s m args below meth c H locs cells slots Q (F0 m pc ls (.int i :: .null :: rest)) := by
  intro T hT X
  obtain ⟨t, st, q⟩ := k T hT X
  exact ⟨t, X.baloadNull hexec (g := F0 m pc ls (.int i :: .null :: rest)) rfl (rest := rest) rfl (by rw [hb]; exact hdg) t st, q⟩
theorem vx_caloadN (hexec : p.tables.exec = Jvm.exec) (hb : c.code = cc) {i : Int32} (hdg : decode cc pc = .ok (.caload, 1)) (k : vx_NoteN p l e R s m args below meth c H locs cells slots Q (F0 m pc ls rest)) : W p l e R s m args below meth c H locs cells slots Q (F0 m pc ls (.int i :: .null :: rest)) := by
  intro T hT X
  obtain ⟨t, st, q⟩ := k T hT X
  exact ⟨t, X.caloadNull hexec (g := F0 m pc ls (.int i :: .null :: rest)) rfl (rest := rest) rfl (by rw [hb]; exact hdg) t st, q⟩
theorem vx_saloadN (hexec : p.tables.exec = Jvm.exec) (hb : c.code = cc) {i : Int32} (hdg : decode cc pc = .ok (.saload, 1)) (k : vx_NoteN p l e R s m args below meth c H locs cells slots Q (F0 m pc ls rest)) : W p l e R s m args below meth c H locs cells slots Q (F0 m pc ls (.int i :: .null :: rest)) := by
  intro T hT X
  obtain ⟨t, st, q⟩ := k T hT X
  exact ⟨t, X.saloadNull hexec (g := F0 m pc ls (.int i :: .null :: rest)) rfl (rest := rest) rfl (by rw [hb]; exact hdg) t st, q⟩
theorem vx_iastoreN (hexec : p.tables.exec = Jvm.exec) (hb : c.code = cc) {x : Int32} {i : Int32} (hdg : decode cc pc = .ok (.iastore, 1)) (k : vx_NoteN p l e R s m args below meth c H locs cells slots Q (F0 m pc ls rest)) : W p l e R s m args below meth c H locs cells slots Q (F0 m pc ls (.int x :: .int i :: .null :: rest)) := by
  intro T hT X
  obtain ⟨t, st, q⟩ := k T hT X
  exact ⟨t, X.iastoreNull hexec (g := F0 m pc ls (.int x :: .int i :: .null :: rest)) rfl (rest := rest) rfl (by rw [hb]; exact hdg) t st, q⟩
theorem vx_lastoreN (hexec : p.tables.exec = Jvm.exec) (hb : c.code = cc) {x : Int64} {i : Int32} (hdg : decode cc pc = .ok (.lastore, 1)) (k : vx_NoteN p l e R s m args below meth c H locs cells slots Q (F0 m pc ls rest)) : W p l e R s m args below meth c H locs cells slots Q (F0 m pc ls (.long x :: .int i :: .null :: rest)) := by
  intro T hT X
  obtain ⟨t, st, q⟩ := k T hT X
  exact ⟨t, X.lastoreNull hexec (g := F0 m pc ls (.long x :: .int i :: .null :: rest)) rfl (rest := rest) rfl (by rw [hb]; exact hdg) t st, q⟩
theorem vx_fastoreN (hexec : p.tables.exec = Jvm.exec) (hb : c.code = cc) {x : UInt32} {i : Int32} (hdg : decode cc pc = .ok (.fastore, 1)) (k : vx_NoteN p l e R s m args below meth c H locs cells slots Q (F0 m pc ls rest)) : W p l e R s m args below meth c H locs cells slots Q (F0 m pc ls (.float x :: .int i :: .null :: rest)) := by
  intro T hT X
  obtain ⟨t, st, q⟩ := k T hT X
  exact ⟨t, X.fastoreNull hexec (g := F0 m pc ls (.float x :: .int i :: .null :: rest)) rfl (rest := rest) rfl (by rw [hb]; exact hdg) t st, q⟩
theorem vx_dastoreN (hexec : p.tables.exec = Jvm.exec) (hb : c.code = cc) {x : UInt64} {i : Int32} (hdg : decode cc pc = .ok (.dastore, 1)) (k : vx_NoteN p l e R s m args below meth c H locs cells slots Q (F0 m pc ls rest)) : W p l e R s m args below meth c H locs cells slots Q (F0 m pc ls (.double x :: .int i :: .null :: rest)) := by
  intro T hT X
  obtain ⟨t, st, q⟩ := k T hT X
  exact ⟨t, X.dastoreNull hexec (g := F0 m pc ls (.double x :: .int i :: .null :: rest)) rfl (rest := rest) rfl (by rw [hb]; exact hdg) t st, q⟩
theorem vx_bastoreN (hexec : p.tables.exec = Jvm.exec) (hb : c.code = cc) {x : Int32} {i : Int32} (hdg : decode cc pc = .ok (.bastore, 1)) (k : vx_NoteN p l e R s m args below meth c H locs cells slots Q (F0 m pc ls rest)) : W p l e R s m args below meth c H locs cells slots Q (F0 m pc ls (.int x :: .int i :: .null :: rest)) := by
  intro T hT X
  obtain ⟨t, st, q⟩ := k T hT X
  exact ⟨t, X.bastoreNull hexec (g := F0 m pc ls (.int x :: .int i :: .null :: rest)) rfl (rest := rest) rfl (by rw [hb]; exact hdg) t st, q⟩
theorem vx_castoreN (hexec : p.tables.exec = Jvm.exec) (hb : c.code = cc) {x : Int32} {i : Int32} (hdg : decode cc pc = .ok (.castore, 1)) (k : vx_NoteN p l e R s m args below meth c H locs cells slots Q (F0 m pc ls rest)) : W p l e R s m args below meth c H locs cells slots Q (F0 m pc ls (.int x :: .int i :: .null :: rest)) := by
  intro T hT X
  obtain ⟨t, st, q⟩ := k T hT X
  exact ⟨t, X.castoreNull hexec (g := F0 m pc ls (.int x :: .int i :: .null :: rest)) rfl (rest := rest) rfl (by rw [hb]; exact hdg) t st, q⟩
theorem vx_sastoreN (hexec : p.tables.exec = Jvm.exec) (hb : c.code = cc) {x : Int32} {i : Int32} (hdg : decode cc pc = .ok (.sastore, 1)) (k : vx_NoteN p l e R s m args below meth c H locs cells slots Q (F0 m pc ls rest)) : W p l e R s m args below meth c H locs cells slots Q (F0 m pc ls (.int x :: .int i :: .null :: rest)) := by
  intro T hT X
  obtain ⟨t, st, q⟩ := k T hT X
  exact ⟨t, X.sastoreNull hexec (g := F0 m pc ls (.int x :: .int i :: .null :: rest)) rfl (rest := rest) rfl (by rw [hb]; exact hdg) t st, q⟩
theorem vx_invokeN {own C : String} {index maxL : Nat} {y : MethodName} {bytes : ByteArray} {ret : Option FieldType} (hexec : p.tables.exec = Jvm.exec) (hb : c.code = cc) (hown : s.vm.findClass own = some m.cls) (hlink : (Cond.methodLink own index y).before args s = true) (hinst : (Cond.instanceMethod y).before args s = true) (hcode : (Cond.code y bytes maxL ret).before args s = true) (hsel : (Cond.selects C y y).before args s = true)
    (hx : y.cls ≠ "java/lang/invoke/MethodHandle" ∧ y.cls ≠ "java/lang/invoke/VarHandle") {As : List Value} (hlen : (parseMethodDescriptor y.desc).map (fun d => d.parameters.length) = some As.length) (hdg : decode cc pc = .ok (.invokevirtual index, 3))
    (k : vx_NoteN p l e R s m args below meth c H locs cells slots Q (F0 m pc ls rest)) {st0 : List Value} (hst : st0 = As.reverse ++ .null :: rest) : W p l e R s m args below meth c H locs cells slots Q (F0 m pc ls st0) := by
  intro T hT X
  obtain ⟨r0, r, hn, hrm, hstR, hsigR⟩ := va_Decl.of hinst hcode
  obtain ⟨c2, r2, m2, q1, q2, q3, q4, kP, hkP, hkPi⟩ := Cond.selects_spec hsel
  cases hn.symm.trans q3
  have hl9 : As.length = r.sig.parameters.length := by
    rw [hsigR] at hlen
    exact (Option.some.inj hlen).symm
  obtain ⟨vm', X1, st1⟩ := X.invokevirtualNull hexec hown hlink hn hrm hstR hkP hkPi hx (g := F0 m pc ls st0) rfl (argsL := As) (rest := rest) hl9 hst (by rw [hb]; exact hdg)
  obtain ⟨t, st, q⟩ := k (T.setVm vm') hT X1
  exact ⟨t, st1 t st, q⟩
theorem vx_newarrayZ {atype : ArrayType} (hexec : p.tables.exec = Jvm.exec) (hb : c.code = cc) {n : Int32} (h0 : n < 0) (hdg : decode cc pc = .ok (.newarray atype, 2)) (k : ∀ tx : String, tx = toString n → vx_Note p l e R s m args below meth c H locs cells slots Q (F0 m pc ls rest) "java/lang/NegativeArraySizeException" tx) : W p l e R s m args below meth c H locs cells slots Q (F0 m pc ls (.int n :: rest)) := by
  intro T hT X
  obtain ⟨t, st, q⟩ := k _ rfl T hT X
  exact ⟨t, X.newarrayNegative hexec (g := F0 m pc ls (.int n :: rest)) rfl h0 (rest := rest) rfl (by rw [hb]; exact hdg) t st, q⟩
end
end VXM
/-! ===== END ===== -/

/-! ===== BEGIN a private method of a nest mate that may throw (follows va_callVN, va_callSN, va_runVN, va_runSN) ===== -/
section
variable {p : Program} {l : Launch} {e : Env} {R : Room} {s : State} {m : MethodId} {args : Array Value} {below : List Frame} {meth : Method} {c : Code} {H : Heap} {locs : List Loc} {cells slots : Nat}
variable {T : State}
theorem vx_callVN (X : Stand p l e R s m args below meth c T locs cells slots) (hexec : p.tables.exec = Jvm.exec) {own C : String} {index : Nat} {host : String} {y : MethodName} {bytes : ByteArray} {maxL : Nat} {ret : Option FieldType}
    (hown : s.vm.findClass own = some m.cls) (hlink : (Cond.methodLinkNest own index y host).before args s = true) (hinst : (Cond.instanceMethod y).before args s = true) (hsel : (Cond.selects C y y).before args s = true)
    (hcode : (Cond.code y bytes maxL ret).before args s = true) (hy : y.cls ≠ "java/lang/invoke/MethodHandle" ∧ y.cls ≠ "java/lang/invoke/VarHandle")
    {W : Nat} {Pre : Pt → Array Value → Prop} {Post : Pt → Array Value → Option Value → Pt → Prop} {PostX : Pt → Array Value → Addr → Pt → Prop} (hK : vx_Back l R p e below s args y 3 W Pre Post PostX)
    {b : Addr} {cellB : Cell} (hcell : T.heap[b]? = some cellB) (hobj : cellB.vm.isStatics = false) (hcls : s.vm.findClass C = some cellB.cls)
    {g : JFrame} (hg : g.method = m) (hsize : g.locals.size = c.maxLocals) {argsL rest : List Value} (hlen : ∀ sig, parseMethodDescriptor y.desc = some sig → argsL.length = sig.parameters.length)
    (hstack : g.stack = argsL.reverse ++ .ref b :: rest) (hW : 2 * g.monitorRoom + (rest.map fun v => v.category).sum ≤ W) (hdg : decode c.code g.pc = .ok (.invokevirtual index, 3))
    (hpre : ∀ vm₁, s.WarmedH vm₁ → Pre ⟨T.setVm vm₁, locs, cells, slots⟩ (Value.ref b :: argsL).toArray) :
    (∃ (v : Option Value) (vm₁ : Vm) (B : Pt), s.WarmedH vm₁ ∧ Stand p l e R s m args below meth c B.U B.locs B.cells B.slots ∧ Post ⟨T.setVm vm₁, locs, cells, slots⟩ (Value.ref b :: argsL).toArray v B ∧
      ∀ target, Steps p.tables e below (B.U.setTop { g with pc := g.pc + 3, stack := v.toList ++ rest }) target → Steps p.tables e below (T.setTop g) target) ∨
    (∃ (q : Addr) (vm₁ : Vm) (B : Pt), s.WarmedH vm₁ ∧ Stand p l e R s m args below meth c B.U B.locs B.cells B.slots ∧ PostX ⟨T.setVm vm₁, locs, cells, slots⟩ (Value.ref b :: argsL).toArray q B ∧
      Steps p.tables e below (T.setTop g) ((B.U.setTop { g with stack := rest }).pushFrame (.throwing q))) := by
  obtain ⟨mk, methM, hnamed, hmethM, hstM, habM⟩ := Cond.instanceMethod_spec hinst
  obtain ⟨methM', cM, hmethM', -, -, -, -, -, -, hsigM⟩ := Cond.code_spec hnamed hcode
  cases hmethM.symm.trans hmethM'
  obtain ⟨c2, r2, m2, q1, q2, q3, q4, kP, hkP, hkPi⟩ := Cond.selects_spec hsel
  cases hcls.symm.trans q1
  cases (State.methodFound?_of_named hnamed hy).symm.trans q2
  cases hnamed.symm.trans q3
  have hselP : selectMethod e.platform s.vm cellB.cls mk = .method mk := by rw [Launch.admits_selectMethod X.admits]; exact q4
  obtain ⟨vm₁, X₁, hstep₁⟩ := X.invokevirtualNest hexec hown hlink hnamed hmethM hstM hkP hkPi hy (a := b) (cell := cellB) hcell
    (fun z h => by rw [h] at hobj; cases hobj) hselP hmethM habM hkP hkPi (g := g) hg (argsL := argsL) (rest := rest) (hlen _ hsigM) hstack hdg
  rcases hK m meth c ⟨T.setVm vm₁, locs, cells, slots⟩ { g with stack := rest } (.invokevirtual index) mk (Value.ref b :: argsL).toArray X₁ hg hsize hdg hW (X₁.named hnamed) (hpre vm₁ X₁.warmed) with ⟨v, B, X', hpost, hsteps⟩ | ⟨q, B, X', hpost, hsteps⟩
  · exact Or.inl ⟨v, vm₁, B, X₁.warmed, X', hpost, fun target h => hstep₁ _ fun acts => by rw [doInvoke_state]; exact hsteps.trans h⟩
  · exact Or.inr ⟨q, vm₁, B, X₁.warmed, X', hpost, hstep₁ _ fun acts => by rw [doInvoke_state]; exact hsteps⟩
theorem vx_callSN (X : Stand p l e R s m args below meth c T locs cells slots) (hexec : p.tables.exec = Jvm.exec) {own : String} {index : Nat} {host : String} {y : MethodName} {bytes : ByteArray} {maxL : Nat} {ret : Option FieldType}
    (hown : s.vm.findClass own = some m.cls) (hlink : (Cond.methodLinkNest own index y host).before args s = true) (hstat : (Cond.static y).before args s = true) (hinit : (Cond.initialized y.cls).before args s = true)
    (hcode : (Cond.code y bytes maxL ret).before args s = true) (hy : y.cls ≠ "java/lang/invoke/MethodHandle" ∧ y.cls ≠ "java/lang/invoke/VarHandle")
    {W : Nat} {Pre : Pt → Array Value → Prop} {Post : Pt → Array Value → Option Value → Pt → Prop} {PostX : Pt → Array Value → Addr → Pt → Prop} (hK : vx_Back l R p e below s args y 3 W Pre Post PostX)
    {g : JFrame} (hg : g.method = m) (hsize : g.locals.size = c.maxLocals) {argsL rest : List Value} (hlen : ∀ sig, parseMethodDescriptor y.desc = some sig → argsL.length = sig.parameters.length)
    (hstack : g.stack = argsL.reverse ++ rest) (hW : 2 * g.monitorRoom + (rest.map fun v => v.category).sum ≤ W) (hdg : decode c.code g.pc = .ok (.invokestatic index, 3))
    (hpre : ∀ vm₁, s.WarmedH vm₁ → Pre ⟨T.setVm vm₁, locs, cells, slots⟩ argsL.toArray) :
    (∃ (v : Option Value) (vm₁ : Vm) (B : Pt), s.WarmedH vm₁ ∧ Stand p l e R s m args below meth c B.U B.locs B.cells B.slots ∧ Post ⟨T.setVm vm₁, locs, cells, slots⟩ argsL.toArray v B ∧
      ∀ target, Steps p.tables e below (B.U.setTop { g with pc := g.pc + 3, stack := v.toList ++ rest }) target → Steps p.tables e below (T.setTop g) target) ∨
    (∃ (q : Addr) (vm₁ : Vm) (B : Pt), s.WarmedH vm₁ ∧ Stand p l e R s m args below meth c B.U B.locs B.cells B.slots ∧ PostX ⟨T.setVm vm₁, locs, cells, slots⟩ argsL.toArray q B ∧
      Steps p.tables e below (T.setTop g) ((B.U.setTop { g with stack := rest }).pushFrame (.throwing q))) := by
  obtain ⟨mk, hnamed⟩ := Cond.code_named hcode
  obtain ⟨methM, cM, hmethM, -, -, -, -, -, -, hsigM⟩ := Cond.code_spec hnamed hcode
  have hstatic : methM.isStatic = true := Cond.static_spec hnamed hmethM hstat
  obtain ⟨kP, hkP, -⟩ := className_of_methodNamed hnamed
  have hinitP : kP.init = .initialized := Cond.initialized_spec (findClass_of_methodNamed hnamed) hkP hinit
  obtain ⟨vm₁, X₁, hstep₁⟩ := X.invokestaticNest hexec hown hlink hnamed hmethM hstatic hkP hinitP hy (g := g) hg (argsL := argsL) (rest := rest) (hlen _ hsigM) hstack hdg
  rcases hK m meth c ⟨T.setVm vm₁, locs, cells, slots⟩ { g with stack := rest } (.invokestatic index) mk argsL.toArray X₁ hg hsize hdg hW (X₁.named hnamed) (hpre vm₁ X₁.warmed) with ⟨v, B, X', hpost, hsteps⟩ | ⟨q, B, X', hpost, hsteps⟩
  · exact Or.inl ⟨v, vm₁, B, X₁.warmed, X', hpost, fun target h => hstep₁ _ fun acts => by rw [doInvoke_state]; exact hsteps.trans h⟩
  · exact Or.inr ⟨q, vm₁, B, X₁.warmed, X', hpost, hstep₁ _ fun acts => by rw [doInvoke_state]; exact hsteps⟩
theorem vx_runVN {y : MethodName} {bytes cc : ByteArray} {maxL nL mc ms n index : Nat} {ret : Option FieldType} {ws : List Cond} {rm : Room} {Pc : Array Value → State → Prop} {Qc : Array Value → State → Outcome → State → Prop} {XC : String → State → State → Prop} {free : Addr → Prop} {Ts : List Cond} {own C host : String} {b : Addr} {As rest : List Value} {g : JFrame}
    (S : CallFix p m c cc nL s args Ts own) (hM : vx_Met l y ws rm Pc Qc XC mc ms free) (cw : va_CN R s args own index y host bytes maxL ret ws rm mc ms n ∧ (Cond.instanceMethod y).before args s = true ∧ (Cond.selects C y y).before args s = true) (hp : PreV s H C b Pc As)
    (hg : g.method = m) (hn : As.length = n) (hsize : g.locals.size = nL) (hstack : g.stack = As.reverse ++ .ref b :: rest) (hW : 2 * g.monitorRoom + (rest.map fun v => v.category).sum ≤ 8) (hdg : decode cc g.pc = .ok (.invokevirtual index, 3)) (hf : cells + mc ≤ R.cells ∧ slots + ms ≤ R.slots) :
    vx_Run p l e R s m args below meth c H locs cells slots mc ms g rest (Qc (Value.ref b :: As).toArray) XC free := by
  obtain ⟨⟨⟨hrc, hrs, hfr, hlo, hws, hcw⟩, hcode, hini, hy, hlen, hl⟩, hx1, hx2⟩ := cw
  have hK : vx_Back l R p e below s args y 3 8 (PreOf R mc ms Pc) (PostOf Qc mc ms free) (vx_Post XC mc ms free) := vx_back (bytes := bytes) (maxL := maxL) (ret := ret) hM hp.1 hrc hrs hfr hlo hws hcw (fun a' U hW => word_at hW (Or.inl (by first | rfl | simp [Cond.onTables, Cond.keeps, Cond.steady])) hini)
  obtain ⟨hx, hb, hml, ho, -⟩ := S
  obtain ⟨-, ⟨cellB, hcB, hoB, hclB⟩, hPc⟩ := hp
  intro T hT X
  rcases vx_callVN X hx (C := C) (bytes := bytes) (maxL := maxL) (ret := ret) ho hl hx1 hx2 hcode hy hK (by rw [hT]; exact hcB) hoB hclB hg (hsize.trans hml.symm) (argsL := As) (rest := rest) (fun sig h => hn.trans (hlen sig h)) hstack hW (by rw [hb]; exact hdg)
    (fun vm₁ hW₁ => ⟨hf.1, hf.2, hPc (T.setVm vm₁) hT hW₁⟩) with ⟨v, vm₁, ⟨U', l2, c2, s2⟩, hW₁, X', ⟨g', mk, t, L, e1, e2, hq, h1, hL, h2, h3⟩, st⟩ | ⟨q, vm₁, ⟨U', l2, c2, s2⟩, hW₁, X', ⟨g', mk, t, L, E, ce, e1, e2, hq, hce, hcv, hcl, h1, hL, h2, h3⟩, st⟩
  · dsimp only [Pt.U, Pt.locs, Pt.cells, Pt.slots] at X' e1 e2 h1 h2 h3 st
    subst h1; subst h2; subst h3
    exact Or.inl ⟨v, (T.setVm vm₁).calling g' mk (Value.ref b :: As).toArray, t, U', L, hT, X', hL, e1, e2, hq, st⟩
  · dsimp only [Pt.U, Pt.locs, Pt.cells, Pt.slots] at X' e1 e2 h1 h2 h3 st hcl
    subst h1; subst h2; subst h3
    exact Or.inr ⟨q, (T.setVm vm₁).calling g' mk (Value.ref b :: As).toArray, t, U', L, E, ce, hT, X', hL, e1, e2, hq, hce, hcv, vx_cls hW₁ hcl, st⟩
theorem vx_runSN {y : MethodName} {bytes cc : ByteArray} {maxL nL mc ms n index : Nat} {ret : Option FieldType} {ws : List Cond} {rm : Room} {Pc : Array Value → State → Prop} {Qc : Array Value → State → Outcome → State → Prop} {XC : String → State → State → Prop} {free : Addr → Prop} {Ts : List Cond} {own host : String} {As rest : List Value} {g : JFrame}
    (S : CallFix p m c cc nL s args Ts own) (hM : vx_Met l y ws rm Pc Qc XC mc ms free) (cw : va_CN R s args own index y host bytes maxL ret ws rm mc ms n ∧ (Cond.static y).before args s = true ∧ True) (hp : PreS s H Pc As)
    (hg : g.method = m) (hn : As.length = n) (hsize : g.locals.size = nL) (hstack : g.stack = As.reverse ++ rest) (hW : 2 * g.monitorRoom + (rest.map fun v => v.category).sum ≤ 8) (hdg : decode cc g.pc = .ok (.invokestatic index, 3)) (hf : cells + mc ≤ R.cells ∧ slots + ms ≤ R.slots) :
    vx_Run p l e R s m args below meth c H locs cells slots mc ms g rest (Qc As.toArray) XC free := by
  obtain ⟨⟨⟨hrc, hrs, hfr, hlo, hws, hcw⟩, hcode, hini, hy, hlen, hl⟩, hx1, hx2⟩ := cw
  have hK : vx_Back l R p e below s args y 3 8 (PreOf R mc ms Pc) (PostOf Qc mc ms free) (vx_Post XC mc ms free) := vx_back (bytes := bytes) (maxL := maxL) (ret := ret) hM hp.1 hrc hrs hfr hlo hws hcw (fun a' U hW => word_at hW (Or.inl (by first | rfl | simp [Cond.onTables, Cond.keeps, Cond.steady])) hini)
  obtain ⟨hx, hb, hml, ho, -⟩ := S
  have hPc := hp.2
  intro T hT X
  rcases vx_callSN X hx (bytes := bytes) (maxL := maxL) (ret := ret) ho hl hx1 hini hcode hy hK hg (hsize.trans hml.symm) (argsL := As) (rest := rest) (fun sig h => hn.trans (hlen sig h)) hstack hW (by rw [hb]; exact hdg)
    (fun vm₁ hW₁ => ⟨hf.1, hf.2, hPc (T.setVm vm₁) hT hW₁⟩) with ⟨v, vm₁, ⟨U', l2, c2, s2⟩, hW₁, X', ⟨g', mk, t, L, e1, e2, hq, h1, hL, h2, h3⟩, st⟩ | ⟨q, vm₁, ⟨U', l2, c2, s2⟩, hW₁, X', ⟨g', mk, t, L, E, ce, e1, e2, hq, hce, hcv, hcl, h1, hL, h2, h3⟩, st⟩
  · dsimp only [Pt.U, Pt.locs, Pt.cells, Pt.slots] at X' e1 e2 h1 h2 h3 st
    subst h1; subst h2; subst h3
    exact Or.inl ⟨v, (T.setVm vm₁).calling g' mk As.toArray, t, U', L, hT, X', hL, e1, e2, hq, st⟩
  · dsimp only [Pt.U, Pt.locs, Pt.cells, Pt.slots] at X' e1 e2 h1 h2 h3 st hcl
    subst h1; subst h2; subst h3
    exact Or.inr ⟨q, (T.setVm vm₁).calling g' mk As.toArray, t, U', L, E, ce, hT, X', hL, e1, e2, hq, hce, hcv, vx_cls hW₁ hcl, st⟩
end
end
section
/-! names, printed by the kit's program, cut by wip/whole/cut_names.py -/
def RX0 : String := "Layerwell$Row"
def TX0 : u_T := fun k => match k with
  | 0 => ("Layerwell$Row", "bytes", "[I", true)
  | _ => ("Layerwell$Row", "count", "I", false)
def tyX0 : Nat → FieldType := fun k => match k with
  | 0 => .array .int
  | _ => .int
abbrev wsX00 : List Cond := u_ws RX0 TX0 2
theorem nmX0 : ∀ a, a < 2 → ∀ b, b < 2 → a ≠ b → (TX0 a).2.1 ≠ (TX0 b).2.1 := by decide +kernel
theorem tyX0_ok : ∀ k, k < 2 → parseFieldDescriptor (TX0 k).2.2.1 = some (tyX0 k) := by decide +kernel
abbrev cX0_init : ByteArray := prog_2_method_1_code
def yX0_init : MethodName := ⟨RX0, "<init>", "()V"⟩
abbrev cX0_size : ByteArray := prog_2_method_2_code
def yX0_size : MethodName := ⟨RX0, "size", "()I"⟩
abbrev cX0_at : ByteArray := prog_2_method_3_code
def yX0_at : MethodName := ⟨RX0, "at", "(I)I"⟩
abbrev cX0_put : ByteArray := prog_2_method_4_code
def yX0_put : MethodName := ⟨RX0, "put", "(I)V"⟩
abbrev cX0_takeLast : ByteArray := prog_2_method_5_code
def yX0_takeLast : MethodName := ⟨RX0, "takeLast", "()I"⟩
abbrev cX0_makeEmpty : ByteArray := prog_2_method_6_code
def yX0_makeEmpty : MethodName := ⟨RX0, "makeEmpty", "()V"⟩
abbrev cX0_putAll : ByteArray := prog_2_method_7_code
def yX0_putAll : MethodName := ⟨RX0, "putAll", "(LLayerwell$Row;)V"⟩
abbrev cX0_putLined : ByteArray := prog_2_method_8_code
def yX0_putLined : MethodName := ⟨RX0, "putLined", "(LLayerwell$Row;I)V"⟩
abbrev cX0_countEnds : ByteArray := prog_2_method_9_code
def yX0_countEnds : MethodName := ⟨RX0, "countEnds", "()I"⟩
abbrev cX0_lined : ByteArray := prog_2_method_10_code
def yX0_lined : MethodName := ⟨RX0, "lined", "(II)I"⟩
def RX1 : String := "Layerwell$Stream"
def TX1 : u_T := fun k => match k with
  | 0 => ("Layerwell$Stream", "out", "LLayerwell$Row;", true)
  | 1 => ("Layerwell$Stream", "kind", "I", false)
  | 2 => ("Layerwell$Stream", "seam", "I", false)
  | 3 => ("Layerwell$Stream", "place", "I", false)
  | 4 => ("Layerwell$Stream", "lineNumber", "I", false)
  | 5 => ("Layerwell$Stream", "register", "J", false)
  | 6 => ("Layerwell$Stream", "markPlace", "I", false)
  | _ => ("Layerwell$Stream", "markLine", "I", false)
def tyX1 : Nat → FieldType := fun k => match k with
  | 0 => .object "Layerwell$Row"
  | 1 => .int
  | 2 => .int
  | 3 => .int
  | 4 => .int
  | 5 => .long
  | 6 => .int
  | _ => .int
abbrev wsX10 : List Cond := u_ws RX1 TX1 8
theorem nmX1 : ∀ a, a < 8 → ∀ b, b < 8 → a ≠ b → (TX1 a).2.1 ≠ (TX1 b).2.1 := by decide +kernel
theorem tyX1_ok : ∀ k, k < 8 → parseFieldDescriptor (TX1 k).2.2.1 = some (tyX1 k) := by decide +kernel
abbrev cX1_init : ByteArray := prog_3_method_1_code
def yX1_init : MethodName := ⟨RX1, "<init>", "()V"⟩
abbrev cX1_begin : ByteArray := prog_3_method_2_code
def yX1_begin : MethodName := ⟨RX1, "begin", "(ILLayerwell$Row;LLayerwell$Row;)V"⟩
abbrev cX1_fillOut : ByteArray := prog_3_method_3_code
def yX1_fillOut : MethodName := ⟨RX1, "fillOut", "(LLayerwell$Row;LLayerwell$Row;)V"⟩
abbrev cX1_rest : ByteArray := prog_3_method_4_code
def yX1_rest : MethodName := ⟨RX1, "rest", "()I"⟩
abbrev cX1_restOfLine : ByteArray := prog_3_method_5_code
def yX1_restOfLine : MethodName := ⟨RX1, "restOfLine", "()I"⟩
abbrev cX1_next : ByteArray := prog_3_method_6_code
def yX1_next : MethodName := ⟨RX1, "next", "()I"⟩
abbrev cX1_pass : ByteArray := prog_3_method_7_code
def yX1_pass : MethodName := ⟨RX1, "pass", "(I)I"⟩
abbrev cX1_takePart : ByteArray := prog_3_method_8_code
def yX1_takePart : MethodName := ⟨RX1, "takePart", "(ILLayerwell$Row;)I"⟩
abbrev cX1_move : ByteArray := prog_3_method_9_code
def yX1_move : MethodName := ⟨RX1, "move", "(ILLayerwell$Row;)V"⟩
abbrev cX1_setMark : ByteArray := prog_3_method_10_code
def yX1_setMark : MethodName := ⟨RX1, "setMark", "()V"⟩
abbrev cX1_goBack : ByteArray := prog_3_method_11_code
def yX1_goBack : MethodName := ⟨RX1, "goBack", "()V"⟩
abbrev cX1_shownLine : ByteArray := prog_3_method_12_code
def yX1_shownLine : MethodName := ⟨RX1, "shownLine", "()I"⟩
abbrev cX1_checkNow : ByteArray := prog_3_method_13_code
def yX1_checkNow : MethodName := ⟨RX1, "checkNow", "()J"⟩
def RX2 : String := "Layerwell$Trial"
def TX2 : u_T := fun k => match k with
  | 0 => ("Layerwell$Trial", "stream", "LLayerwell$Stream;", true)
  | 1 => ("Layerwell$Trial", "due", "LLayerwell$Row;", true)
  | 2 => ("Layerwell$Trial", "part", "LLayerwell$Row;", true)
  | 3 => ("Layerwell$Trial", "place", "I", false)
  | 4 => ("Layerwell$Trial", "lineNumber", "I", false)
  | _ => ("Layerwell$Trial", "register", "J", false)
def tyX2 : Nat → FieldType := fun k => match k with
  | 0 => .object "Layerwell$Stream"
  | 1 => .object "Layerwell$Row"
  | 2 => .object "Layerwell$Row"
  | 3 => .int
  | 4 => .int
  | _ => .long
abbrev wsX20 : List Cond := u_ws RX2 TX2 6
theorem nmX2 : ∀ a, a < 6 → ∀ b, b < 6 → a ≠ b → (TX2 a).2.1 ≠ (TX2 b).2.1 := by decide +kernel
theorem tyX2_ok : ∀ k, k < 6 → parseFieldDescriptor (TX2 k).2.2.1 = some (tyX2 k) := by decide +kernel
abbrev cX2_init : ByteArray := prog_4_method_1_code
def yX2_init : MethodName := ⟨RX2, "<init>", "()V"⟩
abbrev cX2_holds : ByteArray := prog_4_method_2_code
def yX2_holds : MethodName := ⟨RX2, "holds", "(ILLayerwell$Row;LLayerwell$Row;)Z"⟩
abbrev cX2_fillDue : ByteArray := prog_4_method_3_code
def yX2_fillDue : MethodName := ⟨RX2, "fillDue", "(ILLayerwell$Row;LLayerwell$Row;)V"⟩
abbrev cX2_putDue : ByteArray := prog_4_method_4_code
def yX2_putDue : MethodName := ⟨RX2, "putDue", "(LLayerwell$Row;LLayerwell$Row;IIZ)V"⟩
abbrev cX2_joinedAt : ByteArray := prog_4_method_5_code
def yX2_joinedAt : MethodName := ⟨RX2, "joinedAt", "(LLayerwell$Row;LLayerwell$Row;I)I"⟩
abbrev cX2_holdsByBytes : ByteArray := prog_4_method_6_code
def yX2_holdsByBytes : MethodName := ⟨RX2, "holdsByBytes", "(ILLayerwell$Row;LLayerwell$Row;)Z"⟩
abbrev cX2_holdsInParts : ByteArray := prog_4_method_7_code
def yX2_holdsInParts : MethodName := ⟨RX2, "holdsInParts", "(ILLayerwell$Row;LLayerwell$Row;)Z"⟩
abbrev cX2_holdsBehindSkip : ByteArray := prog_4_method_8_code
def yX2_holdsBehindSkip : MethodName := ⟨RX2, "holdsBehindSkip", "(ILLayerwell$Row;LLayerwell$Row;)Z"⟩
abbrev cX2_holdsBroughtBack : ByteArray := prog_4_method_9_code
def yX2_holdsBroughtBack : MethodName := ⟨RX2, "holdsBroughtBack", "(ILLayerwell$Row;LLayerwell$Row;)Z"⟩
abbrev cX2_start : ByteArray := prog_4_method_10_code
def yX2_start : MethodName := ⟨RX2, "start", "(ILLayerwell$Row;LLayerwell$Row;)V"⟩
abbrev cX2_skipsThird : ByteArray := prog_4_method_11_code
def yX2_skipsThird : MethodName := ⟨RX2, "skipsThird", "()Z"⟩
abbrev cX2_readsRest : ByteArray := prog_4_method_12_code
def yX2_readsRest : MethodName := ⟨RX2, "readsRest", "()Z"⟩
abbrev cX2_partIsDue : ByteArray := prog_4_method_13_code
def yX2_partIsDue : MethodName := ⟨RX2, "partIsDue", "()Z"⟩
abbrev cX2_nextDue : ByteArray := prog_4_method_14_code
def yX2_nextDue : MethodName := ⟨RX2, "nextDue", "()I"⟩
abbrev cX2_figuresAreDue : ByteArray := prog_4_method_15_code
def yX2_figuresAreDue : MethodName := ⟨RX2, "figuresAreDue", "()Z"⟩
def RX3 : String := "Layerwell"
def TX3 : u_T := fun k => match k with
  | 0 => ("Layerwell", "sources", "[LLayerwell$Row;", true)
  | 1 => ("Layerwell", "streams", "[LLayerwell$Stream;", true)
  | 2 => ("Layerwell", "part", "LLayerwell$Row;", true)
  | _ => ("Layerwell", "trial", "LLayerwell$Trial;", true)
def tyX3 : Nat → FieldType := fun k => match k with
  | 0 => .array (.object "Layerwell$Row")
  | 1 => .array (.object "Layerwell$Stream")
  | 2 => .object "Layerwell$Row"
  | _ => .object "Layerwell$Trial"
abbrev wsX30 : List Cond := u_ws RX3 TX3 4
theorem nmX3 : ∀ a, a < 4 → ∀ b, b < 4 → a ≠ b → (TX3 a).2.1 ≠ (TX3 b).2.1 := by decide +kernel
theorem tyX3_ok : ∀ k, k < 4 → parseFieldDescriptor (TX3 k).2.2.1 = some (tyX3 k) := by decide +kernel
abbrev cX3_init : ByteArray := prog_1_method_1_code
def yX3_init : MethodName := ⟨RX3, "<init>", "()V"⟩
abbrev cX3_type : ByteArray := prog_1_method_2_code
def yX3_type : MethodName := ⟨RX3, "type", "(II)I"⟩
abbrev cX3_typeMany : ByteArray := prog_1_method_3_code
def yX3_typeMany : MethodName := ⟨RX3, "typeMany", "(III)I"⟩
abbrev cX3_cut : ByteArray := prog_1_method_4_code
def yX3_cut : MethodName := ⟨RX3, "cut", "(I)I"⟩
abbrev cX3_clear : ByteArray := prog_1_method_5_code
def yX3_clear : MethodName := ⟨RX3, "clear", "(I)I"⟩
abbrev cX3_length : ByteArray := prog_1_method_6_code
def yX3_length : MethodName := ⟨RX3, "length", "(I)I"⟩
abbrev cX3_byteAt : ByteArray := prog_1_method_7_code
def yX3_byteAt : MethodName := ⟨RX3, "byteAt", "(II)I"⟩
abbrev cX3_ends : ByteArray := prog_1_method_8_code
def yX3_ends : MethodName := ⟨RX3, "ends", "(I)I"⟩
abbrev cX3_open : ByteArray := prog_1_method_9_code
def yX3_open : MethodName := ⟨RX3, "open", "(IIII)I"⟩
abbrev cX3_kind : ByteArray := prog_1_method_10_code
def yX3_kind : MethodName := ⟨RX3, "kind", "(I)I"⟩
abbrev cX3_read : ByteArray := prog_1_method_11_code
def yX3_read : MethodName := ⟨RX3, "read", "(I)I"⟩
abbrev cX3_readPart : ByteArray := prog_1_method_12_code
def yX3_readPart : MethodName := ⟨RX3, "readPart", "(II)I"⟩
abbrev cX3_partLength : ByteArray := prog_1_method_13_code
def yX3_partLength : MethodName := ⟨RX3, "partLength", "()I"⟩
abbrev cX3_partAt : ByteArray := prog_1_method_14_code
def yX3_partAt : MethodName := ⟨RX3, "partAt", "(I)I"⟩
abbrev cX3_skip : ByteArray := prog_1_method_15_code
def yX3_skip : MethodName := ⟨RX3, "skip", "(II)I"⟩
abbrev cX3_readLine : ByteArray := prog_1_method_16_code
def yX3_readLine : MethodName := ⟨RX3, "readLine", "(II)I"⟩
abbrev cX3_pour : ByteArray := prog_1_method_17_code
def yX3_pour : MethodName := ⟨RX3, "pour", "(II)I"⟩
abbrev cX3_alike : ByteArray := prog_1_method_18_code
def yX3_alike : MethodName := ⟨RX3, "alike", "(II)I"⟩
abbrev cX3_canMark : ByteArray := prog_1_method_19_code
def yX3_canMark : MethodName := ⟨RX3, "canMark", "(I)Z"⟩
abbrev cX3_mark : ByteArray := prog_1_method_20_code
def yX3_mark : MethodName := ⟨RX3, "mark", "(I)I"⟩
abbrev cX3_back : ByteArray := prog_1_method_21_code
def yX3_back : MethodName := ⟨RX3, "back", "(I)I"⟩
abbrev cX3_left : ByteArray := prog_1_method_22_code
def yX3_left : MethodName := ⟨RX3, "left", "(I)I"⟩
abbrev cX3_line : ByteArray := prog_1_method_23_code
def yX3_line : MethodName := ⟨RX3, "line", "(I)I"⟩
abbrev cX3_setLine : ByteArray := prog_1_method_24_code
def yX3_setLine : MethodName := ⟨RX3, "setLine", "(II)I"⟩
abbrev cX3_check : ByteArray := prog_1_method_25_code
def yX3_check : MethodName := ⟨RX3, "check", "(I)J"⟩
abbrev cX3_checkAnew : ByteArray := prog_1_method_26_code
def yX3_checkAnew : MethodName := ⟨RX3, "checkAnew", "(I)J"⟩
abbrev cX3_checkOf : ByteArray := prog_1_method_27_code
def yX3_checkOf : MethodName := ⟨RX3, "checkOf", "(I)J"⟩
abbrev cX3_share : ByteArray := prog_1_method_28_code
def yX3_share : MethodName := ⟨RX3, "share", "(I)F"⟩
abbrev cX3_meanLine : ByteArray := prog_1_method_29_code
def yX3_meanLine : MethodName := ⟨RX3, "meanLine", "()D"⟩
abbrev cX3_checksum : ByteArray := prog_1_method_30_code
def yX3_checksum : MethodName := ⟨RX3, "checksum", "()J"⟩
abbrev cX3_isTrue : ByteArray := prog_1_method_31_code
def yX3_isTrue : MethodName := ⟨RX3, "isTrue", "()Z"⟩
abbrev cX3_sourceAt : ByteArray := prog_1_method_32_code
def yX3_sourceAt : MethodName := ⟨RX3, "sourceAt", "(I)LLayerwell$Row;"⟩
abbrev cX3_streamAt : ByteArray := prog_1_method_33_code
def yX3_streamAt : MethodName := ⟨RX3, "streamAt", "(I)LLayerwell$Stream;"⟩
abbrev cX3_openStreamAt : ByteArray := prog_1_method_34_code
def yX3_openStreamAt : MethodName := ⟨RX3, "openStreamAt", "(I)LLayerwell$Stream;"⟩
abbrev cX3_requireOpen : ByteArray := prog_1_method_35_code
def yX3_requireOpen : MethodName := ⟨RX3, "requireOpen", "(LLayerwell$Stream;)V"⟩
abbrev cX3_require : ByteArray := prog_1_method_36_code
def yX3_require : MethodName := ⟨RX3, "require", "(Z)V"⟩
abbrev cX3_requireByte : ByteArray := prog_1_method_37_code
def yX3_requireByte : MethodName := ⟨RX3, "requireByte", "(I)V"⟩
abbrev cX3_requireBetween : ByteArray := prog_1_method_38_code
def yX3_requireBetween : MethodName := ⟨RX3, "requireBetween", "(III)V"⟩
abbrev cX3_requireRoom : ByteArray := prog_1_method_39_code
def yX3_requireRoom : MethodName := ⟨RX3, "requireRoom", "(I)V"⟩
abbrev cX3_requirePlace : ByteArray := prog_1_method_40_code
def yX3_requirePlace : MethodName := ⟨RX3, "requirePlace", "(LLayerwell$Row;I)V"⟩
abbrev cX3_hasTwoSources : ByteArray := prog_1_method_41_code
def yX3_hasTwoSources : MethodName := ⟨RX3, "hasTwoSources", "(I)Z"⟩
abbrev cX3_hasLine : ByteArray := prog_1_method_42_code
def yX3_hasLine : MethodName := ⟨RX3, "hasLine", "(I)Z"⟩
abbrev cX3_hasCheck : ByteArray := prog_1_method_43_code
def yX3_hasCheck : MethodName := ⟨RX3, "hasCheck", "(I)Z"⟩
abbrev cX3_isLined : ByteArray := prog_1_method_44_code
def yX3_isLined : MethodName := ⟨RX3, "isLined", "(I)Z"⟩
abbrev cX3_canBeMarked : ByteArray := prog_1_method_45_code
def yX3_canBeMarked : MethodName := ⟨RX3, "canBeMarked", "(I)Z"⟩
abbrev cX3_goesBackUnmarked : ByteArray := prog_1_method_46_code
def yX3_goesBackUnmarked : MethodName := ⟨RX3, "goesBackUnmarked", "(I)Z"⟩
abbrev cX3_tellsRest : ByteArray := prog_1_method_47_code
def yX3_tellsRest : MethodName := ⟨RX3, "tellsRest", "(I)Z"⟩
abbrev cX3_countAlike : ByteArray := prog_1_method_48_code
def yX3_countAlike : MethodName := ⟨RX3, "countAlike", "(LLayerwell$Stream;LLayerwell$Stream;)I"⟩
abbrev cX3_withByte : ByteArray := prog_1_method_49_code
def yX3_withByte : MethodName := ⟨RX3, "withByte", "(JI)J"⟩
abbrev cX3_withRow : ByteArray := prog_1_method_50_code
def yX3_withRow : MethodName := ⟨RX3, "withRow", "(JLLayerwell$Row;)J"⟩
abbrev cX3_withStream : ByteArray := prog_1_method_51_code
def yX3_withStream : MethodName := ⟨RX3, "withStream", "(JLLayerwell$Stream;)J"⟩
abbrev cX3_longestSource : ByteArray := prog_1_method_52_code
def yX3_longestSource : MethodName := ⟨RX3, "longestSource", "()I"⟩
def RX4 : String := "LayerwellModel"
def TX4 : u_T := fun k => match k with
  | 0 => ("LayerwellModel", "thrown", "I", false)
  | 1 => ("LayerwellModel", "sources", "[I", true)
  | 2 => ("LayerwellModel", "lengths", "[I", true)
  | 3 => ("LayerwellModel", "part", "[I", true)
  | 4 => ("LayerwellModel", "parted", "I", false)
  | 5 => ("LayerwellModel", "kinds", "[I", true)
  | 6 => ("LayerwellModel", "outs", "[I", true)
  | 7 => ("LayerwellModel", "sizes", "[I", true)
  | 8 => ("LayerwellModel", "firsts", "[I", true)
  | 9 => ("LayerwellModel", "places", "[I", true)
  | 10 => ("LayerwellModel", "lines", "[I", true)
  | 11 => ("LayerwellModel", "checks", "[J", true)
  | 12 => ("LayerwellModel", "marked", "[Z", true)
  | 13 => ("LayerwellModel", "markPlaces", "[I", true)
  | _ => ("LayerwellModel", "markLines", "[I", true)
def tyX4 : Nat → FieldType := fun k => match k with
  | 0 => .int
  | 1 => .array .int
  | 2 => .array .int
  | 3 => .array .int
  | 4 => .int
  | 5 => .array .int
  | 6 => .array .int
  | 7 => .array .int
  | 8 => .array .int
  | 9 => .array .int
  | 10 => .array .int
  | 11 => .array .long
  | 12 => .array .boolean
  | 13 => .array .int
  | _ => .array .int
abbrev wsX40 : List Cond := u_ws RX4 TX4 15
theorem nmX4 : ∀ a, a < 15 → ∀ b, b < 15 → a ≠ b → (TX4 a).2.1 ≠ (TX4 b).2.1 := by decide +kernel
theorem tyX4_ok : ∀ k, k < 15 → parseFieldDescriptor (TX4 k).2.2.1 = some (tyX4 k) := by decide +kernel
abbrev cX4_init : ByteArray := prog_6_method_1_code
def yX4_init : MethodName := ⟨RX4, "<init>", "()V"⟩
abbrev cX4_thrown : ByteArray := prog_6_method_2_code
def yX4_thrown : MethodName := ⟨RX4, "thrown", "()I"⟩
abbrev cX4_isThrown : ByteArray := prog_6_method_3_code
def yX4_isThrown : MethodName := ⟨RX4, "isThrown", "(ZI)Z"⟩
abbrev cX4_lies : ByteArray := prog_6_method_4_code
def yX4_lies : MethodName := ⟨RX4, "lies", "(III)Z"⟩
abbrev cX4_isNo : ByteArray := prog_6_method_5_code
def yX4_isNo : MethodName := ⟨RX4, "isNo", "(I)Z"⟩
abbrev cX4_isShut : ByteArray := prog_6_method_6_code
def yX4_isShut : MethodName := ⟨RX4, "isShut", "(II)Z"⟩
abbrev cX4_hasLine : ByteArray := prog_6_method_7_code
def yX4_hasLine : MethodName := ⟨RX4, "hasLine", "(I)Z"⟩
abbrev cX4_hasCheck : ByteArray := prog_6_method_8_code
def yX4_hasCheck : MethodName := ⟨RX4, "hasCheck", "(I)Z"⟩
abbrev cX4_canGoBack : ByteArray := prog_6_method_9_code
def yX4_canGoBack : MethodName := ⟨RX4, "canGoBack", "(I)Z"⟩
abbrev cX4_isOfTwo : ByteArray := prog_6_method_10_code
def yX4_isOfTwo : MethodName := ⟨RX4, "isOfTwo", "(I)Z"⟩
abbrev cX4_at : ByteArray := prog_6_method_11_code
def yX4_at : MethodName := ⟨RX4, "at", "(II)I"⟩
abbrev cX4_adds : ByteArray := prog_6_method_12_code
def yX4_adds : MethodName := ⟨RX4, "adds", "(II)V"⟩
abbrev cX4_type : ByteArray := prog_6_method_13_code
def yX4_type : MethodName := ⟨RX4, "type", "(II)I"⟩
abbrev cX4_typeMany : ByteArray := prog_6_method_14_code
def yX4_typeMany : MethodName := ⟨RX4, "typeMany", "(III)I"⟩
abbrev cX4_cut : ByteArray := prog_6_method_15_code
def yX4_cut : MethodName := ⟨RX4, "cut", "(I)I"⟩
abbrev cX4_clear : ByteArray := prog_6_method_16_code
def yX4_clear : MethodName := ⟨RX4, "clear", "(I)I"⟩
abbrev cX4_length : ByteArray := prog_6_method_17_code
def yX4_length : MethodName := ⟨RX4, "length", "(I)I"⟩
abbrev cX4_byteAt : ByteArray := prog_6_method_18_code
def yX4_byteAt : MethodName := ⟨RX4, "byteAt", "(II)I"⟩
abbrev cX4_endsOf : ByteArray := prog_6_method_19_code
def yX4_endsOf : MethodName := ⟨RX4, "endsOf", "(I)I"⟩
abbrev cX4_ends : ByteArray := prog_6_method_20_code
def yX4_ends : MethodName := ⟨RX4, "ends", "(I)I"⟩
abbrev cX4_comes : ByteArray := prog_6_method_21_code
def yX4_comes : MethodName := ⟨RX4, "comes", "(II)V"⟩
abbrev cX4_goesIn : ByteArray := prog_6_method_22_code
def yX4_goesIn : MethodName := ⟨RX4, "goesIn", "(IIZI)I"⟩
abbrev cX4_open : ByteArray := prog_6_method_23_code
def yX4_open : MethodName := ⟨RX4, "open", "(IIII)I"⟩
abbrev cX4_kind : ByteArray := prog_6_method_24_code
def yX4_kind : MethodName := ⟨RX4, "kind", "(I)I"⟩
abbrev cX4_mixed : ByteArray := prog_6_method_25_code
def yX4_mixed : MethodName := ⟨RX4, "mixed", "(JI)J"⟩
abbrev cX4_leftOf : ByteArray := prog_6_method_26_code
def yX4_leftOf : MethodName := ⟨RX4, "leftOf", "(I)I"⟩
abbrev cX4_outAt : ByteArray := prog_6_method_27_code
def yX4_outAt : MethodName := ⟨RX4, "outAt", "(II)I"⟩
abbrev cX4_passes : ByteArray := prog_6_method_28_code
def yX4_passes : MethodName := ⟨RX4, "passes", "(I)I"⟩
abbrev cX4_read : ByteArray := prog_6_method_29_code
def yX4_read : MethodName := ⟨RX4, "read", "(I)I"⟩
abbrev cX4_readPart : ByteArray := prog_6_method_30_code
def yX4_readPart : MethodName := ⟨RX4, "readPart", "(II)I"⟩
abbrev cX4_partLength : ByteArray := prog_6_method_31_code
def yX4_partLength : MethodName := ⟨RX4, "partLength", "()I"⟩
abbrev cX4_partAt : ByteArray := prog_6_method_32_code
def yX4_partAt : MethodName := ⟨RX4, "partAt", "(I)I"⟩
abbrev cX4_skip : ByteArray := prog_6_method_33_code
def yX4_skip : MethodName := ⟨RX4, "skip", "(II)I"⟩
abbrev cX4_readLine : ByteArray := prog_6_method_34_code
def yX4_readLine : MethodName := ⟨RX4, "readLine", "(II)I"⟩
abbrev cX4_pour : ByteArray := prog_6_method_35_code
def yX4_pour : MethodName := ⟨RX4, "pour", "(II)I"⟩
abbrev cX4_alike : ByteArray := prog_6_method_36_code
def yX4_alike : MethodName := ⟨RX4, "alike", "(II)I"⟩
abbrev cX4_canMark : ByteArray := prog_6_method_37_code
def yX4_canMark : MethodName := ⟨RX4, "canMark", "(I)Z"⟩
abbrev cX4_lineOf : ByteArray := prog_6_method_38_code
def yX4_lineOf : MethodName := ⟨RX4, "lineOf", "(I)I"⟩
abbrev cX4_mark : ByteArray := prog_6_method_39_code
def yX4_mark : MethodName := ⟨RX4, "mark", "(I)I"⟩
abbrev cX4_back : ByteArray := prog_6_method_40_code
def yX4_back : MethodName := ⟨RX4, "back", "(I)I"⟩
abbrev cX4_left : ByteArray := prog_6_method_41_code
def yX4_left : MethodName := ⟨RX4, "left", "(I)I"⟩
abbrev cX4_line : ByteArray := prog_6_method_42_code
def yX4_line : MethodName := ⟨RX4, "line", "(I)I"⟩
abbrev cX4_setLine : ByteArray := prog_6_method_43_code
def yX4_setLine : MethodName := ⟨RX4, "setLine", "(II)I"⟩
abbrev cX4_check : ByteArray := prog_6_method_44_code
def yX4_check : MethodName := ⟨RX4, "check", "(I)J"⟩
abbrev cX4_checkAnew : ByteArray := prog_6_method_45_code
def yX4_checkAnew : MethodName := ⟨RX4, "checkAnew", "(I)J"⟩
abbrev cX4_checkOf : ByteArray := prog_6_method_46_code
def yX4_checkOf : MethodName := ⟨RX4, "checkOf", "(I)J"⟩
abbrev cX4_share : ByteArray := prog_6_method_47_code
def yX4_share : MethodName := ⟨RX4, "share", "(I)F"⟩
abbrev cX4_meanLine : ByteArray := prog_6_method_48_code
def yX4_meanLine : MethodName := ⟨RX4, "meanLine", "()D"⟩
abbrev cX4_checksum : ByteArray := prog_6_method_49_code
def yX4_checksum : MethodName := ⟨RX4, "checksum", "()J"⟩
abbrev cX4_isTrue : ByteArray := prog_6_method_50_code
def yX4_isTrue : MethodName := ⟨RX4, "isTrue", "()Z"⟩
def RJx145de : String := "java/io/Serializable"
def TJx145de : u_T := fun k => match k with
  | _ => ("", "", "", false)
def tyJx145de : Nat → FieldType := fun k => match k with
  | _ => .int
abbrev wsJx145de0 : List Cond := u_ws RJx145de TJx145de 0
theorem nmJx145de : ∀ a, a < 0 → ∀ b, b < 0 → a ≠ b → (TJx145de a).2.1 ≠ (TJx145de b).2.1 := by decide +kernel
theorem tyJx145de_ok : ∀ k, k < 0 → parseFieldDescriptor (TJx145de k).2.2.1 = some (tyJx145de k) := by decide +kernel
def RJx00060 : String := "java/lang/ArrayIndexOutOfBoundsException"
def TJx00060 : u_T := fun k => match k with
  | 0 => ("java/lang/Throwable", "backtrace", "Ljava/lang/Object;", false)
  | 1 => ("java/lang/Throwable", "detailMessage", "Ljava/lang/String;", false)
  | 2 => ("java/lang/Throwable", "cause", "Ljava/lang/Throwable;", false)
  | 3 => ("java/lang/Throwable", "stackTrace", "[Ljava/lang/StackTraceElement;", false)
  | 4 => ("java/lang/Throwable", "depth", "I", false)
  | _ => ("java/lang/Throwable", "suppressedExceptions", "Ljava/util/List;", false)
def tyJx00060 : Nat → FieldType := fun k => match k with
  | 0 => .object "java/lang/Object"
  | 1 => .object "java/lang/String"
  | 2 => .object "java/lang/Throwable"
  | 3 => .array (.object "java/lang/StackTraceElement")
  | 4 => .int
  | _ => .object "java/util/List"
abbrev wsJx000600 : List Cond := u_ws RJx00060 TJx00060 6
theorem nmJx00060 : ∀ a, a < 6 → ∀ b, b < 6 → a ≠ b → (TJx00060 a).2.1 ≠ (TJx00060 b).2.1 := by decide +kernel
theorem tyJx00060_ok : ∀ k, k < 6 → parseFieldDescriptor (TJx00060 k).2.2.1 = some (tyJx00060 k) := by decide +kernel
abbrev cJx00060_init_a7421 : ByteArray := prog_9_method_2_code
def yJx00060_init_a7421 : MethodName := ⟨RJx00060, "<init>", "(Ljava/lang/String;)V"⟩
def RJ9 : String := "java/lang/Math"
def TJ9 : u_T := fun k => match k with
  | _ => ("", "", "", false)
def tyJ9 : Nat → FieldType := fun k => match k with
  | _ => .int
abbrev wsJ90 : List Cond := u_ws RJ9 TJ9 0
theorem nmJ9 : ∀ a, a < 0 → ∀ b, b < 0 → a ≠ b → (TJ9 a).2.1 ≠ (TJ9 b).2.1 := by decide +kernel
theorem tyJ9_ok : ∀ k, k < 0 → parseFieldDescriptor (TJ9 k).2.2.1 = some (tyJ9 k) := by decide +kernel
abbrev cJ9_min_7cf53 : ByteArray := prog_14_method_69_code
def yJ9_min_7cf53 : MethodName := ⟨RJ9, "min", "(II)I"⟩
def RJ0 : String := "java/lang/String"
def TJ0 : u_T := fun k => match k with
  | 0 => ("java/lang/String", "value", "[B", true)
  | _ => ("java/lang/String", "coder", "B", true)
def tyJ0 : Nat → FieldType := fun k => match k with
  | 0 => .array .byte
  | _ => .byte
abbrev wsJ00 : List Cond := u_ws RJ0 TJ0 2
theorem nmJ0 : ∀ a, a < 2 → ∀ b, b < 2 → a ≠ b → (TJ0 a).2.1 ≠ (TJ0 b).2.1 := by decide +kernel
theorem tyJ0_ok : ∀ k, k < 2 → parseFieldDescriptor (TJ0 k).2.2.1 = some (tyJ0 k) := by decide +kernel
def RL : String := "LayerwellLaw"
abbrev cL_type : ByteArray := method_3_code
def yL_type : MethodName := ⟨RL, "type", "(LLayerwell;II[J)I"⟩
abbrev cL_typeMany : ByteArray := method_4_code
def yL_typeMany : MethodName := ⟨RL, "typeMany", "(LLayerwell;III[J)I"⟩
abbrev cL_cut : ByteArray := method_5_code
def yL_cut : MethodName := ⟨RL, "cut", "(LLayerwell;I[J)I"⟩
abbrev cL_clear : ByteArray := method_6_code
def yL_clear : MethodName := ⟨RL, "clear", "(LLayerwell;I[J)I"⟩
abbrev cL_length : ByteArray := method_7_code
def yL_length : MethodName := ⟨RL, "length", "(LLayerwell;I[J)I"⟩
abbrev cL_byteAt : ByteArray := method_8_code
def yL_byteAt : MethodName := ⟨RL, "byteAt", "(LLayerwell;II[J)I"⟩
abbrev cL_ends : ByteArray := method_9_code
def yL_ends : MethodName := ⟨RL, "ends", "(LLayerwell;I[J)I"⟩
abbrev cL_open : ByteArray := method_10_code
def yL_open : MethodName := ⟨RL, "open", "(LLayerwell;IIII[J)I"⟩
abbrev cL_kind : ByteArray := method_11_code
def yL_kind : MethodName := ⟨RL, "kind", "(LLayerwell;I[J)I"⟩
abbrev cL_read : ByteArray := method_12_code
def yL_read : MethodName := ⟨RL, "read", "(LLayerwell;I[J)I"⟩
abbrev cL_readPart : ByteArray := method_13_code
def yL_readPart : MethodName := ⟨RL, "readPart", "(LLayerwell;II[J)I"⟩
abbrev cL_partAt : ByteArray := method_14_code
def yL_partAt : MethodName := ⟨RL, "partAt", "(LLayerwell;I[J)I"⟩
abbrev cL_skip : ByteArray := method_15_code
def yL_skip : MethodName := ⟨RL, "skip", "(LLayerwell;II[J)I"⟩
abbrev cL_readLine : ByteArray := method_16_code
def yL_readLine : MethodName := ⟨RL, "readLine", "(LLayerwell;II[J)I"⟩
abbrev cL_pour : ByteArray := method_17_code
def yL_pour : MethodName := ⟨RL, "pour", "(LLayerwell;II[J)I"⟩
abbrev cL_alike : ByteArray := method_18_code
def yL_alike : MethodName := ⟨RL, "alike", "(LLayerwell;II[J)I"⟩
abbrev cL_canMark : ByteArray := method_19_code
def yL_canMark : MethodName := ⟨RL, "canMark", "(LLayerwell;I[J)I"⟩
abbrev cL_mark : ByteArray := method_20_code
def yL_mark : MethodName := ⟨RL, "mark", "(LLayerwell;I[J)I"⟩
abbrev cL_back : ByteArray := method_21_code
def yL_back : MethodName := ⟨RL, "back", "(LLayerwell;I[J)I"⟩
abbrev cL_left : ByteArray := method_22_code
def yL_left : MethodName := ⟨RL, "left", "(LLayerwell;I[J)I"⟩
abbrev cL_line : ByteArray := method_23_code
def yL_line : MethodName := ⟨RL, "line", "(LLayerwell;I[J)I"⟩
abbrev cL_setLine : ByteArray := method_24_code
def yL_setLine : MethodName := ⟨RL, "setLine", "(LLayerwell;II[J)I"⟩
abbrev cL_check : ByteArray := method_25_code
def yL_check : MethodName := ⟨RL, "check", "(LLayerwell;I[J)I"⟩
abbrev cL_checkAnew : ByteArray := method_26_code
def yL_checkAnew : MethodName := ⟨RL, "checkAnew", "(LLayerwell;I[J)I"⟩
abbrev cL_checkOf : ByteArray := method_27_code
def yL_checkOf : MethodName := ⟨RL, "checkOf", "(LLayerwell;I[J)I"⟩
abbrev cL_share : ByteArray := method_28_code
def yL_share : MethodName := ⟨RL, "share", "(LLayerwell;I[D)I"⟩
abbrev cL_meanLine : ByteArray := method_29_code
def yL_meanLine : MethodName := ⟨RL, "meanLine", "(LLayerwell;[D)I"⟩
abbrev cL_law : ByteArray := code
def yL_law : MethodName := ⟨RL, "law", "([I)Z"⟩
abbrev vwCl : List vw_C := [(RJ0, TJ0, 2), (RJx00060, TJx00060, 6), (RX0, TX0, 2), (RX1, TX1, 8), (RX2, TX2, 6), (RX3, TX3, 4), (RX4, TX4, 15)]
end
section
/-! ENGINE: one index for every cell of the system (49 cells at addresses G.1 i); c says what each holds; V says that the machine, at this place with these locals and this stack, over any heap that holds c, comes to Q -/
abbrev GG : Type := (Nat → Nat) × (Nat → ClassId) × (Nat → Nat → Nat) × (Nat → ClassId)
abbrev CC : Type := Nat → va_E
abbrev LV : Type := List (Nat × Value)
abbrev CX : Type := Program × Launch × Env × State × MethodId × Array Value × List Frame × Method × Code × Room × (State → Prop)
abbrev xp (X : CX) : Program := X.1
abbrev xl (X : CX) : Launch := X.2.1
abbrev xe (X : CX) : Env := X.2.2.1
abbrev xs (X : CX) : State := X.2.2.2.1
abbrev xm (X : CX) : MethodId := X.2.2.2.2.1
abbrev xa (X : CX) : Array Value := X.2.2.2.2.2.1
abbrev xb (X : CX) : List Frame := X.2.2.2.2.2.2.1
abbrev xh (X : CX) : Method := X.2.2.2.2.2.2.2.1
abbrev xc (X : CX) : Code := X.2.2.2.2.2.2.2.2.1
abbrev xR (X : CX) : Room := X.2.2.2.2.2.2.2.2.2.1
abbrev xQ (X : CX) : State → Prop := X.2.2.2.2.2.2.2.2.2.2
abbrev gD (G : GG) : va_G := (G.2.1, G.2.2.1)
def gl_tys (G : GG) : List (ClassId × FieldType) := [(G.2.2.2 0, .int), (G.2.2.2 1, .long), (G.2.2.2 2, .boolean), (G.2.2.2 3, .double), (G.2.2.2 4, .object RX0), (G.2.2.2 5, .object RX1)]
def wl (G : GG) (c : CC) : va_W := (List.range 49).map (fun i => (G.1 i, c i))
def Sy (G : GG) (c : CC) (H : Heap) : Prop := va_P (gD G) vwCl (wl G c) H
def InjG (G : GG) : Prop := ∀ i j : Nat, i < 49 → j < 49 → G.1 i = G.1 j → i = j
def gA (G : GG) (sz : Nat) : Nat → Prop := fun q => (∃ i, i < 49 ∧ q = G.1 i) ∨ sz ≤ q
theorem gA_mono {G : GG} {a b : Nat} (h : a ≤ b) (q : Nat) (hq : gA G b q) : gA G a q := hq.elim Or.inl (fun z => Or.inr (Nat.le_trans h z))
theorem wl_at {G : GG} {c : CC} {i : Nat} (hi : i < 49) : (wl G c)[i]? = some (G.1 i, c i) := by
  unfold wl
  rw [List.getElem?_map, List.getElem?_range hi]
  rfl
theorem wl_of {G : GG} {c : CC} {i : Nat} {p : Nat × va_E} (h : (wl G c)[i]? = some p) : i < 49 ∧ p = (G.1 i, c i) := by
  have hi : i < 49 := by
    have h1 := (List.getElem?_eq_some_iff.mp h).1
    simpa [wl] using h1
  rw [wl_at hi] at h
  exact ⟨hi, (Option.some.inj h).symm⟩
theorem wl_D {G : GG} {c : CC} {sz : Nat} (h : InjG G) : va_D (gA G sz) (wl G c) := by
  refine ⟨fun i j p q hi hj hpq => ?_, fun k q hk => ?_⟩
  · obtain ⟨h1, rfl⟩ := wl_of hi
    obtain ⟨h2, rfl⟩ := wl_of hj
    exact h i j h1 h2 hpq
  · obtain ⟨h1, rfl⟩ := wl_of hk
    exact Or.inl ⟨k, h1, rfl⟩
theorem wl_set {G : GG} {c c1 : CC} {i : Nat} {e : va_E} (hi : i < 49) (h1 : c1 i = e) (h2 : ∀ j : Nat, j ≠ i → c1 j = c j) : (wl G c).set i (G.1 i, e) = wl G c1 := by
  apply List.ext_getElem?
  intro j
  by_cases hj : j = i
  · subst hj
    rw [List.getElem?_set_self (by simpa [wl] using hi), wl_at hi, h1]
  · rw [List.getElem?_set_ne (Ne.symm hj)]
    by_cases hl : j < 49
    · rw [wl_at hl, wl_at hl, h2 j hj]
    · rw [List.getElem?_eq_none (by simpa [wl] using Nat.le_of_not_lt hl), List.getElem?_eq_none (by simpa [wl] using Nat.le_of_not_lt hl)]
/-- the words that every method has: all good ones of the tables -/
def gws : List Cond := lw_tbl.filter goodWord
theorem gws_sub {w : Cond} (h : w ∈ gws) : w ∈ lw_tbl := (List.mem_filter.mp (show w ∈ lw_tbl.filter goodWord from h)).1
def isNw : Cond → Bool
  | .fieldLinkNest .. => true
  | .methodLinkNest .. => true
  | .castable .. => true
  | .declares .. => true
  | _ => false
theorem isNw_warm {w : Cond} {s U : State} (h : isNw w = true) (hW : s.WarmedH U.vm) (hz : va_Nw w s) : va_Nw w U := by
  cases w <;> first | exact Bool.noConfusion (show false = true from h) | exact va_Nw.warmF hW hz | exact va_Nw.warmM hW hz | exact va_Nw.warmC hW hz | exact va_Nw.warmD hW hz
def nwW : List Cond := [.methodLinkNest RX3 21 yX0_init "Layerwell", .methodLinkNest RX3 28 yX2_init "Layerwell", .methodLinkNest RX2 11 yX1_init "Layerwell", .methodLinkNest RX1 11 yX0_init "Layerwell", .methodLinkNest RX2 20 yX0_init "Layerwell", .methodLinkNest RX3 33 yX1_init "Layerwell", .methodLinkNest RX2 56 yX3_isLined "Layerwell", .methodLinkNest RX1 51 yX3_isLined "Layerwell", .methodLinkNest RX1 38 yX3_goesBackUnmarked "Layerwell", .methodLinkNest RX1 76 yX3_hasCheck "Layerwell", .methodLinkNest RX1 79 yX3_withByte "Layerwell", .methodLinkNest RX2 129 yX3_hasCheck "Layerwell", .methodLinkNest RX2 132 yX3_withByte "Layerwell", .methodLinkNest RX2 136 yX3_hasLine "Layerwell", .methodLinkNest RX2 42 yX3_canBeMarked "Layerwell", .methodLinkNest RX1 100 yX3_hasLine "Layerwell", .fieldLinkNest RX3 92 "Layerwell$Stream" "kind" "I" "Layerwell", .fieldLinkNest RX2 126 "Layerwell$Stream" "kind" "I" "Layerwell", .fieldLinkNest RX2 139 "Layerwell$Stream" "lineNumber" "I" "Layerwell", .fieldLinkNest RX3 157 "Layerwell$Stream" "lineNumber" "I" "Layerwell", .fieldLinkNest RX3 169 "Layerwell$Stream" "register" "J" "Layerwell", .fieldLinkNest RX3 145 "Layerwell$Stream" "markPlace" "I" "Layerwell", .castable "java/lang/IndexOutOfBoundsException" "java/lang/IndexOutOfBoundsException", .castable "java/lang/IllegalArgumentException" "java/lang/IllegalArgumentException", .castable "java/lang/IllegalStateException" "java/lang/IllegalStateException", .castable "java/util/NoSuchElementException" "java/util/NoSuchElementException", .castable "java/lang/UnsupportedOperationException" "java/lang/UnsupportedOperationException", .castable "java/lang/ArithmeticException" "java/lang/ArithmeticException"]
def ncW : List (String × String) := [("java/lang/IllegalArgumentException", "java/lang/IndexOutOfBoundsException"), ("java/lang/IllegalStateException", "java/lang/IndexOutOfBoundsException"), ("java/util/NoSuchElementException", "java/lang/IndexOutOfBoundsException"), ("java/lang/UnsupportedOperationException", "java/lang/IndexOutOfBoundsException"), ("java/lang/ArithmeticException", "java/lang/IndexOutOfBoundsException"), ("java/lang/IndexOutOfBoundsException", "java/lang/IllegalArgumentException"), ("java/lang/IllegalStateException", "java/lang/IllegalArgumentException"), ("java/util/NoSuchElementException", "java/lang/IllegalArgumentException"), ("java/lang/UnsupportedOperationException", "java/lang/IllegalArgumentException"), ("java/lang/ArithmeticException", "java/lang/IllegalArgumentException"), ("java/lang/IndexOutOfBoundsException", "java/lang/IllegalStateException"), ("java/lang/IllegalArgumentException", "java/lang/IllegalStateException"), ("java/util/NoSuchElementException", "java/lang/IllegalStateException"), ("java/lang/UnsupportedOperationException", "java/lang/IllegalStateException"), ("java/lang/ArithmeticException", "java/lang/IllegalStateException"), ("java/lang/IndexOutOfBoundsException", "java/util/NoSuchElementException"), ("java/lang/IllegalArgumentException", "java/util/NoSuchElementException"), ("java/lang/IllegalStateException", "java/util/NoSuchElementException"), ("java/lang/UnsupportedOperationException", "java/util/NoSuchElementException"), ("java/lang/ArithmeticException", "java/util/NoSuchElementException"), ("java/lang/IndexOutOfBoundsException", "java/lang/UnsupportedOperationException"), ("java/lang/IllegalArgumentException", "java/lang/UnsupportedOperationException"), ("java/lang/IllegalStateException", "java/lang/UnsupportedOperationException"), ("java/util/NoSuchElementException", "java/lang/UnsupportedOperationException"), ("java/lang/ArithmeticException", "java/lang/UnsupportedOperationException"), ("java/lang/IndexOutOfBoundsException", "java/lang/ArithmeticException"), ("java/lang/IllegalArgumentException", "java/lang/ArithmeticException"), ("java/lang/IllegalStateException", "java/lang/ArithmeticException"), ("java/util/NoSuchElementException", "java/lang/ArithmeticException"), ("java/lang/UnsupportedOperationException", "java/lang/ArithmeticException")]
def stW : List (Nat × String) := [(201, "there is no such source"), (213, "the number is no byte"), (219, "the source would have too many bytes"), (215, "the number is out of range"), (58, "the source has no bytes"), (222, "there is no such place"), (204, "there is no such stream"), (208, "the stream is not open"), (125, "both are the same stream"), (211, "the stream can't do that"), (180, "no open stream has a line number")]
theorem nwW_ok : ∀ w ∈ nwW, isNw w = true := by decide +kernel
def WdK (G : GG) (U : State) : Prop := va_K (gD G) vwCl (gl_tys G) U ∧ (∀ w ∈ nwW, va_Nw w U) ∧ (∀ x ∈ ncW, va_Nc x.1 x.2 U) ∧ (∀ x ∈ stW, ∃ a, vk_R RX3 x.1 x.2 a U)
theorem WdK.warm {G : GG} {s U : State} (hW : s.WarmedH U.vm) (h : WdK G s) : WdK G U :=
  ⟨va_K.moved hW.alike h.1, fun w hw => isNw_warm (nwW_ok w hw) hW (h.2.1 w hw), fun x hx => va_Nc.moved hW.alike (h.2.2.1 x hx), fun x hx => by
    obtain ⟨a, ha⟩ := h.2.2.2 x hx
    exact ⟨a, vk_R.warm hW ha⟩⟩
def WdZ (G : GG) (sz : Nat) (U : State) (H : Heap) : Prop := vx_Zq Bundle.tN "UNASSIGNED_STACK" Bundle.steD (gA G sz) U H ∧ vx_Zq Bundle.tN "SUPPRESSED_SENTINEL" Bundle.listD (gA G sz) U H
theorem WdZ.moved {G : GG} {sz : Nat} {u U : State} {H : Heap} (hvm : u.vm.Alike U.vm) (h : WdZ G sz u H) : WdZ G sz U H := ⟨vx_Zq.moved hvm h.1, vx_Zq.moved hvm h.2⟩
theorem WdZ.kept {G : GG} {sz : Nat} {U : State} {H H1 : Heap} (h : WdZ G sz U H) (hq : ∀ a : Nat, a < H.size → ¬ gA G sz a → H1[a]? = H[a]?) : WdZ G sz U H1 := ⟨h.1.kept hq, h.2.kept hq⟩
theorem WdZ.narrow {G : GG} {a b : Nat} {U : State} {H : Heap} (h : WdZ G a U H) (hab : a ≤ b) : WdZ G b U H := ⟨h.1.narrow (gA_mono hab), h.2.narrow (gA_mono hab)⟩
def PreG (G : GG) (sz : Nat) (c : CC) : State → Prop := fun U => U.heap.size = sz ∧ Sy G c U.heap ∧ WdK G U ∧ WdZ G sz U U.heap
def QcG (G : GG) (post : Option Value → CC → Prop) (sz : Nat) : Array Value → State → Outcome → State → Prop := fun _ st oc t => (∃ (v : Option Value) (c' : CC), oc = .returned v ∧ post v c' ∧ Sy G c' t.heap) ∧ va_F (gA G sz) st t
def XcG (G : GG) (px : String → Prop) (c : CC) (sz : Nat) : String → State → State → Prop := fun E st t => px E ∧ Sy G c t.heap ∧ va_F (gA G sz) st t
/-- A METHOD'S CONTRACT: from cells c with these arguments it returns v over cells c' with 'post v c'', or throws E with 'px E' over c itself -/
def MC (G : GG) (l : Launch) (y : MethodName) (ws : List Cond) (rm : Room) (av : List Value) (c : CC) (post : Option Value → CC → Prop) (px : String → Prop) : Prop :=
  ∀ sz : Nat, vx_Met l y ws rm (va_Pc av (PreG G sz c)) (QcG G post sz) (XcG G px c sz) rm.cells rm.slots (gA G sz)
abbrev pF : String → Prop := fun _ => False
abbrev pI (post : Int32 → CC → Prop) : Option Value → CC → Prop := fun v c' => ∃ r : Int32, v = some (.int r) ∧ post r c'
abbrev pL (post : Int64 → CC → Prop) : Option Value → CC → Prop := fun v c' => ∃ r : Int64, v = some (.long r) ∧ post r c'
abbrev pFl (post : UInt32 → CC → Prop) : Option Value → CC → Prop := fun v c' => ∃ r : UInt32, v = some (.float r) ∧ post r c'
abbrev pD (post : UInt64 → CC → Prop) : Option Value → CC → Prop := fun v c' => ∃ r : UInt64, v = some (.double r) ∧ post r c'
abbrev pR (post : Nat → CC → Prop) : Option Value → CC → Prop := fun v c' => ∃ r : Nat, v = some (.ref r) ∧ post r c'
abbrev pV (post : CC → Prop) : Option Value → CC → Prop := fun v c' => v = none ∧ post c'
def V (G : GG) (X : CX) (c : CC) (lv : LV) (k n pc : Nat) (st : List Value) : Prop :=
  ∀ (H : Heap) (locs : List Loc) (ls : Array Slot), Sy G c H → va_S (gA G (xs X).heap.size) (xs X).heap H locs → lv_has ls (xc X).maxLocals lv → W (xp X) (xl X) (xe X) (xR X) (xs X) (xm X) (xa X) (xb X) (xh X) (xc X) H locs k n (xQ X) (F0 (xm X) pc ls st)
/-- thrown here, from cells c -/
def VX (G : GG) (X : CX) (c : CC) (lv : LV) (k n pc : Nat) (rest : List Value) (E : String) : Prop :=
  ∀ (H : Heap) (locs : List Loc) (ls : Array Slot) (q : Addr) (ce : Cell), Sy G c H → va_S (gA G (xs X).heap.size) (xs X).heap H locs → lv_has ls (xc X).maxLocals lv → H[q]? = some ce → ce.vm = .none → (xs X).vm.findClass E = some ce.cls → vx_W (xp X) (xl X) (xe X) (xR X) (xs X) (xm X) (xa X) (xb X) (xh X) (xc X) H locs k n (xQ X) (F0 (xm X) pc ls rest) q
def Ok (G : GG) (X : CX) (own : String) (cc : ByteArray) (nL : Nat) (rm : Room) : Prop :=
  (xp X).tables.exec = Jvm.exec ∧ (xc X).code = cc ∧ (xs X).vm.findClass own = some (xm X).cls ∧ (∀ w ∈ gws, w.before (xa X) (xs X) = true) ∧ (xc X).maxLocals = nL ∧ xR X = rm ∧ WdK G (xs X) ∧ WdZ G (xs X).heap.size (xs X) (xs X).heap ∧ InjG G ∧ (xl X).stackTraces = false ∧ (xh X).locks = false
def NoT (X : CX) : Prop := ∀ x ∈ (xc X).exceptionTable.toList, False
def OkQ (G : GG) (X : CX) (post : Option Value → CC → Prop) (px : String → Prop) (c0 : CC) (rm : Room) : Prop :=
  xQ X = vx_MQ (xb X) (QcG G post (xs X).heap.size) (XcG G px c0 (xs X).heap.size) (xa X) (xs X) rm.cells rm.slots (gA G (xs X).heap.size)
section OKS
variable {G : GG} {X : CX} {own : String} {cc : ByteArray} {nL : Nat} {rm : Room}
theorem Ok.x (h : Ok G X own cc nL rm) : (xp X).tables.exec = Jvm.exec := h.1
theorem Ok.b (h : Ok G X own cc nL rm) : (xc X).code = cc := h.2.1
theorem Ok.o (h : Ok G X own cc nL rm) : (xs X).vm.findClass own = some (xm X).cls := h.2.2.1
theorem Ok.w (h : Ok G X own cc nL rm) : ∀ w ∈ gws, w.before (xa X) (xs X) = true := h.2.2.2.1
theorem Ok.n (h : Ok G X own cc nL rm) : (xc X).maxLocals = nL := h.2.2.2.2.1
theorem Ok.r (h : Ok G X own cc nL rm) : xR X = rm := h.2.2.2.2.2.1
theorem Ok.k (h : Ok G X own cc nL rm) : WdK G (xs X) := h.2.2.2.2.2.2.1
theorem Ok.z (h : Ok G X own cc nL rm) : WdZ G (xs X).heap.size (xs X) (xs X).heap := h.2.2.2.2.2.2.2.1
theorem Ok.i (h : Ok G X own cc nL rm) : InjG G := h.2.2.2.2.2.2.2.2.1
theorem Ok.t (h : Ok G X own cc nL rm) : (xl X).stackTraces = false := h.2.2.2.2.2.2.2.2.2.1
theorem Ok.l (h : Ok G X own cc nL rm) : (xh X).locks = false := h.2.2.2.2.2.2.2.2.2.2
end OKS
theorem gws_good : ∀ w ∈ gws, (w.onTables && w.keeps) = true ∨ ∃ ty, w = .arrayClass ty := fun w hw => good_of_word (List.mem_filter.mp (show w ∈ lw_tbl.filter goodWord from hw)).2
section MCO
variable {G : GG} {l : Launch} {y : MethodName} {cc : ByteArray} {maxL : Nat} {ret : Option FieldType} {rm : Room} {av : List Value} {c : CC} {post : Option Value → CC → Prop} {px : String → Prop}
theorem MC.of (hy : plainName y.cls = true) (hl : l.stackTraces = false) (hG : InjG G) (hlen : (lg_sl av).length ≤ maxL)
    (body : ∀ X : CX, xl X = l → Ok G X y.cls cc maxL rm → NoT X → OkQ G X post px c rm → (xh X).sig.returnType = ret → V G X c (lv_args 0 av) 0 0 0 []) : MC G l y (.code y cc maxL ret :: gws) rm av c post px := by
  intro sz
  refine vx_ofW (cc := cc) (maxL := maxL) (ret := ret) hy rfl ?_
  intro p e s m args below meth cd s₁ B hml ht hv
  obtain ⟨rfl, hsz, hP, hK, hZ⟩ := hv
  subst hsz
  have hts0 := atoms_spec (ws := Cond.code y cc maxL ret :: gws) B.pre
  have hl0 := lv_entry av (n := maxL) hlen
  rw [lg_entry_eq]
  have hV := body (p, l, e, s, m, av.toArray, below, meth, cd, rm, vx_MQ below (QcG G post s.heap.size) (XcG G px c s.heap.size) av.toArray s rm.cells rm.slots (gA G s.heap.size)) rfl
    ⟨B.exec, B.bytes, findClass_of_methodNamed B.named, fun w hw => hts0 w (List.mem_cons_of_mem _ hw), hml, rfl, hK, hZ, hG, hl, B.notSynchronized⟩ ht rfl B.returns
  exact hV s.heap [] _ hP va_S.rf (by show lv_has _ cd.maxLocals _; rw [hml]; exact hl0)
theorem MC.ofH {hh : List (Nat × Nat × Nat × Nat)} (hy : plainName y.cls = true) (hl : l.stackTraces = false) (hG : InjG G) (hlen : (lg_sl av).length ≤ maxL)
    (body : ∀ X : CX, xl X = l → Ok G X y.cls cc maxL rm → (xc X).exceptionTable.toList = tableOf hh → OkQ G X post px c rm → (xh X).sig.returnType = ret → V G X c (lv_args 0 av) 0 0 0 []) : MC G l y (.codeWith y cc maxL ret hh :: gws) rm av c post px := by
  intro sz
  refine vx_ofWH (cc := cc) (maxL := maxL) (ret := ret) (hh := hh) hy rfl ?_
  intro p e s m args below meth cd s₁ B hml hv
  obtain ⟨rfl, hsz, hP, hK, hZ⟩ := hv
  subst hsz
  have hts0 := atoms_spec (ws := Cond.codeWith y cc maxL ret hh :: gws) B.pre
  have hl0 := lv_entry av (n := maxL) hlen
  rw [lg_entry_eq]
  have hV := body (p, l, e, s, m, av.toArray, below, meth, cd, rm, vx_MQ below (QcG G post s.heap.size) (XcG G px c s.heap.size) av.toArray s rm.cells rm.slots (gA G s.heap.size)) rfl
    ⟨B.exec, B.bytes, findClass_of_methodNamed B.named, fun w hw => hts0 w (List.mem_cons_of_mem _ hw), hml, rfl, hK, hZ, hG, hl, B.notSynchronized⟩ (vx_table (x := y) B (hts0 _ List.mem_cons_self)) rfl B.returns
  exact hV s.heap [] _ hP va_S.rf (by show lv_has _ cd.maxLocals _; rw [hml]; exact hl0)
end MCO
section ROWS
variable {G : GG} {X : CX} {own : String} {cc : ByteArray} {nL : Nat} {rm : Room} {c : CC} {lv : LV} {k n pc : Nat} {st : List Value}
theorem r_iconst (h : Ok G X own cc nL rm) {z : Int} {v : Int32} (hv : Int32.ofInt z = v) (d : decode cc pc = .ok (.iconst z, 1)) (kk : V G X c lv k n (pc + 1) (.int v :: st)) : V G X c lv k n pc (st) := fun H locs ls hP hS hl => lv_iconst h.x h.b d hv (kk H locs ls hP hS hl)
theorem r_bipush (h : Ok G X own cc nL rm) {z : Int} {v : Int32} (hv : (Int8.ofInt z).toInt32 = v) (d : decode cc pc = .ok (.bipush z, 2)) (kk : V G X c lv k n (pc + 2) (.int v :: st)) : V G X c lv k n pc (st) := fun H locs ls hP hS hl => lv_bipush h.x h.b d hv (kk H locs ls hP hS hl)
theorem r_sipush (h : Ok G X own cc nL rm) {z : Int} {v : Int32} (hv : (Int16.ofInt z).toInt32 = v) (d : decode cc pc = .ok (.sipush z, 3)) (kk : V G X c lv k n (pc + 3) (.int v :: st)) : V G X c lv k n pc (st) := fun H locs ls hP hS hl => lv_sipush h.x h.b d hv (kk H locs ls hP hS hl)
theorem r_lconst (h : Ok G X own cc nL rm) {z : Fin 2} {v : Int64} (hv : Int64.ofNat (z : Nat) = v) (d : decode cc pc = .ok (.lconst z, 1)) (kk : V G X c lv k n (pc + 1) (.long v :: st)) : V G X c lv k n pc (st) := fun H locs ls hP hS hl => lv_lconst h.x h.b d hv (kk H locs ls hP hS hl)
theorem r_ldc2 (h : Ok G X own cc nL rm) {ix : Nat} {v : Int64} (hw : Jvm.Cond.constantLong own ix v ∈ gws) (d : decode cc pc = .ok (.ldc2_w ix, 3)) (kk : V G X c lv k n (pc + 3) (.long v :: st)) : V G X c lv k n pc (st) := fun H locs ls hP hS hl => lv_ldc2 h.x h.b h.o (h.w _ hw) d (kk H locs ls hP hS hl)
theorem r_dconst0 (h : Ok G X own cc nL rm) (d : decode cc pc = .ok (.dconst 0, 1)) (kk : V G X c lv k n (pc + 1) (.double 0 :: st)) : V G X c lv k n pc (st) := fun H locs ls hP hS hl => lv_dconst0 h.x h.b d (kk H locs ls hP hS hl)
theorem r_fconst0 (h : Ok G X own cc nL rm) (d : decode cc pc = .ok (.fconst 0, 1)) (kk : V G X c lv k n (pc + 1) (.float 0 :: st)) : V G X c lv k n pc (st) := fun H locs ls hP hS hl => lv_fconst0 h.x h.b d (kk H locs ls hP hS hl)
theorem r_iload_n (h : Ok G X own cc nL rm) {kf : Fin 4} (q : Nat) {i : Nat} {x : Int32} (hi : (kf : Nat) = i) (hq : lv[q]? = some (i, .int x)) (d : decode cc pc = .ok (.iload_n kf, 1)) (kk : V G X c lv k n (pc + 1) (.int x :: st)) : V G X c lv k n pc (st) := fun H locs ls hP hS hl => lv_iload_n h.x h.b d hi (lv_at hl q hq) (kk H locs ls hP hS hl)
theorem r_iload (h : Ok G X own cc nL rm) (q : Nat) {i : Nat} {x : Int32} (hq : lv[q]? = some (i, .int x)) (d : decode cc pc = .ok (.iload i, 2)) (kk : V G X c lv k n (pc + 2) (.int x :: st)) : V G X c lv k n pc (st) := fun H locs ls hP hS hl => lv_iload h.x h.b d (lv_at hl q hq) (kk H locs ls hP hS hl)
theorem r_istore_n (h : Ok G X own cc nL rm) {i : Nat} {x : Int32} (lv' : LV) {kf : Fin 4} (hi : (kf : Nat) = i) (d : decode cc pc = .ok (.istore_n kf, 1)) (hn : i < nL) (hlv : (i, Value.int x) :: lv.filter (fun q => !(q.1 == i) && !(q.1 + 1 == i && q.2.category == 2)) = lv') (kk : V G X c lv' k n (pc + 1) st) : V G X c lv k n pc (.int x :: st) := fun H locs ls hP hS hl => lv_istore_n h.x h.b d hi hl (by rw [h.n]; exact hn) hlv (fun ls' hl' => kk H locs ls' hP hS hl')
theorem r_istore (h : Ok G X own cc nL rm) {i : Nat} {x : Int32} (lv' : LV) (d : decode cc pc = .ok (.istore i, 2)) (hn : i < nL) (hlv : (i, Value.int x) :: lv.filter (fun q => !(q.1 == i) && !(q.1 + 1 == i && q.2.category == 2)) = lv') (kk : V G X c lv' k n (pc + 2) st) : V G X c lv k n pc (.int x :: st) := fun H locs ls hP hS hl => lv_istore h.x h.b d hl (by rw [h.n]; exact hn) hlv (fun ls' hl' => kk H locs ls' hP hS hl')
theorem r_lload_n (h : Ok G X own cc nL rm) {kf : Fin 4} (q : Nat) {i : Nat} {x : Int64} (hi : (kf : Nat) = i) (hq : lv[q]? = some (i, .long x)) (d : decode cc pc = .ok (.lload_n kf, 1)) (kk : V G X c lv k n (pc + 1) (.long x :: st)) : V G X c lv k n pc (st) := fun H locs ls hP hS hl => lv_lload_n h.x h.b d hi (lv_at hl q hq) (kk H locs ls hP hS hl)
theorem r_lload (h : Ok G X own cc nL rm) (q : Nat) {i : Nat} {x : Int64} (hq : lv[q]? = some (i, .long x)) (d : decode cc pc = .ok (.lload i, 2)) (kk : V G X c lv k n (pc + 2) (.long x :: st)) : V G X c lv k n pc (st) := fun H locs ls hP hS hl => lv_lload h.x h.b d (lv_at hl q hq) (kk H locs ls hP hS hl)
theorem r_lstore_n (h : Ok G X own cc nL rm) {i : Nat} {x : Int64} (lv' : LV) {kf : Fin 4} (hi : (kf : Nat) = i) (d : decode cc pc = .ok (.lstore_n kf, 1)) (hn : i + 1 < nL) (hlv : (i, Value.long x) :: lv.filter (fun q => !(q.1 == i) && (!(q.1 == i + 1) && !(q.1 + 1 == i && q.2.category == 2))) = lv') (kk : V G X c lv' k n (pc + 1) st) : V G X c lv k n pc (.long x :: st) := fun H locs ls hP hS hl => lv_lstore_n h.x h.b d hi hl (by rw [h.n]; exact hn) hlv (fun ls' hl' => kk H locs ls' hP hS hl')
theorem r_lstore (h : Ok G X own cc nL rm) {i : Nat} {x : Int64} (lv' : LV) (d : decode cc pc = .ok (.lstore i, 2)) (hn : i + 1 < nL) (hlv : (i, Value.long x) :: lv.filter (fun q => !(q.1 == i) && (!(q.1 == i + 1) && !(q.1 + 1 == i && q.2.category == 2))) = lv') (kk : V G X c lv' k n (pc + 2) st) : V G X c lv k n pc (.long x :: st) := fun H locs ls hP hS hl => lv_lstore h.x h.b d hl (by rw [h.n]; exact hn) hlv (fun ls' hl' => kk H locs ls' hP hS hl')
theorem r_aload_n (h : Ok G X own cc nL rm) {kf : Fin 4} (q : Nat) {i : Nat} {x : Nat} (hi : (kf : Nat) = i) (hq : lv[q]? = some (i, .ref x)) (d : decode cc pc = .ok (.aload_n kf, 1)) (kk : V G X c lv k n (pc + 1) (.ref x :: st)) : V G X c lv k n pc (st) := fun H locs ls hP hS hl => lv_aload_n h.x h.b d hi (lv_at hl q hq) (kk H locs ls hP hS hl)
theorem r_aload (h : Ok G X own cc nL rm) (q : Nat) {i : Nat} {x : Nat} (hq : lv[q]? = some (i, .ref x)) (d : decode cc pc = .ok (.aload i, 2)) (kk : V G X c lv k n (pc + 2) (.ref x :: st)) : V G X c lv k n pc (st) := fun H locs ls hP hS hl => lv_aload h.x h.b d (lv_at hl q hq) (kk H locs ls hP hS hl)
theorem r_astore_n (h : Ok G X own cc nL rm) {i : Nat} {x : Nat} (lv' : LV) {kf : Fin 4} (hi : (kf : Nat) = i) (d : decode cc pc = .ok (.astore_n kf, 1)) (hn : i < nL) (hlv : (i, Value.ref x) :: lv.filter (fun q => !(q.1 == i) && !(q.1 + 1 == i && q.2.category == 2)) = lv') (kk : V G X c lv' k n (pc + 1) st) : V G X c lv k n pc (.ref x :: st) := fun H locs ls hP hS hl => lv_astore_n h.x h.b d hi hl (by rw [h.n]; exact hn) hlv (fun ls' hl' => kk H locs ls' hP hS hl')
theorem r_astore (h : Ok G X own cc nL rm) {i : Nat} {x : Nat} (lv' : LV) (d : decode cc pc = .ok (.astore i, 2)) (hn : i < nL) (hlv : (i, Value.ref x) :: lv.filter (fun q => !(q.1 == i) && !(q.1 + 1 == i && q.2.category == 2)) = lv') (kk : V G X c lv' k n (pc + 2) st) : V G X c lv k n pc (.ref x :: st) := fun H locs ls hP hS hl => lv_astore h.x h.b d hl (by rw [h.n]; exact hn) hlv (fun ls' hl' => kk H locs ls' hP hS hl')
theorem r_fload_n (h : Ok G X own cc nL rm) {kf : Fin 4} (q : Nat) {i : Nat} {x : UInt32} (hi : (kf : Nat) = i) (hq : lv[q]? = some (i, .float x)) (d : decode cc pc = .ok (.fload_n kf, 1)) (kk : V G X c lv k n (pc + 1) (.float x :: st)) : V G X c lv k n pc (st) := fun H locs ls hP hS hl => lv_fload_n h.x h.b d hi (lv_at hl q hq) (kk H locs ls hP hS hl)
theorem r_fload (h : Ok G X own cc nL rm) (q : Nat) {i : Nat} {x : UInt32} (hq : lv[q]? = some (i, .float x)) (d : decode cc pc = .ok (.fload i, 2)) (kk : V G X c lv k n (pc + 2) (.float x :: st)) : V G X c lv k n pc (st) := fun H locs ls hP hS hl => lv_fload h.x h.b d (lv_at hl q hq) (kk H locs ls hP hS hl)
theorem r_fstore_n (h : Ok G X own cc nL rm) {i : Nat} {x : UInt32} (lv' : LV) {kf : Fin 4} (hi : (kf : Nat) = i) (d : decode cc pc = .ok (.fstore_n kf, 1)) (hn : i < nL) (hlv : (i, Value.float x) :: lv.filter (fun q => !(q.1 == i) && !(q.1 + 1 == i && q.2.category == 2)) = lv') (kk : V G X c lv' k n (pc + 1) st) : V G X c lv k n pc (.float x :: st) := fun H locs ls hP hS hl => lv_fstore_n h.x h.b d hi hl (by rw [h.n]; exact hn) hlv (fun ls' hl' => kk H locs ls' hP hS hl')
theorem r_fstore (h : Ok G X own cc nL rm) {i : Nat} {x : UInt32} (lv' : LV) (d : decode cc pc = .ok (.fstore i, 2)) (hn : i < nL) (hlv : (i, Value.float x) :: lv.filter (fun q => !(q.1 == i) && !(q.1 + 1 == i && q.2.category == 2)) = lv') (kk : V G X c lv' k n (pc + 2) st) : V G X c lv k n pc (.float x :: st) := fun H locs ls hP hS hl => lv_fstore h.x h.b d hl (by rw [h.n]; exact hn) hlv (fun ls' hl' => kk H locs ls' hP hS hl')
theorem r_dload_n (h : Ok G X own cc nL rm) {kf : Fin 4} (q : Nat) {i : Nat} {x : UInt64} (hi : (kf : Nat) = i) (hq : lv[q]? = some (i, .double x)) (d : decode cc pc = .ok (.dload_n kf, 1)) (kk : V G X c lv k n (pc + 1) (.double x :: st)) : V G X c lv k n pc (st) := fun H locs ls hP hS hl => lv_dload_n h.x h.b d hi (lv_at hl q hq) (kk H locs ls hP hS hl)
theorem r_dload (h : Ok G X own cc nL rm) (q : Nat) {i : Nat} {x : UInt64} (hq : lv[q]? = some (i, .double x)) (d : decode cc pc = .ok (.dload i, 2)) (kk : V G X c lv k n (pc + 2) (.double x :: st)) : V G X c lv k n pc (st) := fun H locs ls hP hS hl => lv_dload h.x h.b d (lv_at hl q hq) (kk H locs ls hP hS hl)
theorem r_dstore_n (h : Ok G X own cc nL rm) {i : Nat} {x : UInt64} (lv' : LV) {kf : Fin 4} (hi : (kf : Nat) = i) (d : decode cc pc = .ok (.dstore_n kf, 1)) (hn : i + 1 < nL) (hlv : (i, Value.double x) :: lv.filter (fun q => !(q.1 == i) && (!(q.1 == i + 1) && !(q.1 + 1 == i && q.2.category == 2))) = lv') (kk : V G X c lv' k n (pc + 1) st) : V G X c lv k n pc (.double x :: st) := fun H locs ls hP hS hl => lv_dstore_n h.x h.b d hi hl (by rw [h.n]; exact hn) hlv (fun ls' hl' => kk H locs ls' hP hS hl')
theorem r_dstore (h : Ok G X own cc nL rm) {i : Nat} {x : UInt64} (lv' : LV) (d : decode cc pc = .ok (.dstore i, 2)) (hn : i + 1 < nL) (hlv : (i, Value.double x) :: lv.filter (fun q => !(q.1 == i) && (!(q.1 == i + 1) && !(q.1 + 1 == i && q.2.category == 2))) = lv') (kk : V G X c lv' k n (pc + 2) st) : V G X c lv k n pc (.double x :: st) := fun H locs ls hP hS hl => lv_dstore h.x h.b d hl (by rw [h.n]; exact hn) hlv (fun ls' hl' => kk H locs ls' hP hS hl')
theorem r_iinc (h : Ok G X own cc nL rm) {i : Nat} {z : Int} {x v : Int32} (q : Nat) (lv' : LV) (hq : lv[q]? = some (i, .int x)) (hv : x + Int32.ofInt z = v) (d : decode cc pc = .ok (.iinc i z, 3)) (hn : i < nL) (hlv : (i, Value.int v) :: lv.filter (fun q => !(q.1 == i) && !(q.1 + 1 == i && q.2.category == 2)) = lv') (kk : V G X c lv' k n (pc + 3) st) : V G X c lv k n pc st := fun H locs ls hP hS hl => lv_iinc h.x h.b d hl hq hv (by rw [h.n]; exact hn) hlv (fun ls' hl' => kk H locs ls' hP hS hl')
theorem r_dup (h : Ok G X own cc nL rm) {v : Value} (hv : v.category = 1) (d : decode cc pc = .ok (.dup, 1)) (kk : V G X c lv k n (pc + 1) (v :: v :: st)) : V G X c lv k n pc (v :: st) := fun H locs ls hP hS hl => lv_dup h.x h.b d hv (kk H locs ls hP hS hl)
theorem r_dup2 (h : Ok G X own cc nL rm) {v w : Value} (hv : v.category = 1) (hw : w.category = 1) (d : decode cc pc = .ok (.dup2, 1)) (kk : V G X c lv k n (pc + 1) (v :: w :: v :: w :: st)) : V G X c lv k n pc (v :: w :: st) := fun H locs ls hP hS hl => lv_dup2_11 h.x h.b d hv hw (kk H locs ls hP hS hl)
theorem r_pop (h : Ok G X own cc nL rm) {v : Value} (hv : v.category = 1) (d : decode cc pc = .ok (.pop, 1)) (kk : V G X c lv k n (pc + 1) (st)) : V G X c lv k n pc (v :: st) := fun H locs ls hP hS hl => lv_pop h.x h.b d hv (kk H locs ls hP hS hl)
theorem r_iadd (h : Ok G X own cc nL rm) {x y : Int32} {v : Int32} (hv : x + y = v) (d : decode cc pc = .ok (.iadd, 1)) (kk : V G X c lv k n (pc + 1) (.int v :: st)) : V G X c lv k n pc (.int y :: .int x :: st) := fun H locs ls hP hS hl => (fun z => lv_iadd h.x h.b d (hv ▸ z)) (kk H locs ls hP hS hl)
theorem r_isub (h : Ok G X own cc nL rm) {x y : Int32} {v : Int32} (hv : x - y = v) (d : decode cc pc = .ok (.isub, 1)) (kk : V G X c lv k n (pc + 1) (.int v :: st)) : V G X c lv k n pc (.int y :: .int x :: st) := fun H locs ls hP hS hl => (fun z => lv_isub h.x h.b d (hv ▸ z)) (kk H locs ls hP hS hl)
theorem r_imul (h : Ok G X own cc nL rm) {x y : Int32} {v : Int32} (hv : x * y = v) (d : decode cc pc = .ok (.imul, 1)) (kk : V G X c lv k n (pc + 1) (.int v :: st)) : V G X c lv k n pc (.int y :: .int x :: st) := fun H locs ls hP hS hl => (fun z => lv_imul h.x h.b d (hv ▸ z)) (kk H locs ls hP hS hl)
theorem r_iand (h : Ok G X own cc nL rm) {x y : Int32} {v : Int32} (hv : x &&& y = v) (d : decode cc pc = .ok (.iand, 1)) (kk : V G X c lv k n (pc + 1) (.int v :: st)) : V G X c lv k n pc (.int y :: .int x :: st) := fun H locs ls hP hS hl => (fun z => lv_iand h.x h.b d (hv ▸ z)) (kk H locs ls hP hS hl)
theorem r_ladd (h : Ok G X own cc nL rm) {x y : Int64} {v : Int64} (hv : x + y = v) (d : decode cc pc = .ok (.ladd, 1)) (kk : V G X c lv k n (pc + 1) (.long v :: st)) : V G X c lv k n pc (.long y :: .long x :: st) := fun H locs ls hP hS hl => (fun z => lv_ladd h.x h.b d (hv ▸ z)) (kk H locs ls hP hS hl)
theorem r_lsub (h : Ok G X own cc nL rm) {x y : Int64} {v : Int64} (hv : x - y = v) (d : decode cc pc = .ok (.lsub, 1)) (kk : V G X c lv k n (pc + 1) (.long v :: st)) : V G X c lv k n pc (.long y :: .long x :: st) := fun H locs ls hP hS hl => (fun z => lv_lsub h.x h.b d (hv ▸ z)) (kk H locs ls hP hS hl)
theorem r_lmul (h : Ok G X own cc nL rm) {x y : Int64} {v : Int64} (hv : x * y = v) (d : decode cc pc = .ok (.lmul, 1)) (kk : V G X c lv k n (pc + 1) (.long v :: st)) : V G X c lv k n pc (.long y :: .long x :: st) := fun H locs ls hP hS hl => (fun z => lv_lmul h.x h.b d (hv ▸ z)) (kk H locs ls hP hS hl)
theorem r_lxor (h : Ok G X own cc nL rm) {x y : Int64} {v : Int64} (hv : x ^^^ y = v) (d : decode cc pc = .ok (.lxor, 1)) (kk : V G X c lv k n (pc + 1) (.long v :: st)) : V G X c lv k n pc (.long y :: .long x :: st) := fun H locs ls hP hS hl => (fun z => lv_lxor h.x h.b d (hv ▸ z)) (kk H locs ls hP hS hl)
theorem r_land (h : Ok G X own cc nL rm) {x y : Int64} {v : Int64} (hv : x &&& y = v) (d : decode cc pc = .ok (.land, 1)) (kk : V G X c lv k n (pc + 1) (.long v :: st)) : V G X c lv k n pc (.long y :: .long x :: st) := fun H locs ls hP hS hl => (fun z => lv_land h.x h.b d (hv ▸ z)) (kk H locs ls hP hS hl)
theorem r_idiv (h : Ok G X own cc nL rm) {x y : Int32} (hy : ¬ y = 0) {v : Int32} (hv : x / y = v) (d : decode cc pc = .ok (.idiv, 1)) (kk : V G X c lv k n (pc + 1) (.int v :: st)) : V G X c lv k n pc (.int y :: .int x :: st) := fun H locs ls hP hS hl => (fun z => lv_idiv h.x h.b d hy (hv ▸ z)) (kk H locs ls hP hS hl)
theorem r_ldiv (h : Ok G X own cc nL rm) {x y : Int64} (hy : ¬ y = 0) {v : Int64} (hv : x / y = v) (d : decode cc pc = .ok (.ldiv, 1)) (kk : V G X c lv k n (pc + 1) (.long v :: st)) : V G X c lv k n pc (.long y :: .long x :: st) := fun H locs ls hP hS hl => (fun z => lv_ldiv h.x h.b d hy (hv ▸ z)) (kk H locs ls hP hS hl)
theorem r_lrem (h : Ok G X own cc nL rm) {x y : Int64} (hy : ¬ y = 0) {v : Int64} (hv : x - x / y * y = v) (d : decode cc pc = .ok (.lrem, 1)) (kk : V G X c lv k n (pc + 1) (.long v :: st)) : V G X c lv k n pc (.long y :: .long x :: st) := fun H locs ls hP hS hl => (fun z => lv_lrem h.x h.b d hy (hv ▸ z)) (kk H locs ls hP hS hl)
theorem r_lushr (h : Ok G X own cc nL rm) {x v : Int64} {y : Int32} (hv : (x.toUInt64 >>> (y.toInt64.toUInt64 &&& Int64.toUInt64 63)).toInt64 = v) (d : decode cc pc = .ok (.lushr, 1)) (kk : V G X c lv k n (pc + 1) (.long v :: st)) : V G X c lv k n pc (.int y :: .long x :: st) := fun H locs ls hP hS hl => lv_lushr h.x h.b d hv (kk H locs ls hP hS hl)
theorem r_i2l (h : Ok G X own cc nL rm) {x : Int32} {v : Int64} (hv : x.toInt64 = v) (d : decode cc pc = .ok (.i2l, 1)) (kk : V G X c lv k n (pc + 1) (.long v :: st)) : V G X c lv k n pc (.int x :: st) := fun H locs ls hP hS hl => lv_i2l h.x h.b d hv (kk H locs ls hP hS hl)
theorem r_i2f (h : Ok G X own cc nL rm) {x : Int32} (d : decode cc pc = .ok (.i2f, 1)) (kk : V G X c lv k n (pc + 1) (.float (FP.i2f x) :: st)) : V G X c lv k n pc (.int x :: st) := fun H locs ls hP hS hl => lv_i2f h.x h.b d (kk H locs ls hP hS hl)
theorem r_i2d (h : Ok G X own cc nL rm) {x : Int32} (d : decode cc pc = .ok (.i2d, 1)) (kk : V G X c lv k n (pc + 1) (.double (FP.i2d x) :: st)) : V G X c lv k n pc (.int x :: st) := fun H locs ls hP hS hl => lv_i2d h.x h.b d (kk H locs ls hP hS hl)
theorem r_l2d (h : Ok G X own cc nL rm) {x : Int64} (d : decode cc pc = .ok (.l2d, 1)) (kk : V G X c lv k n (pc + 1) (.double (FP.l2d x) :: st)) : V G X c lv k n pc (.long x :: st) := fun H locs ls hP hS hl => lv_l2d h.x h.b d (kk H locs ls hP hS hl)
theorem r_fdiv (h : Ok G X own cc nL rm) {x y : UInt32} (hne : vf_n32 (FP.fdiv x y)) (d : decode cc pc = .ok (.fdiv, 1)) (kk : V G X c lv k n (pc + 1) (.float (FP.fdiv x y) :: st)) : V G X c lv k n pc (.float y :: .float x :: st) := fun H locs ls hP hS hl => lv_fdiv h.x h.b d hne (kk H locs ls hP hS hl)
theorem r_ddiv (h : Ok G X own cc nL rm) {x y : UInt64} (hne : vf_n64 (FP.ddiv x y)) (d : decode cc pc = .ok (.ddiv, 1)) (kk : V G X c lv k n (pc + 1) (.double (FP.ddiv x y) :: st)) : V G X c lv k n pc (.double y :: .double x :: st) := fun H locs ls hP hS hl => lv_ddiv h.x h.b d hne (kk H locs ls hP hS hl)
theorem r_f2d (h : Ok G X own cc nL rm) {x : UInt32} (hne : vf_n64 (FP.f2d x)) (d : decode cc pc = .ok (.f2d, 1)) (kk : V G X c lv k n (pc + 1) (.double (FP.f2d x) :: st)) : V G X c lv k n pc (.float x :: st) := fun H locs ls hP hS hl => lv_f2d h.x h.b d hne (kk H locs ls hP hS hl)
theorem r_fcmp (h : Ok G X own cc nL rm) {x y : UInt32} {op : CmpOp} {v : Int32} (hv : Op.cmpValue (FP.fcmp x y) op = v) (d : decode cc pc = .ok (.fcmp op, 1)) (kk : V G X c lv k n (pc + 1) (.int v :: st)) : V G X c lv k n pc (.float y :: .float x :: st) := fun H locs ls hP hS hl => (fun z => lv_fcmp h.x h.b d (hv ▸ z)) (kk H locs ls hP hS hl)
theorem r_dcmp (h : Ok G X own cc nL rm) {x y : UInt64} {op : CmpOp} {v : Int32} (hv : Op.cmpValue (FP.dcmp x y) op = v) (d : decode cc pc = .ok (.dcmp op, 1)) (kk : V G X c lv k n (pc + 1) (.int v :: st)) : V G X c lv k n pc (.double y :: .double x :: st) := fun H locs ls hP hS hl => (fun z => lv_dcmp h.x h.b d (hv ▸ z)) (kk H locs ls hP hS hl)
theorem r_lcmp (h : Ok G X own cc nL rm) {x y : Int64} {v : Int32} (hv : lg_cmp x y = v) (d : decode cc pc = .ok (.lcmp, 1)) (kk : V G X c lv k n (pc + 1) (.int v :: st)) : V G X c lv k n pc (.long y :: .long x :: st) := fun H locs ls hP hS hl => (fun z => W.lcmp h.x h.b d (hv ▸ z)) (kk H locs ls hP hS hl)
theorem r_goto (h : Ok G X own cc nL rm) {off : Int} (tgt : Nat) (d : decode cc pc = .ok (.goto off, 3)) (ht : (pc : Int) + off = (tgt : Int)) (kk : V G X c lv k n tgt st) : V G X c lv k n pc st := fun H locs ls hP hS hl => lv_goto h.x h.b d ht (kk H locs ls hP hS hl)
theorem r_icmp_eq (h : Ok G X own cc nL rm) {x y : Int32} {off : Int} (tgt : Nat) (d : decode cc pc = .ok (.if_icmp .eq off, 3)) (ht : (pc : Int) + off = (tgt : Int)) (kt : x = y → V G X c lv k n tgt st) (kf : ¬ x = y → V G X c lv k n (pc + 3) st) : V G X c lv k n pc (.int y :: .int x :: st) := fun H locs ls hP hS hl => lv_icmp_eq h.x h.b d ht (fun z => kt z H locs ls hP hS hl) (fun z => kf z H locs ls hP hS hl)
theorem r_if_eq (h : Ok G X own cc nL rm) {x : Int32} {off : Int} (tgt : Nat) (d : decode cc pc = .ok (.ifCond .eq off, 3)) (ht : (pc : Int) + off = (tgt : Int)) (kt : x = 0 → V G X c lv k n tgt st) (kf : ¬ x = 0 → V G X c lv k n (pc + 3) st) : V G X c lv k n pc (.int x :: st) := fun H locs ls hP hS hl => lv_if_eq h.x h.b d ht (fun z => kt z H locs ls hP hS hl) (fun z => kf z H locs ls hP hS hl)
theorem r_icmp_ne (h : Ok G X own cc nL rm) {x y : Int32} {off : Int} (tgt : Nat) (d : decode cc pc = .ok (.if_icmp .ne off, 3)) (ht : (pc : Int) + off = (tgt : Int)) (kt : ¬ x = y → V G X c lv k n tgt st) (kf : x = y → V G X c lv k n (pc + 3) st) : V G X c lv k n pc (.int y :: .int x :: st) := fun H locs ls hP hS hl => lv_icmp_ne h.x h.b d ht (fun z => kt z H locs ls hP hS hl) (fun z => kf z H locs ls hP hS hl)
theorem r_if_ne (h : Ok G X own cc nL rm) {x : Int32} {off : Int} (tgt : Nat) (d : decode cc pc = .ok (.ifCond .ne off, 3)) (ht : (pc : Int) + off = (tgt : Int)) (kt : ¬ x = 0 → V G X c lv k n tgt st) (kf : x = 0 → V G X c lv k n (pc + 3) st) : V G X c lv k n pc (.int x :: st) := fun H locs ls hP hS hl => lv_if_ne h.x h.b d ht (fun z => kt z H locs ls hP hS hl) (fun z => kf z H locs ls hP hS hl)
theorem r_icmp_lt (h : Ok G X own cc nL rm) {x y : Int32} {off : Int} (tgt : Nat) (d : decode cc pc = .ok (.if_icmp .lt off, 3)) (ht : (pc : Int) + off = (tgt : Int)) (kt : x < y → V G X c lv k n tgt st) (kf : ¬ x < y → V G X c lv k n (pc + 3) st) : V G X c lv k n pc (.int y :: .int x :: st) := fun H locs ls hP hS hl => lv_icmp_lt h.x h.b d ht (fun z => kt z H locs ls hP hS hl) (fun z => kf z H locs ls hP hS hl)
theorem r_if_lt (h : Ok G X own cc nL rm) {x : Int32} {off : Int} (tgt : Nat) (d : decode cc pc = .ok (.ifCond .lt off, 3)) (ht : (pc : Int) + off = (tgt : Int)) (kt : x < 0 → V G X c lv k n tgt st) (kf : ¬ x < 0 → V G X c lv k n (pc + 3) st) : V G X c lv k n pc (.int x :: st) := fun H locs ls hP hS hl => lv_if_lt h.x h.b d ht (fun z => kt z H locs ls hP hS hl) (fun z => kf z H locs ls hP hS hl)
theorem r_icmp_le (h : Ok G X own cc nL rm) {x y : Int32} {off : Int} (tgt : Nat) (d : decode cc pc = .ok (.if_icmp .le off, 3)) (ht : (pc : Int) + off = (tgt : Int)) (kt : x ≤ y → V G X c lv k n tgt st) (kf : ¬ x ≤ y → V G X c lv k n (pc + 3) st) : V G X c lv k n pc (.int y :: .int x :: st) := fun H locs ls hP hS hl => lv_icmp_le h.x h.b d ht (fun z => kt z H locs ls hP hS hl) (fun z => kf z H locs ls hP hS hl)
theorem r_if_le (h : Ok G X own cc nL rm) {x : Int32} {off : Int} (tgt : Nat) (d : decode cc pc = .ok (.ifCond .le off, 3)) (ht : (pc : Int) + off = (tgt : Int)) (kt : x ≤ 0 → V G X c lv k n tgt st) (kf : ¬ x ≤ 0 → V G X c lv k n (pc + 3) st) : V G X c lv k n pc (.int x :: st) := fun H locs ls hP hS hl => lv_if_le h.x h.b d ht (fun z => kt z H locs ls hP hS hl) (fun z => kf z H locs ls hP hS hl)
theorem r_icmp_gt (h : Ok G X own cc nL rm) {x y : Int32} {off : Int} (tgt : Nat) (d : decode cc pc = .ok (.if_icmp .gt off, 3)) (ht : (pc : Int) + off = (tgt : Int)) (kt : y < x → V G X c lv k n tgt st) (kf : ¬ y < x → V G X c lv k n (pc + 3) st) : V G X c lv k n pc (.int y :: .int x :: st) := fun H locs ls hP hS hl => lv_icmp_gt h.x h.b d ht (fun z => kt z H locs ls hP hS hl) (fun z => kf z H locs ls hP hS hl)
theorem r_if_gt (h : Ok G X own cc nL rm) {x : Int32} {off : Int} (tgt : Nat) (d : decode cc pc = .ok (.ifCond .gt off, 3)) (ht : (pc : Int) + off = (tgt : Int)) (kt : 0 < x → V G X c lv k n tgt st) (kf : ¬ 0 < x → V G X c lv k n (pc + 3) st) : V G X c lv k n pc (.int x :: st) := fun H locs ls hP hS hl => lv_if_gt h.x h.b d ht (fun z => kt z H locs ls hP hS hl) (fun z => kf z H locs ls hP hS hl)
theorem r_icmp_ge (h : Ok G X own cc nL rm) {x y : Int32} {off : Int} (tgt : Nat) (d : decode cc pc = .ok (.if_icmp .ge off, 3)) (ht : (pc : Int) + off = (tgt : Int)) (kt : y ≤ x → V G X c lv k n tgt st) (kf : ¬ y ≤ x → V G X c lv k n (pc + 3) st) : V G X c lv k n pc (.int y :: .int x :: st) := fun H locs ls hP hS hl => lv_icmp_ge h.x h.b d ht (fun z => kt z H locs ls hP hS hl) (fun z => kf z H locs ls hP hS hl)
theorem r_if_ge (h : Ok G X own cc nL rm) {x : Int32} {off : Int} (tgt : Nat) (d : decode cc pc = .ok (.ifCond .ge off, 3)) (ht : (pc : Int) + off = (tgt : Int)) (kt : 0 ≤ x → V G X c lv k n tgt st) (kf : ¬ 0 ≤ x → V G X c lv k n (pc + 3) st) : V G X c lv k n pc (.int x :: st) := fun H locs ls hP hS hl => lv_if_ge h.x h.b d ht (fun z => kt z H locs ls hP hS hl) (fun z => kf z H locs ls hP hS hl)
theorem rn_icmp_eq (h : Ok G X own cc nL rm) {a b : Nat} (ha : a < 2147483648) (hb : b < 2147483648) {off : Int} (tgt : Nat) (d : decode cc pc = .ok (.if_icmp .eq off, 3)) (ht : (pc : Int) + off = (tgt : Int)) (kt : a = b → V G X c lv k n tgt st) (kf : ¬ a = b → V G X c lv k n (pc + 3) st) : V G X c lv k n pc (.int (nI b) :: .int (nI a) :: st) := r_icmp_eq h tgt d ht (fun z => kt ((nI_eq ha hb).mp z)) (fun z => kf (fun q => z ((nI_eq ha hb).mpr q)))
theorem rn_icmp_ne (h : Ok G X own cc nL rm) {a b : Nat} (ha : a < 2147483648) (hb : b < 2147483648) {off : Int} (tgt : Nat) (d : decode cc pc = .ok (.if_icmp .ne off, 3)) (ht : (pc : Int) + off = (tgt : Int)) (kt : ¬ a = b → V G X c lv k n tgt st) (kf : a = b → V G X c lv k n (pc + 3) st) : V G X c lv k n pc (.int (nI b) :: .int (nI a) :: st) := r_icmp_ne h tgt d ht (fun z => kt (fun q => z ((nI_eq ha hb).mpr q))) (fun z => kf ((nI_eq ha hb).mp z))
theorem rn_icmp_lt (h : Ok G X own cc nL rm) {a b : Nat} (ha : a < 2147483648) (hb : b < 2147483648) {off : Int} (tgt : Nat) (d : decode cc pc = .ok (.if_icmp .lt off, 3)) (ht : (pc : Int) + off = (tgt : Int)) (kt : a < b → V G X c lv k n tgt st) (kf : b ≤ a → V G X c lv k n (pc + 3) st) : V G X c lv k n pc (.int (nI b) :: .int (nI a) :: st) := r_icmp_lt h tgt d ht (fun z => kt ((nI_ltI ha hb).mp z)) (fun z => kf (Nat.le_of_not_lt (fun q => z ((nI_ltI ha hb).mpr q))))
theorem rn_icmp_le (h : Ok G X own cc nL rm) {a b : Nat} (ha : a < 2147483648) (hb : b < 2147483648) {off : Int} (tgt : Nat) (d : decode cc pc = .ok (.if_icmp .le off, 3)) (ht : (pc : Int) + off = (tgt : Int)) (kt : a ≤ b → V G X c lv k n tgt st) (kf : b < a → V G X c lv k n (pc + 3) st) : V G X c lv k n pc (.int (nI b) :: .int (nI a) :: st) := r_icmp_le h tgt d ht (fun z => kt ((nI_leI ha hb).mp z)) (fun z => kf (Nat.lt_of_not_le (fun q => z ((nI_leI ha hb).mpr q))))
theorem rn_icmp_gt (h : Ok G X own cc nL rm) {a b : Nat} (ha : a < 2147483648) (hb : b < 2147483648) {off : Int} (tgt : Nat) (d : decode cc pc = .ok (.if_icmp .gt off, 3)) (ht : (pc : Int) + off = (tgt : Int)) (kt : b < a → V G X c lv k n tgt st) (kf : a ≤ b → V G X c lv k n (pc + 3) st) : V G X c lv k n pc (.int (nI b) :: .int (nI a) :: st) := r_icmp_gt h tgt d ht (fun z => kt ((nI_ltI hb ha).mp z)) (fun z => kf (Nat.le_of_not_lt (fun q => z ((nI_ltI hb ha).mpr q))))
theorem rn_icmp_ge (h : Ok G X own cc nL rm) {a b : Nat} (ha : a < 2147483648) (hb : b < 2147483648) {off : Int} (tgt : Nat) (d : decode cc pc = .ok (.if_icmp .ge off, 3)) (ht : (pc : Int) + off = (tgt : Int)) (kt : b ≤ a → V G X c lv k n tgt st) (kf : a < b → V G X c lv k n (pc + 3) st) : V G X c lv k n pc (.int (nI b) :: .int (nI a) :: st) := r_icmp_ge h tgt d ht (fun z => kt ((nI_leI hb ha).mp z)) (fun z => kf (Nat.lt_of_not_le (fun q => z ((nI_leI hb ha).mpr q))))
theorem rn_if_lt (h : Ok G X own cc nL rm) {a : Nat} (ha : a < 2147483648) {off : Int} (tgt : Nat) (d : decode cc pc = .ok (.ifCond .lt off, 3)) (ht : (pc : Int) + off = (tgt : Int)) (kf : V G X c lv k n (pc + 3) st) : V G X c lv k n pc (.int (nI a) :: st) := r_if_lt h tgt d ht (fun z => absurd z (nI_pos ha)) (fun _ => kf)
theorem rn_if_ge (h : Ok G X own cc nL rm) {a : Nat} (ha : a < 2147483648) {off : Int} (tgt : Nat) (d : decode cc pc = .ok (.ifCond .ge off, 3)) (ht : (pc : Int) + off = (tgt : Int)) (kt : V G X c lv k n tgt st) : V G X c lv k n pc (.int (nI a) :: st) := r_if_ge h tgt d ht (fun _ => kt) (fun z => absurd (nI_pos' ha) z)
theorem nI_zero {a : Nat} (ha : a < 2147483648) : nI a = 0 ↔ a = 0 := by
  have := nI_eq (a := a) (b := 0) ha (by decide)
  rw [nI_0] at this
  exact this
theorem nI_le0 {a : Nat} (ha : a < 2147483648) : nI a ≤ 0 ↔ a = 0 := by
  have := nI_leI (a := a) (b := 0) ha (by decide)
  rw [nI_0] at this
  rw [this]
  omega
theorem rn_if_eq (h : Ok G X own cc nL rm) {a : Nat} (ha : a < 2147483648) {off : Int} (tgt : Nat) (d : decode cc pc = .ok (.ifCond .eq off, 3)) (ht : (pc : Int) + off = (tgt : Int)) (kt : a = 0 → V G X c lv k n tgt st) (kf : ¬ a = 0 → V G X c lv k n (pc + 3) st) : V G X c lv k n pc (.int (nI a) :: st) := r_if_eq h tgt d ht (fun z => kt ((nI_zero ha).mp z)) (fun z => kf (fun q => z ((nI_zero ha).mpr q)))
theorem rn_if_ne (h : Ok G X own cc nL rm) {a : Nat} (ha : a < 2147483648) {off : Int} (tgt : Nat) (d : decode cc pc = .ok (.ifCond .ne off, 3)) (ht : (pc : Int) + off = (tgt : Int)) (kt : ¬ a = 0 → V G X c lv k n tgt st) (kf : a = 0 → V G X c lv k n (pc + 3) st) : V G X c lv k n pc (.int (nI a) :: st) := r_if_ne h tgt d ht (fun z => kt (fun q => z ((nI_zero ha).mpr q))) (fun z => kf ((nI_zero ha).mp z))
theorem rn_if_le (h : Ok G X own cc nL rm) {a : Nat} (ha : a < 2147483648) {off : Int} (tgt : Nat) (d : decode cc pc = .ok (.ifCond .le off, 3)) (ht : (pc : Int) + off = (tgt : Int)) (kt : a = 0 → V G X c lv k n tgt st) (kf : ¬ a = 0 → V G X c lv k n (pc + 3) st) : V G X c lv k n pc (.int (nI a) :: st) := r_if_le h tgt d ht (fun z => kt ((nI_le0 ha).mp z)) (fun z => kf (fun q => z ((nI_le0 ha).mpr q)))
theorem rb_if_eq (h : Ok G X own cc nL rm) {p : Prop} [Decidable p] {off : Int} (tgt : Nat) (d : decode cc pc = .ok (.ifCond .eq off, 3)) (ht : (pc : Int) + off = (tgt : Int)) (kt : ¬ p → V G X c lv k n tgt st) (kf : p → V G X c lv k n (pc + 3) st) : V G X c lv k n pc (.int (if p then 1 else 0) :: st) := by
  by_cases hp : p
  · rw [if_pos hp]
    exact r_if_eq h tgt d ht (fun z => absurd z (by decide)) (fun _ => kf hp)
  · rw [if_neg hp]
    exact r_if_eq h tgt d ht (fun _ => kt hp) (fun z => absurd rfl z)
theorem rb_if_ne (h : Ok G X own cc nL rm) {p : Prop} [Decidable p] {off : Int} (tgt : Nat) (d : decode cc pc = .ok (.ifCond .ne off, 3)) (ht : (pc : Int) + off = (tgt : Int)) (kt : p → V G X c lv k n tgt st) (kf : ¬ p → V G X c lv k n (pc + 3) st) : V G X c lv k n pc (.int (if p then 1 else 0) :: st) := by
  by_cases hp : p
  · rw [if_pos hp]
    exact r_if_ne h tgt d ht (fun _ => kt hp) (fun z => absurd z (by decide))
  · rw [if_neg hp]
    exact r_if_ne h tgt d ht (fun z => absurd rfl z) (fun _ => kf hp)
theorem r_tableIn (h : Ok G X own cc nL rm) {dflt lo hi : Int} {offs : Array Int} {len : Nat} {x : Int32} {off : Int} (tgt : Nat) (d : decode cc pc = .ok (.tableswitch dflt lo hi offs, len)) (h1 : ¬ x.toInt < lo) (h2 : ¬ hi < x.toInt) (ho : offs[(x.toInt - lo).toNat]? = some off) (ht : (pc : Int) + off = (tgt : Int)) (kk : V G X c lv k n tgt st) : V G X c lv k n pc (.int x :: st) := fun H locs ls hP hS hl => lv_tableIn h.x h.b d h1 h2 ho ht (kk H locs ls hP hS hl)
theorem r_tableOut (h : Ok G X own cc nL rm) {dflt lo hi : Int} {offs : Array Int} {len : Nat} {x : Int32} (tgt : Nat) (d : decode cc pc = .ok (.tableswitch dflt lo hi offs, len)) (h1 : x.toInt < lo ∨ hi < x.toInt) (ht : (pc : Int) + dflt = (tgt : Int)) (kk : V G X c lv k n tgt st) : V G X c lv k n pc (.int x :: st) := fun H locs ls hP hS hl => lv_tableOut h.x h.b d h1 ht (kk H locs ls hP hS hl)
/-- a field: its link, its place -/
def FL (own : String) (ix : Nat) (C : String) (T : u_T) (N ci j : Nat) : Prop := vwCl[ci]? = some (C, T, N) ∧ j < N ∧ Cond.fieldLink own ix (T j).1 (T j).2.1 (T j).2.2.1 ∈ gws ∧ ∀ w ∈ u_ws C T N, w ∈ gws
def FN (own : String) (ix : Nat) (C : String) (T : u_T) (N ci j : Nat) (host : String) : Prop := vwCl[ci]? = some (C, T, N) ∧ j < N ∧ Cond.fieldLinkNest own ix (T j).1 (T j).2.1 (T j).2.2.1 host ∈ nwW ∧ ∀ w ∈ u_ws C T N, w ∈ gws
theorem r_getf (h : Ok G X own cc nL rm) {ix : Nat} {C : String} {T : u_T} {N ci j : Nat} (F : FL own ix C T N ci j) {i : Nat} (hi : i < 49) {fs : List Value} (hc : c i = .inr (ci, fs)) {v : Value} (hv : fs[j]? = some v) (d : decode cc pc = .ok (.getfield ix, 3)) (kk : V G X c lv k n (pc + 3) (v :: st)) : V G X c lv k n pc (.ref (G.1 i) :: st) := fun H locs ls hP hS hl => va_get h.x h.b h.w F.2.2.2 h.o h.k.1 hP i (by rw [wl_at hi, hc]) F.1 j F.2.1 (h.w _ F.2.2.1) (fun _ z => z) hv d (kk H locs ls hP hS hl)
theorem r_getN (h : Ok G X own cc nL rm) {ix : Nat} {C host : String} {T : u_T} {N ci j : Nat} (F : FN own ix C T N ci j host) {i : Nat} (hi : i < 49) {fs : List Value} (hc : c i = .inr (ci, fs)) {v : Value} (hv : fs[j]? = some v) (d : decode cc pc = .ok (.getfield ix, 3)) (kk : V G X c lv k n (pc + 3) (v :: st)) : V G X c lv k n pc (.ref (G.1 i) :: st) := fun H locs ls hP hS hl => va_getN h.x h.b h.w F.2.2.2 h.o h.k.1 hP i (by rw [wl_at hi, hc]) F.1 j F.2.1 (va_Nw.use rfl (h.k.2.1 _ F.2.2.1)) (fun _ z => z) hv d (kk H locs ls hP hS hl)
def FT (C : String) (T : u_T) (N : Nat) (tyf : Nat → FieldType) : Prop := (∀ k, k < N → parseFieldDescriptor (T k).2.2.1 = some (tyf k)) ∧ ∀ a, a < N → ∀ b, b < N → a ≠ b → (T a).2.1 ≠ (T b).2.1
theorem r_putf (h : Ok G X own cc nL rm) {ix : Nat} {C : String} {T : u_T} {N ci j : Nat} (F : FL own ix C T N ci j) {tyf : Nat → FieldType} (FF : FT C T N tyf) {i : Nat} (hi : i < 49) {fs : List Value} (hc : c i = .inr (ci, fs)) {v : Value} (fs' : List Value) (hfs : fs.set j v = fs') (hfin : (T j).2.2.2 = false) (hn : narrow (tyf j) v = v) (hfit : fits (tyf j) v = true) (hlt : j < fs.length) (d : decode cc pc = .ok (.putfield ix, 3)) (kk : ∀ c1 : CC, c1 i = .inr (ci, fs') → (∀ j : Nat, j ≠ i → c1 j = c j) → V G X c1 lv k n (pc + 3) st) : V G X c lv k n pc (v :: .ref (G.1 i) :: st) := by
  intro H locs ls hP hS hl
  refine va_put h.x h.b h.w F.2.2.2 tyf FF.1 FF.2 h.o h.k.1 hP (wl_D h.i) hS i (by rw [wl_at hi, hc]) F.1 j F.2.1 (h.w _ F.2.2.1) (fun _ z => z) hfin (FF.1 j F.2.1) hn hfit hlt d (fun H1 locs1 hP1 _ hS1 => ?_)
  rw [hfs, wl_set (c1 := va_up c i (.inr (ci, fs'))) hi (va_up_self c i _) (fun j hj => va_up_ne c _ hj)] at hP1
  exact kk _ (va_up_self c i _) (fun j hj => va_up_ne c _ hj) H1 locs1 ls hP1 hS1 hl
theorem r_putN (h : Ok G X own cc nL rm) {ix : Nat} {C host : String} {T : u_T} {N ci j : Nat} (F : FN own ix C T N ci j host) {tyf : Nat → FieldType} (FF : FT C T N tyf) {i : Nat} (hi : i < 49) {fs : List Value} (hc : c i = .inr (ci, fs)) {v : Value} (fs' : List Value) (hfs : fs.set j v = fs') (hfin : (T j).2.2.2 = false) (hn : narrow (tyf j) v = v) (hfit : fits (tyf j) v = true) (hlt : j < fs.length) (d : decode cc pc = .ok (.putfield ix, 3)) (kk : ∀ c1 : CC, c1 i = .inr (ci, fs') → (∀ j : Nat, j ≠ i → c1 j = c j) → V G X c1 lv k n (pc + 3) st) : V G X c lv k n pc (v :: .ref (G.1 i) :: st) := by
  intro H locs ls hP hS hl
  refine va_putN h.x h.b h.w F.2.2.2 tyf FF.1 FF.2 h.o h.k.1 hP (wl_D h.i) hS i (by rw [wl_at hi, hc]) F.1 j F.2.1 (va_Nw.use rfl (h.k.2.1 _ F.2.2.1)) (fun _ z => z) hfin (FF.1 j F.2.1) hn hfit hlt d (fun H1 locs1 hP1 _ hS1 => ?_)
  rw [hfs, wl_set (c1 := va_up c i (.inr (ci, fs'))) hi (va_up_self c i _) (fun j hj => va_up_ne c _ hj)] at hP1
  exact kk _ (va_up_self c i _) (fun j hj => va_up_ne c _ hj) H1 locs1 ls hP1 hS1 hl
theorem r_alen (h : Ok G X own cc nL rm) {i : Nat} (hi : i < 49) (t0 : Nat) {cA : ClassId} {x : vp_A} (hc : c i = .inl (cA, x)) {ty : FieldType} (ht : (gl_tys G)[t0]? = some (cA, ty)) (d : decode cc pc = .ok (.arraylength, 1)) (kk : V G X c lv k n (pc + 1) (.int (nI x.1) :: st)) : V G X c lv k n pc (.ref (G.1 i) :: st) := fun H locs ls hP hS hl => va_alen h.x h.b h.k.1 hP i t0 (by rw [wl_at hi, hc]) ht rfl d (kk H locs ls hP hS hl)
theorem r_iald (h : Ok G X own cc nL rm) {i : Nat} (hi : i < 49) {N : Nat} {f : Nat → Int32} (hc : c i = .inl (G.2.2.2 0, N, .inl f)) {x : Nat} (hx : x < N) (hN : N < 2147483648) (d : decode cc pc = .ok (.iaload, 1)) (kk : V G X c lv k n (pc + 1) (.int (f x) :: st)) : V G X c lv k n pc (.int (nI x) :: .ref (G.1 i) :: st) := fun H locs ls hP hS hl => va_iald h.x h.b h.k.1 hP i 0 (by rw [wl_at hi, hc]) rfl (vp_in_nI hx hN) d (by rw [nI_clamp (Nat.lt_trans hx hN)]; exact kk H locs ls hP hS hl)
theorem r_lald (h : Ok G X own cc nL rm) {i : Nat} (hi : i < 49) {N : Nat} {f : Nat → Int64} (hc : c i = .inl (G.2.2.2 1, N, .inr (.inl f))) {x : Nat} (hx : x < N) (hN : N < 2147483648) (d : decode cc pc = .ok (.laload, 1)) (kk : V G X c lv k n (pc + 1) (.long (f x) :: st)) : V G X c lv k n pc (.int (nI x) :: .ref (G.1 i) :: st) := fun H locs ls hP hS hl => va_lald h.x h.b h.k.1 hP i 1 (by rw [wl_at hi, hc]) rfl (vp_in_nI hx hN) d (by rw [nI_clamp (Nat.lt_trans hx hN)]; exact kk H locs ls hP hS hl)
theorem r_zald (h : Ok G X own cc nL rm) {i : Nat} (hi : i < 49) {N : Nat} {f : Nat → Int32} (hc : c i = .inl (G.2.2.2 2, N, .inl f)) {x : Nat} (hx : x < N) (hN : N < 2147483648) (d : decode cc pc = .ok (.baload, 1)) (kk : V G X c lv k n (pc + 1) (.int (f x) :: st)) : V G X c lv k n pc (.int (nI x) :: .ref (G.1 i) :: st) := fun H locs ls hP hS hl => va_zald h.x h.b h.k.1 hP i 2 (by rw [wl_at hi, hc]) rfl (vp_in_nI hx hN) d (by rw [nI_clamp (Nat.lt_trans hx hN)]; exact kk H locs ls hP hS hl)
theorem r_dald (h : Ok G X own cc nL rm) {i : Nat} (hi : i < 49) {N : Nat} {f : Nat → UInt64} (hc : c i = .inl (G.2.2.2 3, N, .inr (.inr (.inr (.inl f))))) {x : Nat} (hx : x < N) (hN : N < 2147483648) (d : decode cc pc = .ok (.daload, 1)) (kk : V G X c lv k n (pc + 1) (.double (f x) :: st)) : V G X c lv k n pc (.int (nI x) :: .ref (G.1 i) :: st) := fun H locs ls hP hS hl => va_dald h.x h.b h.k.1 hP i 3 (by rw [wl_at hi, hc]) rfl (vp_in_nI hx hN) d (by rw [nI_clamp (Nat.lt_trans hx hN)]; exact kk H locs ls hP hS hl)
theorem r_aald (h : Ok G X own cc nL rm) {i : Nat} (hi : i < 49) {N cy : Nat} {C : String} {f : Nat → Option Nat} {a : Nat} (hc : c i = .inl (G.2.2.2 cy, N, .inr (.inr (.inr (.inr f))))) (ht : (gl_tys G)[cy]? = some (G.2.2.2 cy, .object C)) {x : Nat} (hx : x < N) (hN : N < 2147483648) (hf : f x = some a) (d : decode cc pc = .ok (.aaload, 1)) (kk : V G X c lv k n (pc + 1) (.ref a :: st)) : V G X c lv k n pc (.int (nI x) :: .ref (G.1 i) :: st) := fun H locs ls hP hS hl => va_aldq h.x h.b h.k.1 hP i cy (by rw [wl_at hi, hc]) ht (vp_in_nI hx hN) d (by rw [nI_clamp (Nat.lt_trans hx hN), hf]; exact kk H locs ls hP hS hl)
theorem r_iast (h : Ok G X own cc nL rm) {i : Nat} (hi : i < 49) {N : Nat} {f : Nat → Int32} (hc : c i = .inl (G.2.2.2 0, N, .inl (f))) {x : Nat} {v : Int32} (hx : x < N) (hN : N < 2147483648) (d : decode cc pc = .ok (.iastore, 1)) (kk : ∀ c1 : CC, c1 i = .inl (G.2.2.2 0, N, .inl (upd f x v)) → (∀ j : Nat, j ≠ i → c1 j = c j) → V G X c1 lv k n (pc + 1) st) : V G X c lv k n pc (.int v :: .int (nI x) :: .ref (G.1 i) :: st) := by
  intro H locs ls hP hS hl
  refine va_iast h.x h.b h.k.1 hP (wl_D h.i) hS i 0 (by rw [wl_at hi, hc]) rfl (vp_in_nI hx hN) d (fun H1 locs1 hP1 _ hS1 => ?_)
  rw [nI_clamp (Nat.lt_trans hx hN), wl_set (c1 := va_up c i _) hi (va_up_self c i _) (fun j hj => va_up_ne c _ hj)] at hP1
  exact kk _ (va_up_self c i _) (fun j hj => va_up_ne c _ hj) H1 locs1 ls hP1 hS1 hl
theorem r_last (h : Ok G X own cc nL rm) {i : Nat} (hi : i < 49) {N : Nat} {f : Nat → Int64} (hc : c i = .inl (G.2.2.2 1, N, .inr (.inl (f)))) {x : Nat} {v : Int64} (hx : x < N) (hN : N < 2147483648) (d : decode cc pc = .ok (.lastore, 1)) (kk : ∀ c1 : CC, c1 i = .inl (G.2.2.2 1, N, .inr (.inl (vp_updL f x v))) → (∀ j : Nat, j ≠ i → c1 j = c j) → V G X c1 lv k n (pc + 1) st) : V G X c lv k n pc (.long v :: .int (nI x) :: .ref (G.1 i) :: st) := by
  intro H locs ls hP hS hl
  refine va_last h.x h.b h.k.1 hP (wl_D h.i) hS i 1 (by rw [wl_at hi, hc]) rfl (vp_in_nI hx hN) d (fun H1 locs1 hP1 _ hS1 => ?_)
  rw [nI_clamp (Nat.lt_trans hx hN), wl_set (c1 := va_up c i _) hi (va_up_self c i _) (fun j hj => va_up_ne c _ hj)] at hP1
  exact kk _ (va_up_self c i _) (fun j hj => va_up_ne c _ hj) H1 locs1 ls hP1 hS1 hl
theorem r_zast (h : Ok G X own cc nL rm) {i : Nat} (hi : i < 49) {N : Nat} {f : Nat → Int32} (hc : c i = .inl (G.2.2.2 2, N, .inl (f))) {x : Nat} {v : Int32} (hx : x < N) (hN : N < 2147483648) (d : decode cc pc = .ok (.bastore, 1)) (kk : ∀ c1 : CC, c1 i = .inl (G.2.2.2 2, N, .inl (upd f x (vp_nar .boolean v))) → (∀ j : Nat, j ≠ i → c1 j = c j) → V G X c1 lv k n (pc + 1) st) : V G X c lv k n pc (.int v :: .int (nI x) :: .ref (G.1 i) :: st) := by
  intro H locs ls hP hS hl
  refine va_zast h.x h.b h.k.1 hP (wl_D h.i) hS i 2 (by rw [wl_at hi, hc]) rfl (vp_in_nI hx hN) d (fun H1 locs1 hP1 _ hS1 => ?_)
  rw [nI_clamp (Nat.lt_trans hx hN), wl_set (c1 := va_up c i _) hi (va_up_self c i _) (fun j hj => va_up_ne c _ hj)] at hP1
  exact kk _ (va_up_self c i _) (fun j hj => va_up_ne c _ hj) H1 locs1 ls hP1 hS1 hl
theorem r_dast (h : Ok G X own cc nL rm) {i : Nat} (hi : i < 49) {N : Nat} {f : Nat → UInt64} (hc : c i = .inl (G.2.2.2 3, N, .inr (.inr (.inr (.inl (f)))))) {x : Nat} {v : UInt64} (hx : x < N) (hN : N < 2147483648) (d : decode cc pc = .ok (.dastore, 1)) (kk : ∀ c1 : CC, c1 i = .inl (G.2.2.2 3, N, .inr (.inr (.inr (.inl (vf_upd f x v))))) → (∀ j : Nat, j ≠ i → c1 j = c j) → V G X c1 lv k n (pc + 1) st) : V G X c lv k n pc (.double v :: .int (nI x) :: .ref (G.1 i) :: st) := by
  intro H locs ls hP hS hl
  refine va_dast h.x h.b h.k.1 hP (wl_D h.i) hS i 3 (by rw [wl_at hi, hc]) rfl (vp_in_nI hx hN) d (fun H1 locs1 hP1 _ hS1 => ?_)
  rw [nI_clamp (Nat.lt_trans hx hN), wl_set (c1 := va_up c i _) hi (va_up_self c i _) (fun j hj => va_up_ne c _ hj)] at hP1
  exact kk _ (va_up_self c i _) (fun j hj => va_up_ne c _ hj) H1 locs1 ls hP1 hS1 hl
end ROWS
section ENDS
variable {G : GG} {X : CX} {own : String} {cc : ByteArray} {nL : Nat} {rm : Room} {c c0 : CC} {lv : LV} {k n pc : Nat} {st : List Value} {post : Option Value → CC → Prop} {px : String → Prop}
theorem r_iret (h : Ok G X own cc nL rm) (hQ : OkQ G X post px c0 rm) (hr : (xh X).sig.returnType = some .int) {v : Int32} (d : decode cc pc = .ok (.ireturn, 1)) (hk : k ≤ rm.cells ∧ n ≤ rm.slots) (hp : post (some (.int v)) c) : V G X c lv k n pc [.int v] := by
  intro H locs ls hP hS hl
  rw [show xQ X = _ from hQ]
  refine vx_ret ?_
  refine W.widen hk.1 hk.2 ?_
  exact W.iret h.x h.b hr (fun t ht hW => ⟨⟨_, c, rfl, hp, by rw [ht]; exact hP⟩, hS.F ht⟩) hS.2.2 d h.l
theorem r_zret (h : Ok G X own cc nL rm) (hQ : OkQ G X post px c0 rm) (hr : (xh X).sig.returnType = some .boolean) {v : Int32} (hv : narrow .boolean (.int v) = .int v) (d : decode cc pc = .ok (.ireturn, 1)) (hk : k ≤ rm.cells ∧ n ≤ rm.slots) (hp : post (some (.int v)) c) : V G X c lv k n pc [.int v] := by
  intro H locs ls hP hS hl
  rw [show xQ X = _ from hQ]
  refine vx_ret ?_
  refine W.widen hk.1 hk.2 ?_
  exact W.zret h.x h.b hr hv (fun t ht hW => ⟨⟨_, c, rfl, hp, by rw [ht]; exact hP⟩, hS.F ht⟩) hS.2.2 d h.l
theorem r_lret (h : Ok G X own cc nL rm) (hQ : OkQ G X post px c0 rm) (hr : (xh X).sig.returnType = some .long) {v : Int64} (d : decode cc pc = .ok (.lreturn, 1)) (hk : k ≤ rm.cells ∧ n ≤ rm.slots) (hp : post (some (.long v)) c) : V G X c lv k n pc [.long v] := by
  intro H locs ls hP hS hl
  rw [show xQ X = _ from hQ]
  refine vx_ret ?_
  refine W.widen hk.1 hk.2 ?_
  exact W.lret h.x h.b hr (fun t ht hW => ⟨⟨_, c, rfl, hp, by rw [ht]; exact hP⟩, hS.F ht⟩) hS.2.2 d h.l
theorem r_fret (h : Ok G X own cc nL rm) (hQ : OkQ G X post px c0 rm) (hr : (xh X).sig.returnType = some .float) {v : UInt32} (d : decode cc pc = .ok (.freturn, 1)) (hk : k ≤ rm.cells ∧ n ≤ rm.slots) (hp : post (some (.float v)) c) : V G X c lv k n pc [.float v] := by
  intro H locs ls hP hS hl
  rw [show xQ X = _ from hQ]
  refine vx_ret ?_
  refine W.widen hk.1 hk.2 ?_
  exact W.fret h.x h.b hr (fun t ht hW => ⟨⟨_, c, rfl, hp, by rw [ht]; exact hP⟩, hS.F ht⟩) hS.2.2 d h.l
theorem r_dret (h : Ok G X own cc nL rm) (hQ : OkQ G X post px c0 rm) (hr : (xh X).sig.returnType = some .double) {v : UInt64} (d : decode cc pc = .ok (.dreturn, 1)) (hk : k ≤ rm.cells ∧ n ≤ rm.slots) (hp : post (some (.double v)) c) : V G X c lv k n pc [.double v] := by
  intro H locs ls hP hS hl
  rw [show xQ X = _ from hQ]
  refine vx_ret ?_
  refine W.widen hk.1 hk.2 ?_
  exact W.dret h.x h.b hr (fun t ht hW => ⟨⟨_, c, rfl, hp, by rw [ht]; exact hP⟩, hS.F ht⟩) hS.2.2 d h.l
theorem r_vret (h : Ok G X own cc nL rm) (hQ : OkQ G X post px c0 rm) (hr : (xh X).sig.returnType = none) (d : decode cc pc = .ok (.return_, 1)) (hk : k ≤ rm.cells ∧ n ≤ rm.slots) (hp : post none c) : V G X c lv k n pc [] := by
  intro H locs ls hP hS hl
  rw [show xQ X = _ from hQ]
  refine vx_ret ?_
  refine W.widen hk.1 hk.2 ?_
  exact W.vret h.x h.b hr (fun t ht hW => ⟨⟨_, c, rfl, hp, by rw [ht]; exact hP⟩, hS.F ht⟩) hS.2.2 d h.l
theorem r_aret {C : String} (h : Ok G X own cc nL rm) (hQ : OkQ G X post px c0 rm) (hr : (xh X).sig.returnType = some (.object C)) {v : Nat} (d : decode cc pc = .ok (.areturn, 1)) (hk : k ≤ rm.cells ∧ n ≤ rm.slots) (hp : post (some (.ref v)) c) : V G X c lv k n pc [.ref v] := by
  intro H locs ls hP hS hl
  rw [show xQ X = _ from hQ]
  refine vx_ret ?_
  refine W.widen hk.1 hk.2 ?_
  exact W.aret h.x h.b hr (Or.inl ⟨_, rfl⟩) (Or.inr ⟨_, rfl⟩) (fun t ht hW => ⟨⟨_, c, rfl, hp, by rw [ht]; exact hP⟩, hS.F ht⟩) hS.2.2 d h.l
theorem VX.out {E : String} {rest : List Value} (h : Ok G X own cc nL rm) (hN : NoT X) (hQ : OkQ G X post px c rm) (hk : k ≤ rm.cells ∧ n ≤ rm.slots) (hp : px E) : VX G X c lv k n pc rest E := by
  intro H locs ls q ce hP hS hl hce hcv hcl
  rw [show xQ X = _ from hQ]
  exact vx_out (fun x hx => (hN x hx).elim) h.l hce hcv hcl (fun t ht hW => ⟨hp, by rw [ht]; exact hP, hS.F ht⟩) hS.2.2 hk.1 hk.2
/-- caught by the row x of the table -/
theorem VX.catch {E name : String} {rest : List Value} {pre suf : List ExceptionTableEntry} {x : ExceptionTableEntry} (h : Ok G X own cc nL rm) (hsplit : (xc X).exceptionTable.toList = pre ++ x :: suf) (hpass : ∀ z ∈ pre, covers z pc = false ∨ (z.catchType ≠ 0 ∧ ∃ nm : String, Cond.classLink own z.catchType nm ∈ gws ∧ (E, nm) ∈ ncW)) (hx : covers x pc = true) (h0 : x.catchType ≠ 0) (hlink : Cond.classLink own x.catchType name ∈ gws) (hcast : Cond.castable E name ∈ nwW)
    (kk : ∀ q : Nat, V G X c lv k n x.handlerPc [.ref q]) : VX G X c lv k n pc rest E := by
  intro H locs ls q ce hP hS hl hce hcv hcl
  exact vx_catch h.o pre x suf hsplit (fun z hz => (hpass z hz).imp id (fun w => ⟨w.1, w.2.choose, h.w _ w.2.choose_spec.1, h.k.2.2.1 _ w.2.choose_spec.2⟩)) hx h0 (h.w _ hlink) (va_Nw.use rfl (h.k.2.1 _ hcast)) hce hcv hcl (kk q H locs ls hP hS hl)
/-- a call, from its run -/
theorem r_run {mc ms : Nat} {st0 rest : List Value} {av : Array Value} {post1 : Option Value → CC → Prop} {px1 : String → Prop}
    (hrun : ∀ (H : Heap) (locs : List Loc) (ls : Array Slot), Sy G c H → va_S (gA G (xs X).heap.size) (xs X).heap H locs → lv_has ls (xc X).maxLocals lv → vx_Run (xp X) (xl X) (xe X) (xR X) (xs X) (xm X) (xa X) (xb X) (xh X) (xc X) H locs k n mc ms (F0 (xm X) pc ls st0) rest (QcG G post1 H.size av) (XcG G px1 c H.size) (gA G H.size))
    (kx : ∀ E : String, px1 E → VX G X c lv (k + mc) (n + ms) pc rest E) (kk : ∀ (v : Option Value) (c1 : CC), post1 v c1 → V G X c1 lv (k + mc) (n + ms) (pc + 3) (v.toList ++ rest)) : V G X c lv k n pc st0 := by
  intro H locs ls hP hS hl T hT Y
  have hA : ∀ q, gA G H.size q → gA G (xs X).heap.size q := gA_mono hS.1
  rcases hrun H locs ls hP hS hl T hT Y with ⟨v, st₀, t, T', L, h0, Y', hL, e1, e2, ⟨⟨v', c1, hv, hp, hb⟩, hF⟩, sp⟩ | ⟨q, st₀, t, T', L, E, ce, h0, Y', hL, e1, e2, ⟨hpx, hSy, hF⟩, hce, hcv, hcl, sp⟩
  · cases hv
    obtain ⟨-, -, k3⟩ := vx_keep h0 e1 hS (fun q _ => hA q) (fun q => hA q) hL hF
    obtain ⟨t2, a1, b1⟩ := kk v c1 hp T'.heap (locs ++ L) ls (by rw [e1]; exact hb) k3 hl T' rfl Y'
    exact ⟨t2, sp t2 a1, b1⟩
  · obtain ⟨-, -, k3⟩ := vx_keep h0 e1 hS (fun q _ => hA q) (fun q => hA q) hL hF
    obtain ⟨t2, a1, b1⟩ := kx E hpx T'.heap (locs ++ L) ls q ce (by rw [e1]; exact hSy) k3 hl (by rw [e1]; exact hce) hcv hcl T' rfl Y'
    exact ⟨t2, sp.trans a1, b1⟩
theorem blindG {G : GG} {sz : Nat} {c : CC} {av : List Value} : FrameBlind (va_Pc av (PreG G sz c)) := fun a U g mk q => ⟨q.1, q.2.1, q.2.2.1, WdK.warm (U := U.calling g mk a) (State.WarmedH.refl U) q.2.2.2.1, WdZ.moved (U := U.calling g mk a) (Vm.Alike.refl U.vm) q.2.2.2.2⟩
theorem Ok.pre {H : Heap} {locs : List Loc} {av : List Value} (h : Ok G X own cc nL rm) (hP : Sy G c H) (hS : va_S (gA G (xs X).heap.size) (xs X).heap H locs) : ∀ U : State, U.heap = H → (xs X).WarmedH U.vm → va_Pc av (PreG G H.size c) av.toArray U := fun U hU hW => ⟨rfl, by rw [hU], by rw [hU]; exact hP, WdK.warm hW h.k, by rw [hU]; exact ((h.z.kept hS.2.1).moved hW.alike).narrow hS.1⟩
/-- what a call needs of the tables -/
def Lk (own : String) (ix : Nat) (y : MethodName) (bytes : ByteArray) (maxL : Nat) (ret : Option FieldType) (nn : Nat) : Prop := Cond.methodLink own ix y ∈ gws ∧ Cond.initialized y.cls ∈ gws ∧ Cond.code y bytes maxL ret ∈ gws ∧ (y.cls ≠ "java/lang/invoke/MethodHandle" ∧ y.cls ≠ "java/lang/invoke/VarHandle" ∧ (parseMethodDescriptor y.desc).map (fun d => d.parameters.length) = some nn)
def LkV (own : String) (ix : Nat) (y : MethodName) (bytes : ByteArray) (maxL : Nat) (ret : Option FieldType) (nn : Nat) : Prop := Lk own ix y bytes maxL ret nn ∧ Cond.instanceMethod y ∈ gws ∧ Cond.selects y.cls y y ∈ gws
def LkS (own : String) (ix : Nat) (y : MethodName) (bytes : ByteArray) (maxL : Nat) (ret : Option FieldType) (nn : Nat) : Prop := Lk own ix y bytes maxL ret nn ∧ Cond.static y ∈ gws
def LkN (own : String) (ix : Nat) (y : MethodName) (host : String) (bytes : ByteArray) (maxL : Nat) (ret : Option FieldType) (nn : Nat) : Prop := Cond.methodLinkNest own ix y host ∈ nwW ∧ Cond.initialized y.cls ∈ gws ∧ Cond.code y bytes maxL ret ∈ gws ∧ (y.cls ≠ "java/lang/invoke/MethodHandle" ∧ y.cls ≠ "java/lang/invoke/VarHandle" ∧ (parseMethodDescriptor y.desc).map (fun d => d.parameters.length) = some nn) ∧ Cond.static y ∈ gws
def LkW (own : String) (ix : Nat) (y : MethodName) (bytes : ByteArray) (maxL : Nat) (ret : Option FieldType) (hh : List (Nat × Nat × Nat × Nat)) (nn : Nat) : Prop := Cond.methodLink own ix y ∈ gws ∧ Cond.initialized y.cls ∈ gws ∧ Cond.codeWith y bytes maxL ret hh ∈ gws ∧ (y.cls ≠ "java/lang/invoke/MethodHandle" ∧ y.cls ≠ "java/lang/invoke/VarHandle" ∧ (parseMethodDescriptor y.desc).map (fun d => d.parameters.length) = some nn) ∧ Cond.static y ∈ gws
theorem arity_of {y : MethodName} {nn : Nat} (h : (parseMethodDescriptor y.desc).map (fun d => d.parameters.length) = some nn) : ∀ sig, parseMethodDescriptor y.desc = some sig → nn = sig.parameters.length := fun sig hs => by
  rw [hs] at h
  exact (Option.some.inj h).symm
theorem Ok.pay (h : Ok G X own cc nL rm) {w0 : Cond} (hw0 : w0 ∈ gws) : ∀ w ∈ w0 :: gws, ∀ (a' : Array Value) (U : State), (xs X).WarmedH U.vm → w.before a' U = true := fun w hw a' U hW => by
  have hg : w ∈ gws := (List.mem_cons.mp hw).elim (fun e => e ▸ hw0) id
  exact word_at hW (gws_good w hg) (h.w w hg)
/-- the room that a call takes of its caller's -/
def RmC (rmY rm : Room) (maxL k n : Nat) : Prop := rmY.frames + 1 ≤ rm.frames ∧ 8 + (maxL + 11) + rmY.locals ≤ rm.locals ∧ k + rmY.cells ≤ rm.cells ∧ n + rmY.slots ≤ rm.slots
theorem Ok.cb (h : Ok G X own cc nL rm) {ix : Nat} {y : MethodName} {bytes : ByteArray} {maxL : Nat} {ret : Option FieldType} {nn : Nat} {rmY : Room} (L : Lk own ix y bytes maxL ret nn) (hR : RmC rmY rm maxL k n) : CallB (xR X) (xs X) (xa X) own ix y bytes maxL ret (.code y bytes maxL ret :: gws) rmY rmY.cells rmY.slots nn :=
  ⟨rfl, rfl, by rw [h.r]; exact hR.1, by rw [h.r]; exact hR.2.1, h.pay L.2.2.1, List.mem_cons_self, h.w _ L.2.2.1, h.w _ L.2.1, ⟨L.2.2.2.1, L.2.2.2.2.1⟩, arity_of L.2.2.2.2.2, h.w _ L.1⟩
theorem r_cV (h : Ok G X own cc nL rm) {ix : Nat} {y : MethodName} {bytes : ByteArray} {maxL : Nat} {ret : Option FieldType} {nn : Nat} {rmY : Room} (L : LkV own ix y bytes maxL ret nn) {i ci : Nat} {T : u_T} {N : Nat} {fs As st0 rest : List Value} {post1 : Option Value → CC → Prop} {px1 : String → Prop} (hM : MC G (xl X) y (.code y bytes maxL ret :: gws) rmY (.ref (G.1 i) :: As) c post1 px1) (hi : i < 49) (hc : c i = .inr (ci, fs)) (hcl : vwCl[ci]? = some (y.cls, T, N)) (hn : As.length = nn) (hst : st0 = As.reverse ++ .ref (G.1 i) :: rest) (hW : (rest.map fun v => v.category).sum ≤ 8) (hR : RmC rmY rm maxL k n) (d : decode cc pc = .ok (.invokevirtual ix, 3))
    (kx : ∀ E : String, px1 E → VX G X c lv (k + rmY.cells) (n + rmY.slots) pc rest E) (kk : ∀ (v : Option Value) (c1 : CC), post1 v c1 → V G X c1 lv (k + rmY.cells) (n + rmY.slots) (pc + 3) (v.toList ++ rest)) : V G X c lv k n pc st0 :=
  r_run (fun H locs ls hP hS hl => vx_runV (n := nn) (As := As) ⟨h.x, h.b, rfl, h.o, h.w⟩ (hM H.size) ⟨h.cb L.1 hR, h.w _ L.2.1, h.w _ L.2.2⟩ ⟨blindG, va_recv h.k.1 hP hcl (by rw [wl_at hi, hc]), h.pre hP hS⟩ rfl hn hl.1 hst (lv_room hW) d ⟨by rw [h.r]; exact hR.2.2.1, by rw [h.r]; exact hR.2.2.2⟩) kx kk
theorem r_cS (h : Ok G X own cc nL rm) {ix : Nat} {y : MethodName} {bytes : ByteArray} {maxL : Nat} {ret : Option FieldType} {nn : Nat} {rmY : Room} (L : LkS own ix y bytes maxL ret nn) {As st0 rest : List Value} {post1 : Option Value → CC → Prop} {px1 : String → Prop} (hM : MC G (xl X) y (.code y bytes maxL ret :: gws) rmY As c post1 px1) (hn : As.length = nn) (hst : st0 = As.reverse ++ rest) (hW : (rest.map fun v => v.category).sum ≤ 8) (hR : RmC rmY rm maxL k n) (d : decode cc pc = .ok (.invokestatic ix, 3))
    (kx : ∀ E : String, px1 E → VX G X c lv (k + rmY.cells) (n + rmY.slots) pc rest E) (kk : ∀ (v : Option Value) (c1 : CC), post1 v c1 → V G X c1 lv (k + rmY.cells) (n + rmY.slots) (pc + 3) (v.toList ++ rest)) : V G X c lv k n pc st0 :=
  r_run (fun H locs ls hP hS hl => vx_runS (n := nn) (As := As) ⟨h.x, h.b, rfl, h.o, h.w⟩ (hM H.size) ⟨h.cb L.1 hR, h.w _ L.2⟩ ⟨blindG, h.pre hP hS⟩ rfl hn hl.1 hst (lv_room hW) d ⟨by rw [h.r]; exact hR.2.2.1, by rw [h.r]; exact hR.2.2.2⟩) kx kk
theorem r_cN (h : Ok G X own cc nL rm) {ix : Nat} {y : MethodName} {host : String} {bytes : ByteArray} {maxL : Nat} {ret : Option FieldType} {nn : Nat} {rmY : Room} (L : LkN own ix y host bytes maxL ret nn) {As st0 rest : List Value} {post1 : Option Value → CC → Prop} {px1 : String → Prop} (hM : MC G (xl X) y (.code y bytes maxL ret :: gws) rmY As c post1 px1) (hn : As.length = nn) (hst : st0 = As.reverse ++ rest) (hW : (rest.map fun v => v.category).sum ≤ 8) (hR : RmC rmY rm maxL k n) (d : decode cc pc = .ok (.invokestatic ix, 3))
    (kx : ∀ E : String, px1 E → VX G X c lv (k + rmY.cells) (n + rmY.slots) pc rest E) (kk : ∀ (v : Option Value) (c1 : CC), post1 v c1 → V G X c1 lv (k + rmY.cells) (n + rmY.slots) (pc + 3) (v.toList ++ rest)) : V G X c lv k n pc st0 :=
  r_run (fun H locs ls hP hS hl => vx_runSN (n := nn) (As := As) ⟨h.x, h.b, rfl, h.o, h.w⟩ (hM H.size) ⟨⟨⟨rfl, rfl, by rw [h.r]; exact hR.1, by rw [h.r]; exact hR.2.1, h.pay L.2.2.1, List.mem_cons_self⟩, h.w _ L.2.2.1, h.w _ L.2.1, ⟨L.2.2.2.1.1, L.2.2.2.1.2.1⟩, arity_of L.2.2.2.1.2.2, va_Nw.use rfl (h.k.2.1 _ L.1)⟩, h.w _ L.2.2.2.2, trivial⟩ ⟨blindG, h.pre hP hS⟩ rfl hn hl.1 hst (lv_room hW) d ⟨by rw [h.r]; exact hR.2.2.1, by rw [h.r]; exact hR.2.2.2⟩) kx kk
theorem r_cW (h : Ok G X own cc nL rm) {ix : Nat} {y : MethodName} {bytes : ByteArray} {maxL : Nat} {ret : Option FieldType} {hh : List (Nat × Nat × Nat × Nat)} {nn : Nat} {rmY : Room} (L : LkW own ix y bytes maxL ret hh nn) {As st0 rest : List Value} {post1 : Option Value → CC → Prop} {px1 : String → Prop} (hM : MC G (xl X) y (.codeWith y bytes maxL ret hh :: gws) rmY As c post1 px1) (hn : As.length = nn) (hst : st0 = As.reverse ++ rest) (hW : (rest.map fun v => v.category).sum ≤ 8) (hR : RmC rmY rm maxL k n) (d : decode cc pc = .ok (.invokestatic ix, 3))
    (kx : ∀ E : String, px1 E → VX G X c lv (k + rmY.cells) (n + rmY.slots) pc rest E) (kk : ∀ (v : Option Value) (c1 : CC), post1 v c1 → V G X c1 lv (k + rmY.cells) (n + rmY.slots) (pc + 3) (v.toList ++ rest)) : V G X c lv k n pc st0 :=
  r_run (fun H locs ls hP hS hl => vx_runSX (n := nn) (As := As) ⟨h.x, h.b, rfl, h.o, h.w⟩ (hM H.size) ⟨⟨rfl, rfl, by rw [h.r]; exact hR.1, by rw [h.r]; exact hR.2.1, h.pay L.2.2.1, List.mem_cons_self⟩, h.w _ L.2.2.1, h.w _ L.2.1, ⟨L.2.2.2.1.1, L.2.2.2.1.2.1⟩, arity_of L.2.2.2.1.2.2, h.w _ L.1, h.w _ L.2.2.2.2⟩ ⟨blindG, h.pre hP hS⟩ rfl hn hl.1 hst (lv_room hW) d ⟨by rw [h.r]; exact hR.2.2.1, by rw [h.r]; exact hR.2.2.2⟩) kx kk
def LkI (own : String) (ix : Nat) (y : MethodName) (bytes : ByteArray) (maxL : Nat) (nn : Nat) : Prop := Lk own ix y bytes maxL none nn ∧ Cond.instanceMethod y ∈ gws
def LkJ (own : String) (ix : Nat) (y : MethodName) (host : String) (bytes : ByteArray) (maxL : Nat) (nn : Nat) : Prop := Cond.methodLinkNest own ix y host ∈ nwW ∧ Cond.initialized y.cls ∈ gws ∧ Cond.code y bytes maxL none ∈ gws ∧ (y.cls ≠ "java/lang/invoke/MethodHandle" ∧ y.cls ≠ "java/lang/invoke/VarHandle" ∧ (parseMethodDescriptor y.desc).map (fun d => d.parameters.length) = some nn) ∧ Cond.instanceMethod y ∈ gws
/-- what a throw needs of the tables -/
def ThW (cls : String) (names : List String) (ik ic : Nat) : Prop := (Bundle.fit cls = true ∧ ∀ x ∈ names, Bundle.fit x = true) ∧ Cond.classLink RX3 ik cls ∈ gws ∧ Cond.initialized cls ∈ gws ∧ (∀ w ∈ (vx_atS RX3 ic cls names).filter goodWord, w ∈ gws) ∧ (∀ w ∈ (vx_atS RX3 ic cls names).filter (fun w => !goodWord w), w ∈ nwW) ∧ ∀ w ∈ Cond.classLink RX3 ik cls :: Cond.initialized cls :: vx_atS RX3 ic cls names, vx_ot w = true
/-- 'throw new E("text")' where nothing has changed -/
theorem r_throw {cls text : String} {names : List String} {ik is ic : Nat} (h : Ok G X RX3 cc nL rm) (hN : NoT X) (hQ : OkQ G X post px c rm) (hT : ThW cls names ik ic) (hstr : (is, text) ∈ stW)
    (d0 : decode cc pc = .ok (.new ik, 3)) (d3 : decode cc (pc + 3) = .ok (.dup, 1)) (d4 : decode cc (pc + 4) = .ok (.ldc is, 2)) (d6 : decode cc (pc + 6) = .ok (.invokespecial ic, 3)) (d9 : decode cc (pc + 9) = .ok (.athrow, 1))
    (hR : names.length + 3 < rm.frames ∧ (st.map fun v => v.category).sum + (13 * (names.length + 1) + 43) ≤ rm.locals ∧ k + 1 ≤ rm.cells ∧ n + 6 ≤ rm.slots) (hp : px cls) : V G X c lv k n pc st := by
  intro H locs ls hP hS hl
  obtain ⟨sa, hsa⟩ := h.k.2.2.2 _ hstr
  obtain ⟨hcls, hk, hini, hg1, hg2, hgood⟩ := hT
  rw [show xQ X = _ from hQ]
  refine vx_throwS (sa := sa) h.x h.b h.t h.o hcls.1 hcls.2 (h.w _ hk) (h.w _ hini) hsa (vx_hat (fun w hw => h.w w (hg1 w hw)) hg2 (fun w hw => ?_)) hgood h.z.1 h.z.2 hS hl.1 d0 d3 d4 d6 d9 (fun x hx => (hN x hx).elim) (by rw [h.r]; exact hR.1) (by rw [h.r]; exact hR.2.1) (by rw [h.r]; exact hR.2.2.1) (by rw [h.r]; exact hR.2.2.2) h.l (fun t hW hz hk => ⟨hp, ?_, ?_⟩) hS.2.2 hR.2.2.1 hR.2.2.2
  · have h1 := nwW_ok w hw
    have h2 := h.k.2.1 w hw
    cases w <;> first | exact Bool.noConfusion (show false = true from h1) | exact va_Nw.use rfl h2
  · exact va_P.kept hP (fun j q hj => hk q.1 (vx_lt hP hj))
  · exact ⟨Nat.le_trans hS.1 hz, fun q h1 h2 => (hk q (Nat.lt_of_lt_of_le h1 hS.1)).trans (hS.2.1 q h1 h2)⟩
end ENDS
end
section
exceptions end at 1505
/-! LINKS: what each call, field and constant needs of the tables, by its place there -/
theorem gm {w : Cond} (i : Nat) (h : lw_tbl[i]? = some w ∧ goodWord w = true) : w ∈ gws := List.mem_filter.mpr ⟨List.mem_of_getElem? h.1, h.2⟩
theorem gml (ws : List Cond) (ps : List Nat) (hp : ws = ps.filterMap (fun i => lw_tbl[i]?)) (h : ws.all goodWord = true) : ∀ w ∈ ws, w ∈ gws := by
  intro w hw
  have h1 := List.all_eq_true.mp h w hw
  rw [hp] at hw
  obtain ⟨i, -, hi⟩ := List.mem_filterMap.mp hw
  exact List.mem_filter.mpr ⟨List.mem_of_getElem? hi, h1⟩
theorem in_X0 : ∀ w ∈ u_ws RX0 TX0 2, w ∈ gws := gml _ [67, 69] (by decide +kernel) (by decide +kernel)
theorem ft_X0 : FT RX0 TX0 2 tyX0 := ⟨tyX0_ok, nmX0⟩
theorem in_X1 : ∀ w ∈ u_ws RX1 TX1 8, w ∈ gws := gml _ [101, 103, 105, 107, 109, 111, 113, 115] (by decide +kernel) (by decide +kernel)
theorem ft_X1 : FT RX1 TX1 8 tyX1 := ⟨tyX1_ok, nmX1⟩
theorem in_X2 : ∀ w ∈ u_ws RX2 TX2 6, w ∈ gws := gml _ [126, 128, 130, 132, 134, 136] (by decide +kernel) (by decide +kernel)
theorem ft_X2 : FT RX2 TX2 6 tyX2 := ⟨tyX2_ok, nmX2⟩
theorem in_X3 : ∀ w ∈ u_ws RX3 TX3 4, w ∈ gws := gml _ [144, 146, 148, 150] (by decide +kernel) (by decide +kernel)
theorem ft_X3 : FT RX3 TX3 4 tyX3 := ⟨tyX3_ok, nmX3⟩
theorem in_X4 : ∀ w ∈ u_ws RX4 TX4 15, w ∈ gws := gml _ [801, 803, 805, 807, 809, 811, 813, 815, 817, 819, 821, 823, 825, 827, 829] (by decide +kernel) (by decide +kernel)
theorem ft_X4 : FT RX4 TX4 15 tyX4 := ⟨tyX4_ok, nmX4⟩
theorem k_L_68 : LkV RL 68 yX3_alike cX3_alike 5 (some .int) 2 := ⟨⟨gm 661 (by decide +kernel), gm 31 (by decide +kernel), gm 664 (by decide +kernel), by decide +kernel⟩, gm 662 (by decide +kernel), gm 663 (by decide +kernel)⟩
theorem k_L_78 : LkV RL 78 yX3_back cX3_back 3 (some .int) 1 := ⟨⟨gm 697 (by decide +kernel), gm 31 (by decide +kernel), gm 700 (by decide +kernel), by decide +kernel⟩, gm 698 (by decide +kernel), gm 699 (by decide +kernel)⟩
theorem k_L_35 : LkV RL 35 yX3_byteAt cX3_byteAt 4 (some .int) 2 := ⟨⟨gm 541 (by decide +kernel), gm 31 (by decide +kernel), gm 544 (by decide +kernel), by decide +kernel⟩, gm 542 (by decide +kernel), gm 543 (by decide +kernel)⟩
theorem k_L_71 : LkV RL 71 yX3_canMark cX3_canMark 2 (some .boolean) 1 := ⟨⟨gm 672 (by decide +kernel), gm 31 (by decide +kernel), gm 675 (by decide +kernel), by decide +kernel⟩, gm 673 (by decide +kernel), gm 674 (by decide +kernel)⟩
theorem k_L_90 : LkV RL 90 yX3_check cX3_check 3 (some .long) 1 := ⟨⟨gm 729 (by decide +kernel), gm 31 (by decide +kernel), gm 732 (by decide +kernel), by decide +kernel⟩, gm 730 (by decide +kernel), gm 731 (by decide +kernel)⟩
theorem k_L_94 : LkV RL 94 yX3_checkAnew cX3_checkAnew 5 (some .long) 1 := ⟨⟨gm 736 (by decide +kernel), gm 31 (by decide +kernel), gm 739 (by decide +kernel), by decide +kernel⟩, gm 737 (by decide +kernel), gm 738 (by decide +kernel)⟩
theorem k_L_97 : LkV RL 97 yX3_checkOf cX3_checkOf 6 (some .long) 1 := ⟨⟨gm 744 (by decide +kernel), gm 31 (by decide +kernel), gm 747 (by decide +kernel), by decide +kernel⟩, gm 745 (by decide +kernel), gm 746 (by decide +kernel)⟩
theorem k_L_29 : LkV RL 29 yX3_clear cX3_clear 4 (some .int) 1 := ⟨⟨gm 526 (by decide +kernel), gm 31 (by decide +kernel), gm 529 (by decide +kernel), by decide +kernel⟩, gm 527 (by decide +kernel), gm 528 (by decide +kernel)⟩
theorem k_L_23 : LkV RL 23 yX3_cut cX3_cut 3 (some .int) 1 := ⟨⟨gm 499 (by decide +kernel), gm 31 (by decide +kernel), gm 502 (by decide +kernel), by decide +kernel⟩, gm 500 (by decide +kernel), gm 501 (by decide +kernel)⟩
theorem k_L_38 : LkV RL 38 yX3_ends cX3_ends 2 (some .int) 1 := ⟨⟨gm 552 (by decide +kernel), gm 31 (by decide +kernel), gm 555 (by decide +kernel), by decide +kernel⟩, gm 553 (by decide +kernel), gm 554 (by decide +kernel)⟩
theorem k_L_45 : LkV RL 45 yX3_kind cX3_kind 2 (some .int) 1 := ⟨⟨gm 579 (by decide +kernel), gm 31 (by decide +kernel), gm 582 (by decide +kernel), by decide +kernel⟩, gm 580 (by decide +kernel), gm 581 (by decide +kernel)⟩
theorem k_L_81 : LkV RL 81 yX3_left cX3_left 3 (some .int) 1 := ⟨⟨gm 705 (by decide +kernel), gm 31 (by decide +kernel), gm 708 (by decide +kernel), by decide +kernel⟩, gm 706 (by decide +kernel), gm 707 (by decide +kernel)⟩
theorem k_L_32 : LkV RL 32 yX3_length cX3_length 2 (some .int) 1 := ⟨⟨gm 534 (by decide +kernel), gm 31 (by decide +kernel), gm 537 (by decide +kernel), by decide +kernel⟩, gm 535 (by decide +kernel), gm 536 (by decide +kernel)⟩
theorem k_L_84 : LkV RL 84 yX3_line cX3_line 3 (some .int) 1 := ⟨⟨gm 715 (by decide +kernel), gm 31 (by decide +kernel), gm 718 (by decide +kernel), by decide +kernel⟩, gm 716 (by decide +kernel), gm 717 (by decide +kernel)⟩
theorem k_L_75 : LkV RL 75 yX3_mark cX3_mark 3 (some .int) 1 := ⟨⟨gm 680 (by decide +kernel), gm 31 (by decide +kernel), gm 683 (by decide +kernel), by decide +kernel⟩, gm 681 (by decide +kernel), gm 682 (by decide +kernel)⟩
theorem k_L_106 : LkV RL 106 yX3_meanLine cX3_meanLine 5 (some .double) 0 := ⟨⟨gm 775 (by decide +kernel), gm 31 (by decide +kernel), gm 778 (by decide +kernel), by decide +kernel⟩, gm 776 (by decide +kernel), gm 777 (by decide +kernel)⟩
theorem k_L_41 : LkV RL 41 yX3_open cX3_open 8 (some .int) 4 := ⟨⟨gm 563 (by decide +kernel), gm 31 (by decide +kernel), gm 566 (by decide +kernel), by decide +kernel⟩, gm 564 (by decide +kernel), gm 565 (by decide +kernel)⟩
theorem k_L_56 : LkV RL 56 yX3_partAt cX3_partAt 2 (some .int) 1 := ⟨⟨gm 626 (by decide +kernel), gm 31 (by decide +kernel), gm 629 (by decide +kernel), by decide +kernel⟩, gm 627 (by decide +kernel), gm 628 (by decide +kernel)⟩
theorem k_L_65 : LkV RL 65 yX3_pour cX3_pour 6 (some .int) 2 := ⟨⟨gm 654 (by decide +kernel), gm 31 (by decide +kernel), gm 657 (by decide +kernel), by decide +kernel⟩, gm 655 (by decide +kernel), gm 656 (by decide +kernel)⟩
theorem k_L_48 : LkV RL 48 yX3_read cX3_read 2 (some .int) 1 := ⟨⟨gm 587 (by decide +kernel), gm 31 (by decide +kernel), gm 590 (by decide +kernel), by decide +kernel⟩, gm 588 (by decide +kernel), gm 589 (by decide +kernel)⟩
theorem k_L_62 : LkV RL 62 yX3_readLine cX3_readLine 6 (some .int) 2 := ⟨⟨gm 641 (by decide +kernel), gm 31 (by decide +kernel), gm 644 (by decide +kernel), by decide +kernel⟩, gm 642 (by decide +kernel), gm 643 (by decide +kernel)⟩
theorem k_L_53 : LkV RL 53 yX3_readPart cX3_readPart 4 (some .int) 2 := ⟨⟨gm 618 (by decide +kernel), gm 31 (by decide +kernel), gm 621 (by decide +kernel), by decide +kernel⟩, gm 619 (by decide +kernel), gm 620 (by decide +kernel)⟩
theorem k_L_87 : LkV RL 87 yX3_setLine cX3_setLine 5 (some .int) 2 := ⟨⟨gm 722 (by decide +kernel), gm 31 (by decide +kernel), gm 725 (by decide +kernel), by decide +kernel⟩, gm 723 (by decide +kernel), gm 724 (by decide +kernel)⟩
theorem k_L_100 : LkV RL 100 yX3_share cX3_share 3 (some .float) 1 := ⟨⟨gm 766 (by decide +kernel), gm 31 (by decide +kernel), gm 769 (by decide +kernel), by decide +kernel⟩, gm 767 (by decide +kernel), gm 768 (by decide +kernel)⟩
theorem k_L_59 : LkV RL 59 yX3_skip cX3_skip 4 (some .int) 2 := ⟨⟨gm 633 (by decide +kernel), gm 31 (by decide +kernel), gm 636 (by decide +kernel), by decide +kernel⟩, gm 634 (by decide +kernel), gm 635 (by decide +kernel)⟩
theorem k_L_7 : LkV RL 7 yX3_type cX3_type 4 (some .int) 2 := ⟨⟨gm 424 (by decide +kernel), gm 31 (by decide +kernel), gm 427 (by decide +kernel), by decide +kernel⟩, gm 425 (by decide +kernel), gm 426 (by decide +kernel)⟩
theorem k_L_19 : LkV RL 19 yX3_typeMany cX3_typeMany 6 (some .int) 3 := ⟨⟨gm 487 (by decide +kernel), gm 31 (by decide +kernel), gm 490 (by decide +kernel), by decide +kernel⟩, gm 488 (by decide +kernel), gm 489 (by decide +kernel)⟩
theorem F_X0_15 : FL RX0 15 RX0 TX0 2 2 1 := ⟨rfl, by decide, gm 66 (by decide +kernel), in_X0⟩
theorem F_X0_9 : FL RX0 9 RX0 TX0 2 2 0 := ⟨rfl, by decide, gm 65 (by decide +kernel), in_X0⟩
theorem k_X0_19 : LkV RX0 19 yX0_at cX0_at 2 (some .int) 1 := ⟨⟨gm 247 (by decide +kernel), gm 32 (by decide +kernel), gm 173 (by decide +kernel), by decide +kernel⟩, gm 171 (by decide +kernel), gm 172 (by decide +kernel)⟩
theorem k_X0_31 : LkS RX0 31 yX0_lined cX0_lined 2 (some .int) 2 := ⟨⟨gm 248 (by decide +kernel), gm 32 (by decide +kernel), gm 250 (by decide +kernel), by decide +kernel⟩, gm 249 (by decide +kernel)⟩
theorem k_X0_3 : Cond.methodLink RX0 3 objectInit ∈ gws ∧ Cond.instanceMethod objectInit ∈ gws ∧ Cond.code objectInit ⟨#[0xb1]⟩ 1 none ∈ gws := ⟨gm 64 (by decide +kernel), gm 54 (by decide +kernel), gm 55 (by decide +kernel)⟩
theorem k_X0_23 : LkV RX0 23 yX0_size cX0_size 1 (some .int) 0 := ⟨⟨gm 246 (by decide +kernel), gm 32 (by decide +kernel), gm 160 (by decide +kernel), by decide +kernel⟩, gm 158 (by decide +kernel), gm 159 (by decide +kernel)⟩
theorem k_X0_27 : LkV RX0 27 yX0_put cX0_put 2 none 1 := ⟨⟨gm 251 (by decide +kernel), gm 32 (by decide +kernel), gm 223 (by decide +kernel), by decide +kernel⟩, gm 221 (by decide +kernel), gm 222 (by decide +kernel)⟩
theorem F_X1_18 : FL RX1 18 RX1 TX1 8 3 1 := ⟨rfl, by decide, gm 88 (by decide +kernel), in_X1⟩
theorem k_X1_22 : LkV RX1 22 yX1_fillOut cX1_fillOut 3 none 2 := ⟨⟨gm 236 (by decide +kernel), gm 34 (by decide +kernel), gm 239 (by decide +kernel), by decide +kernel⟩, gm 238 (by decide +kernel), gm 5 (by decide +kernel)⟩
theorem F_X1_26 : FL RX1 26 RX1 TX1 8 3 3 := ⟨rfl, by decide, gm 92 (by decide +kernel), in_X1⟩
theorem F_X1_29 : FL RX1 29 RX1 TX1 8 3 4 := ⟨rfl, by decide, gm 93 (by decide +kernel), in_X1⟩
theorem K_X1_32 : Jvm.Cond.constantLong RX1 32 (4294967295) ∈ gws := gm 187 (by decide +kernel)
theorem F_X1_34 : FL RX1 34 RX1 TX1 8 3 5 := ⟨rfl, by decide, gm 96 (by decide +kernel), in_X1⟩
theorem k_X1_38 : LkN RX1 38 yX3_goesBackUnmarked "Layerwell" cX3_goesBackUnmarked 1 (some .boolean) 1 := ⟨List.mem_of_getElem? (i := 8) (by decide +kernel), gm 31 (by decide +kernel), gm 260 (by decide +kernel), by decide +kernel, gm 259 (by decide +kernel)⟩
theorem F_X1_42 : FL RX1 42 RX1 TX1 8 3 6 := ⟨rfl, by decide, gm 98 (by decide +kernel), in_X1⟩
theorem F_X1_45 : FL RX1 45 RX1 TX1 8 3 7 := ⟨rfl, by decide, gm 100 (by decide +kernel), in_X1⟩
theorem F_X1_12 : FL RX1 12 RX1 TX1 8 3 0 := ⟨rfl, by decide, gm 87 (by decide +kernel), in_X1⟩
theorem k_X1_48 : LkV RX1 48 yX0_makeEmpty cX0_makeEmpty 1 none 0 := ⟨⟨gm 240 (by decide +kernel), gm 32 (by decide +kernel), gm 208 (by decide +kernel), by decide +kernel⟩, gm 206 (by decide +kernel), gm 207 (by decide +kernel)⟩
theorem k_X1_51 : LkN RX1 51 yX3_isLined "Layerwell" cX3_isLined 1 (some .boolean) 1 := ⟨List.mem_of_getElem? (i := 7) (by decide +kernel), gm 31 (by decide +kernel), gm 211 (by decide +kernel), by decide +kernel, gm 210 (by decide +kernel)⟩
theorem k_X1_54 : LkV RX1 54 yX0_putLined cX0_putLined 6 none 2 := ⟨⟨gm 242 (by decide +kernel), gm 32 (by decide +kernel), gm 245 (by decide +kernel), by decide +kernel⟩, gm 243 (by decide +kernel), gm 244 (by decide +kernel)⟩
theorem k_X1_58 : LkV RX1 58 yX0_putAll cX0_putAll 3 none 1 := ⟨⟨gm 252 (by decide +kernel), gm 32 (by decide +kernel), gm 255 (by decide +kernel), by decide +kernel⟩, gm 253 (by decide +kernel), gm 254 (by decide +kernel)⟩
theorem F_X1_62 : FL RX1 62 RX1 TX1 8 3 2 := ⟨rfl, by decide, gm 91 (by decide +kernel), in_X1⟩
theorem k_X1_65 : LkV RX1 65 yX0_size cX0_size 1 (some .int) 0 := ⟨⟨gm 256 (by decide +kernel), gm 32 (by decide +kernel), gm 160 (by decide +kernel), by decide +kernel⟩, gm 158 (by decide +kernel), gm 159 (by decide +kernel)⟩
theorem k_X1_69 : LkV RX1 69 yX0_at cX0_at 2 (some .int) 1 := ⟨⟨gm 257 (by decide +kernel), gm 32 (by decide +kernel), gm 173 (by decide +kernel), by decide +kernel⟩, gm 171 (by decide +kernel), gm 172 (by decide +kernel)⟩
theorem k_X1_3 : Cond.methodLink RX1 3 objectInit ∈ gws ∧ Cond.instanceMethod objectInit ∈ gws ∧ Cond.code objectInit ⟨#[0xb1]⟩ 1 none ∈ gws := ⟨gm 84 (by decide +kernel), gm 54 (by decide +kernel), gm 55 (by decide +kernel)⟩
theorem k_X1_11 : LkJ RX1 11 yX0_init "Layerwell" cX0_init 1 0 := ⟨List.mem_of_getElem? (i := 3) (by decide +kernel), gm 32 (by decide +kernel), gm 63 (by decide +kernel), by decide +kernel, gm 62 (by decide +kernel)⟩
theorem k_X1_89 : LkV RX1 89 yX1_next cX1_next 2 (some .int) 0 := ⟨⟨gm 306 (by decide +kernel), gm 34 (by decide +kernel), gm 269 (by decide +kernel), by decide +kernel⟩, gm 267 (by decide +kernel), gm 268 (by decide +kernel)⟩
theorem k_X1_96 : LkV RX1 96 yX0_put cX0_put 2 none 1 := ⟨⟨gm 307 (by decide +kernel), gm 32 (by decide +kernel), gm 223 (by decide +kernel), by decide +kernel⟩, gm 221 (by decide +kernel), gm 222 (by decide +kernel)⟩
theorem k_X1_76 : LkN RX1 76 yX3_hasCheck "Layerwell" cX3_hasCheck 1 (some .boolean) 1 := ⟨List.mem_of_getElem? (i := 9) (by decide +kernel), gm 31 (by decide +kernel), gm 182 (by decide +kernel), by decide +kernel, gm 181 (by decide +kernel)⟩
theorem k_X1_79 : LkN RX1 79 yX3_withByte "Layerwell" cX3_withByte 7 (some .long) 2 := ⟨List.mem_of_getElem? (i := 10) (by decide +kernel), gm 31 (by decide +kernel), gm 273 (by decide +kernel), by decide +kernel, gm 272 (by decide +kernel)⟩
theorem k_X1_73 : LkV RX1 73 yX1_rest cX1_rest 1 (some .int) 0 := ⟨⟨gm 295 (by decide +kernel), gm 34 (by decide +kernel), gm 298 (by decide +kernel), by decide +kernel⟩, gm 296 (by decide +kernel), gm 297 (by decide +kernel)⟩
theorem k_X1_83 : LkS RX1 83 yJ9_min_7cf53 cJ9_min_7cf53 2 (some .int) 2 := ⟨⟨gm 299 (by decide +kernel), gm 46 (by decide +kernel), gm 301 (by decide +kernel), by decide +kernel⟩, gm 300 (by decide +kernel)⟩
theorem k_X1_100 : LkN RX1 100 yX3_hasLine "Layerwell" cX3_hasLine 1 (some .boolean) 1 := ⟨List.mem_of_getElem? (i := 15) (by decide +kernel), gm 31 (by decide +kernel), gm 179 (by decide +kernel), by decide +kernel, gm 178 (by decide +kernel)⟩
theorem k_X1_92 : LkV RX1 92 yX1_move cX1_move 4 none 2 := ⟨⟨gm 302 (by decide +kernel), gm 34 (by decide +kernel), gm 305 (by decide +kernel), by decide +kernel⟩, gm 303 (by decide +kernel), gm 304 (by decide +kernel)⟩
theorem F_X2_12 : FL RX2 12 RX2 TX2 6 4 0 := ⟨rfl, by decide, gm 120 (by decide +kernel), in_X2⟩
theorem F_X2_126 : FN RX2 126 RX1 TX1 8 3 1 "Layerwell" := ⟨rfl, by decide, List.mem_of_getElem? (i := 17) (by decide +kernel), in_X1⟩
theorem k_X2_136 : LkN RX2 136 yX3_hasLine "Layerwell" cX3_hasLine 1 (some .boolean) 1 := ⟨List.mem_of_getElem? (i := 13) (by decide +kernel), gm 31 (by decide +kernel), gm 179 (by decide +kernel), by decide +kernel, gm 178 (by decide +kernel)⟩
theorem F_X2_139 : FN RX2 139 RX1 TX1 8 3 4 "Layerwell" := ⟨rfl, by decide, List.mem_of_getElem? (i := 18) (by decide +kernel), in_X1⟩
theorem F_X2_99 : FL RX2 99 RX2 TX2 6 4 4 := ⟨rfl, by decide, gm 124 (by decide +kernel), in_X2⟩
theorem k_X2_129 : LkN RX2 129 yX3_hasCheck "Layerwell" cX3_hasCheck 1 (some .boolean) 1 := ⟨List.mem_of_getElem? (i := 11) (by decide +kernel), gm 31 (by decide +kernel), gm 182 (by decide +kernel), by decide +kernel, gm 181 (by decide +kernel)⟩
theorem k_X2_140 : LkV RX2 140 yX1_checkNow cX1_checkNow 1 (some .long) 0 := ⟨⟨gm 286 (by decide +kernel), gm 34 (by decide +kernel), gm 186 (by decide +kernel), by decide +kernel⟩, gm 184 (by decide +kernel), gm 185 (by decide +kernel)⟩
theorem K_X2_111 : Jvm.Cond.constantLong RX2 111 (4294967295) ∈ gws := gm 261 (by decide +kernel)
theorem F_X2_113 : FL RX2 113 RX2 TX2 6 4 5 := ⟨rfl, by decide, gm 125 (by decide +kernel), in_X2⟩
theorem k_X2_49 : LkV RX2 49 yX0_size cX0_size 1 (some .int) 0 := ⟨⟨gm 204 (by decide +kernel), gm 32 (by decide +kernel), gm 160 (by decide +kernel), by decide +kernel⟩, gm 158 (by decide +kernel), gm 159 (by decide +kernel)⟩
theorem F_X2_21 : FL RX2 21 RX2 TX2 6 4 1 := ⟨rfl, by decide, gm 121 (by decide +kernel), in_X2⟩
theorem k_X2_53 : LkV RX2 53 yX0_makeEmpty cX0_makeEmpty 1 none 0 := ⟨⟨gm 205 (by decide +kernel), gm 32 (by decide +kernel), gm 208 (by decide +kernel), by decide +kernel⟩, gm 206 (by decide +kernel), gm 207 (by decide +kernel)⟩
theorem k_X2_56 : LkN RX2 56 yX3_isLined "Layerwell" cX3_isLined 1 (some .boolean) 1 := ⟨List.mem_of_getElem? (i := 6) (by decide +kernel), gm 31 (by decide +kernel), gm 211 (by decide +kernel), by decide +kernel, gm 210 (by decide +kernel)⟩
theorem k_X2_59 : LkV RX2 59 yX2_putDue cX2_putDue 9 none 5 := ⟨⟨gm 212 (by decide +kernel), gm 33 (by decide +kernel), gm 215 (by decide +kernel), by decide +kernel⟩, gm 214 (by decide +kernel), gm 2 (by decide +kernel)⟩
theorem k_X2_28 : LkV RX2 28 yX2_fillDue cX2_fillDue 6 none 3 := ⟨⟨gm 200 (by decide +kernel), gm 33 (by decide +kernel), gm 203 (by decide +kernel), by decide +kernel⟩, gm 202 (by decide +kernel), gm 1 (by decide +kernel)⟩
theorem k_X2_32 : LkV RX2 32 yX2_holdsByBytes cX2_holdsByBytes 4 (some .boolean) 3 := ⟨⟨gm 224 (by decide +kernel), gm 33 (by decide +kernel), gm 227 (by decide +kernel), by decide +kernel⟩, gm 226 (by decide +kernel), gm 3 (by decide +kernel)⟩
theorem k_X2_36 : LkV RX2 36 yX2_holdsInParts cX2_holdsInParts 5 (some .boolean) 3 := ⟨⟨gm 287 (by decide +kernel), gm 33 (by decide +kernel), gm 290 (by decide +kernel), by decide +kernel⟩, gm 289 (by decide +kernel), gm 9 (by decide +kernel)⟩
theorem k_X2_39 : LkV RX2 39 yX2_holdsBehindSkip cX2_holdsBehindSkip 4 (some .boolean) 3 := ⟨⟨gm 312 (by decide +kernel), gm 33 (by decide +kernel), gm 315 (by decide +kernel), by decide +kernel⟩, gm 314 (by decide +kernel), gm 11 (by decide +kernel)⟩
theorem k_X2_42 : LkN RX2 42 yX3_canBeMarked "Layerwell" cX3_canBeMarked 1 (some .boolean) 1 := ⟨List.mem_of_getElem? (i := 14) (by decide +kernel), gm 31 (by decide +kernel), gm 326 (by decide +kernel), by decide +kernel, gm 325 (by decide +kernel)⟩
theorem k_X2_46 : LkV RX2 46 yX2_holdsBroughtBack cX2_holdsBroughtBack 6 (some .boolean) 3 := ⟨⟨gm 327 (by decide +kernel), gm 33 (by decide +kernel), gm 330 (by decide +kernel), by decide +kernel⟩, gm 329 (by decide +kernel), gm 13 (by decide +kernel)⟩
theorem k_X2_75 : LkV RX2 75 yX2_start cX2_start 4 none 3 := ⟨⟨gm 228 (by decide +kernel), gm 33 (by decide +kernel), gm 231 (by decide +kernel), by decide +kernel⟩, gm 230 (by decide +kernel), gm 4 (by decide +kernel)⟩
theorem k_X2_96 : LkV RX2 96 yX2_skipsThird cX2_skipsThird 4 (some .boolean) 0 := ⟨⟨gm 316 (by decide +kernel), gm 33 (by decide +kernel), gm 319 (by decide +kernel), by decide +kernel⟩, gm 318 (by decide +kernel), gm 12 (by decide +kernel)⟩
theorem k_X2_78 : LkV RX2 78 yX2_readsRest cX2_readsRest 3 (some .boolean) 0 := ⟨⟨gm 262 (by decide +kernel), gm 33 (by decide +kernel), gm 265 (by decide +kernel), by decide +kernel⟩, gm 264 (by decide +kernel), gm 6 (by decide +kernel)⟩
theorem F_X2_86 : FL RX2 86 RX2 TX2 6 4 3 := ⟨rfl, by decide, gm 123 (by decide +kernel), in_X2⟩
theorem k_X2_102 : LkV RX2 102 yX1_setMark cX1_setMark 1 none 0 := ⟨⟨gm 331 (by decide +kernel), gm 34 (by decide +kernel), gm 334 (by decide +kernel), by decide +kernel⟩, gm 332 (by decide +kernel), gm 333 (by decide +kernel)⟩
theorem k_X2_105 : LkV RX2 105 yX1_goBack cX1_goBack 1 none 0 := ⟨⟨gm 335 (by decide +kernel), gm 34 (by decide +kernel), gm 338 (by decide +kernel), by decide +kernel⟩, gm 336 (by decide +kernel), gm 337 (by decide +kernel)⟩
theorem F_X2_25 : FL RX2 25 RX2 TX2 6 4 2 := ⟨rfl, by decide, gm 122 (by decide +kernel), in_X2⟩
theorem k_X2_82 : LkV RX2 82 yX1_takePart cX1_takePart 5 (some .int) 2 := ⟨⟨gm 291 (by decide +kernel), gm 34 (by decide +kernel), gm 294 (by decide +kernel), by decide +kernel⟩, gm 292 (by decide +kernel), gm 293 (by decide +kernel)⟩
theorem k_X2_90 : LkV RX2 90 yX2_figuresAreDue cX2_figuresAreDue 1 (some .boolean) 0 := ⟨⟨gm 281 (by decide +kernel), gm 33 (by decide +kernel), gm 284 (by decide +kernel), by decide +kernel⟩, gm 283 (by decide +kernel), gm 8 (by decide +kernel)⟩
theorem k_X2_93 : LkV RX2 93 yX2_partIsDue cX2_partIsDue 2 (some .boolean) 0 := ⟨⟨gm 308 (by decide +kernel), gm 33 (by decide +kernel), gm 311 (by decide +kernel), by decide +kernel⟩, gm 310 (by decide +kernel), gm 10 (by decide +kernel)⟩
theorem k_X2_3 : Cond.methodLink RX2 3 objectInit ∈ gws ∧ Cond.instanceMethod objectInit ∈ gws ∧ Cond.code objectInit ⟨#[0xb1]⟩ 1 none ∈ gws := ⟨gm 78 (by decide +kernel), gm 54 (by decide +kernel), gm 55 (by decide +kernel)⟩
theorem k_X2_11 : LkJ RX2 11 yX1_init "Layerwell" cX1_init 1 0 := ⟨List.mem_of_getElem? (i := 2) (by decide +kernel), gm 34 (by decide +kernel), gm 83 (by decide +kernel), by decide +kernel, gm 82 (by decide +kernel)⟩
theorem k_X2_20 : LkJ RX2 20 yX0_init "Layerwell" cX0_init 1 0 := ⟨List.mem_of_getElem? (i := 4) (by decide +kernel), gm 32 (by decide +kernel), gm 63 (by decide +kernel), by decide +kernel, gm 62 (by decide +kernel)⟩
theorem k_X2_71 : LkV RX2 71 yX0_at cX0_at 2 (some .int) 1 := ⟨⟨gm 219 (by decide +kernel), gm 32 (by decide +kernel), gm 173 (by decide +kernel), by decide +kernel⟩, gm 171 (by decide +kernel), gm 172 (by decide +kernel)⟩
theorem k_X2_132 : LkN RX2 132 yX3_withByte "Layerwell" cX3_withByte 7 (some .long) 2 := ⟨List.mem_of_getElem? (i := 12) (by decide +kernel), gm 31 (by decide +kernel), gm 273 (by decide +kernel), by decide +kernel, gm 272 (by decide +kernel)⟩
theorem k_X2_120 : LkV RX2 120 yX2_nextDue cX2_nextDue 2 (some .int) 0 := ⟨⟨gm 275 (by decide +kernel), gm 33 (by decide +kernel), gm 278 (by decide +kernel), by decide +kernel⟩, gm 277 (by decide +kernel), gm 7 (by decide +kernel)⟩
theorem k_X2_63 : LkS RX2 63 yX2_joinedAt cX2_joinedAt 3 (some .int) 3 := ⟨⟨gm 216 (by decide +kernel), gm 33 (by decide +kernel), gm 218 (by decide +kernel), by decide +kernel⟩, gm 217 (by decide +kernel)⟩
theorem k_X2_67 : LkV RX2 67 yX0_put cX0_put 2 none 1 := ⟨⟨gm 220 (by decide +kernel), gm 32 (by decide +kernel), gm 223 (by decide +kernel), by decide +kernel⟩, gm 221 (by decide +kernel), gm 222 (by decide +kernel)⟩
theorem k_X2_123 : LkV RX2 123 yX1_next cX1_next 2 (some .int) 0 := ⟨⟨gm 266 (by decide +kernel), gm 34 (by decide +kernel), gm 269 (by decide +kernel), by decide +kernel⟩, gm 267 (by decide +kernel), gm 268 (by decide +kernel)⟩
theorem k_X2_117 : LkV RX2 117 yX1_pass cX1_pass 4 (some .int) 1 := ⟨⟨gm 320 (by decide +kernel), gm 34 (by decide +kernel), gm 323 (by decide +kernel), by decide +kernel⟩, gm 321 (by decide +kernel), gm 322 (by decide +kernel)⟩
theorem k_X2_108 : LkV RX2 108 yX1_begin cX1_begin 4 none 3 := ⟨⟨gm 232 (by decide +kernel), gm 34 (by decide +kernel), gm 235 (by decide +kernel), by decide +kernel⟩, gm 233 (by decide +kernel), gm 234 (by decide +kernel)⟩
theorem k_X3_80 : LkV RX3 80 yX3_streamAt cX3_streamAt 2 (some (.object "Layerwell$Stream")) 1 := ⟨⟨gm 567 (by decide +kernel), gm 31 (by decide +kernel), gm 570 (by decide +kernel), by decide +kernel⟩, gm 569 (by decide +kernel), gm 16 (by decide +kernel)⟩
theorem k_X3_102 : LkS RX3 102 yX3_requireOpen cX3_requireOpen 1 none 1 := ⟨⟨gm 595 (by decide +kernel), gm 31 (by decide +kernel), gm 597 (by decide +kernel), by decide +kernel⟩, gm 596 (by decide +kernel)⟩
theorem k_X3_128 : LkS RX3 128 yX3_countAlike cX3_countAlike 6 (some .int) 2 := ⟨⟨gm 666 (by decide +kernel), gm 31 (by decide +kernel), gm 668 (by decide +kernel), by decide +kernel⟩, gm 667 (by decide +kernel)⟩
theorem k_X3_96 : LkV RX3 96 yX3_openStreamAt cX3_openStreamAt 3 (some (.object "Layerwell$Stream")) 1 := ⟨⟨gm 591 (by decide +kernel), gm 31 (by decide +kernel), gm 594 (by decide +kernel), by decide +kernel⟩, gm 593 (by decide +kernel), gm 17 (by decide +kernel)⟩
theorem F_X3_145 : FN RX3 145 RX1 TX1 8 3 6 "Layerwell" := ⟨rfl, by decide, List.mem_of_getElem? (i := 21) (by decide +kernel), in_X1⟩
theorem k_X3_135 : LkS RX3 135 yX3_require cX3_require 1 none 1 := ⟨⟨gm 684 (by decide +kernel), gm 31 (by decide +kernel), gm 686 (by decide +kernel), by decide +kernel⟩, gm 685 (by decide +kernel)⟩
theorem k_X3_148 : LkV RX3 148 yX1_goBack cX1_goBack 1 none 0 := ⟨⟨gm 701 (by decide +kernel), gm 34 (by decide +kernel), gm 338 (by decide +kernel), by decide +kernel⟩, gm 336 (by decide +kernel), gm 337 (by decide +kernel)⟩
theorem k_X3_142 : LkV RX3 142 yX1_shownLine cX1_shownLine 1 (some .int) 0 := ⟨⟨gm 689 (by decide +kernel), gm 34 (by decide +kernel), gm 692 (by decide +kernel), by decide +kernel⟩, gm 690 (by decide +kernel), gm 691 (by decide +kernel)⟩
theorem k_X3_34 : LkV RX3 34 yX3_sourceAt cX3_sourceAt 2 (some (.object "Layerwell$Row")) 1 := ⟨⟨gm 428 (by decide +kernel), gm 31 (by decide +kernel), gm 431 (by decide +kernel), by decide +kernel⟩, gm 430 (by decide +kernel), gm 15 (by decide +kernel)⟩
theorem k_X3_69 : LkS RX3 69 yX3_requirePlace cX3_requirePlace 2 none 2 := ⟨⟨gm 545 (by decide +kernel), gm 31 (by decide +kernel), gm 547 (by decide +kernel), by decide +kernel⟩, gm 546 (by decide +kernel)⟩
theorem k_X3_73 : LkV RX3 73 yX0_at cX0_at 2 (some .int) 1 := ⟨⟨gm 170 (by decide +kernel), gm 32 (by decide +kernel), gm 173 (by decide +kernel), by decide +kernel⟩, gm 171 (by decide +kernel), gm 172 (by decide +kernel)⟩
theorem F_X3_92 : FN RX3 92 RX1 TX1 8 3 1 "Layerwell" := ⟨rfl, by decide, List.mem_of_getElem? (i := 16) (by decide +kernel), in_X1⟩
theorem k_X3_132 : LkS RX3 132 yX3_canBeMarked cX3_canBeMarked 1 (some .boolean) 1 := ⟨⟨gm 676 (by decide +kernel), gm 31 (by decide +kernel), gm 326 (by decide +kernel), by decide +kernel⟩, gm 325 (by decide +kernel)⟩
theorem k_X3_160 : LkS RX3 160 yX3_hasCheck cX3_hasCheck 1 (some .boolean) 1 := ⟨⟨gm 180 (by decide +kernel), gm 31 (by decide +kernel), gm 182 (by decide +kernel), by decide +kernel⟩, gm 181 (by decide +kernel)⟩
theorem k_X3_163 : LkV RX3 163 yX1_checkNow cX1_checkNow 1 (some .long) 0 := ⟨⟨gm 183 (by decide +kernel), gm 34 (by decide +kernel), gm 186 (by decide +kernel), by decide +kernel⟩, gm 184 (by decide +kernel), gm 185 (by decide +kernel)⟩
theorem K_X3_167 : Jvm.Cond.constantLong RX3 167 (4294967295) ∈ gws := gm 740 (by decide +kernel)
theorem F_X3_169 : FN RX3 169 RX1 TX1 8 3 5 "Layerwell" := ⟨rfl, by decide, List.mem_of_getElem? (i := 20) (by decide +kernel), in_X1⟩
theorem k_X3_42 : LkV RX3 42 yX0_size cX0_size 1 (some .int) 0 := ⟨⟨gm 157 (by decide +kernel), gm 32 (by decide +kernel), gm 160 (by decide +kernel), by decide +kernel⟩, gm 158 (by decide +kernel), gm 159 (by decide +kernel)⟩
theorem k_X3_173 : LkS RX3 173 yX3_withByte cX3_withByte 7 (some .long) 2 := ⟨⟨gm 748 (by decide +kernel), gm 31 (by decide +kernel), gm 273 (by decide +kernel), by decide +kernel⟩, gm 272 (by decide +kernel)⟩
theorem K_X3_182 : Jvm.Cond.constantLong RX3 182 (7) ∈ gws := gm 165 (by decide +kernel)
theorem F_X3_11 : FL RX3 11 RX3 TX3 4 5 0 := ⟨rfl, by decide, gm 140 (by decide +kernel), in_X3⟩
theorem k_X3_184 : LkS RX3 184 yX3_withRow cX3_withRow 6 (some .long) 2 := ⟨⟨gm 166 (by decide +kernel), gm 31 (by decide +kernel), gm 168 (by decide +kernel), by decide +kernel⟩, gm 167 (by decide +kernel)⟩
theorem F_X3_22 : FL RX3 22 RX3 TX3 4 5 2 := ⟨rfl, by decide, gm 142 (by decide +kernel), in_X3⟩
theorem F_X3_17 : FL RX3 17 RX3 TX3 4 5 1 := ⟨rfl, by decide, gm 141 (by decide +kernel), in_X3⟩
theorem k_X3_188 : LkS RX3 188 yX3_withStream cX3_withStream 5 (some .long) 2 := ⟨⟨gm 174 (by decide +kernel), gm 31 (by decide +kernel), gm 176 (by decide +kernel), by decide +kernel⟩, gm 175 (by decide +kernel)⟩
theorem k_X3_66 : LkV RX3 66 yX0_makeEmpty cX0_makeEmpty 1 none 0 := ⟨⟨gm 530 (by decide +kernel), gm 32 (by decide +kernel), gm 208 (by decide +kernel), by decide +kernel⟩, gm 206 (by decide +kernel), gm 207 (by decide +kernel)⟩
theorem k_X3_113 : LkV RX3 113 yX1_rest cX1_rest 1 (some .int) 0 := ⟨⟨gm 645 (by decide +kernel), gm 34 (by decide +kernel), gm 298 (by decide +kernel), by decide +kernel⟩, gm 296 (by decide +kernel), gm 297 (by decide +kernel)⟩
theorem k_X3_99 : LkV RX3 99 yX1_next cX1_next 2 (some .int) 0 := ⟨⟨gm 614 (by decide +kernel), gm 34 (by decide +kernel), gm 269 (by decide +kernel), by decide +kernel⟩, gm 267 (by decide +kernel), gm 268 (by decide +kernel)⟩
theorem k_X3_63 : LkV RX3 63 yX0_takeLast cX0_takeLast 2 (some .int) 0 := ⟨⟨gm 519 (by decide +kernel), gm 32 (by decide +kernel), gm 522 (by decide +kernel), by decide +kernel⟩, gm 520 (by decide +kernel), gm 521 (by decide +kernel)⟩
theorem k_X3_77 : LkV RX3 77 yX0_countEnds cX0_countEnds 3 (some .int) 0 := ⟨⟨gm 556 (by decide +kernel), gm 32 (by decide +kernel), gm 559 (by decide +kernel), by decide +kernel⟩, gm 557 (by decide +kernel), gm 558 (by decide +kernel)⟩
theorem k_X3_1 : Cond.methodLink RX3 1 objectInit ∈ gws ∧ Cond.instanceMethod objectInit ∈ gws ∧ Cond.code objectInit ⟨#[0xb1]⟩ 1 none ∈ gws := ⟨gm 53 (by decide +kernel), gm 54 (by decide +kernel), gm 55 (by decide +kernel)⟩
theorem k_X3_21 : LkJ RX3 21 yX0_init "Layerwell" cX0_init 1 0 := ⟨List.mem_of_getElem? (i := 0) (by decide +kernel), gm 32 (by decide +kernel), gm 63 (by decide +kernel), by decide +kernel, gm 62 (by decide +kernel)⟩
theorem k_X3_28 : LkJ RX3 28 yX2_init "Layerwell" cX2_init 1 0 := ⟨List.mem_of_getElem? (i := 1) (by decide +kernel), gm 33 (by decide +kernel), gm 77 (by decide +kernel), by decide +kernel, gm 76 (by decide +kernel)⟩
theorem F_X3_29 : FL RX3 29 RX3 TX3 4 5 3 := ⟨rfl, by decide, gm 143 (by decide +kernel), in_X3⟩
theorem k_X3_33 : LkJ RX3 33 yX1_init "Layerwell" cX1_init 1 0 := ⟨List.mem_of_getElem? (i := 5) (by decide +kernel), gm 34 (by decide +kernel), gm 83 (by decide +kernel), by decide +kernel, gm 82 (by decide +kernel)⟩
theorem k_X3_154 : LkS RX3 154 yX3_hasLine cX3_hasLine 1 (some .boolean) 1 := ⟨⟨gm 177 (by decide +kernel), gm 31 (by decide +kernel), gm 179 (by decide +kernel), by decide +kernel⟩, gm 178 (by decide +kernel)⟩
theorem k_X3_192 : LkV RX3 192 yX3_longestSource cX3_longestSource 3 (some .int) 0 := ⟨⟨gm 192 (by decide +kernel), gm 31 (by decide +kernel), gm 195 (by decide +kernel), by decide +kernel⟩, gm 194 (by decide +kernel), gm 0 (by decide +kernel)⟩
theorem k_X3_195 : LkV RX3 195 yX2_holds cX2_holds 4 (some .boolean) 3 := ⟨⟨gm 196 (by decide +kernel), gm 33 (by decide +kernel), gm 199 (by decide +kernel), by decide +kernel⟩, gm 197 (by decide +kernel), gm 198 (by decide +kernel)⟩
theorem k_X3_151 : LkS RX3 151 yX3_tellsRest cX3_tellsRest 1 (some .boolean) 1 := ⟨⟨gm 709 (by decide +kernel), gm 31 (by decide +kernel), gm 711 (by decide +kernel), by decide +kernel⟩, gm 710 (by decide +kernel)⟩
theorem F_X3_157 : FN RX3 157 RX1 TX1 8 3 4 "Layerwell" := ⟨rfl, by decide, List.mem_of_getElem? (i := 19) (by decide +kernel), in_X1⟩
theorem k_X3_139 : LkV RX3 139 yX1_setMark cX1_setMark 1 none 0 := ⟨⟨gm 688 (by decide +kernel), gm 34 (by decide +kernel), gm 334 (by decide +kernel), by decide +kernel⟩, gm 332 (by decide +kernel), gm 333 (by decide +kernel)⟩
theorem k_X3_52 : LkS RX3 52 yX3_requireBetween cX3_requireBetween 3 none 3 := ⟨⟨gm 491 (by decide +kernel), gm 31 (by decide +kernel), gm 493 (by decide +kernel), by decide +kernel⟩, gm 492 (by decide +kernel)⟩
theorem k_X3_84 : LkV RX3 84 yX1_begin cX1_begin 4 none 3 := ⟨⟨gm 572 (by decide +kernel), gm 34 (by decide +kernel), gm 235 (by decide +kernel), by decide +kernel⟩, gm 233 (by decide +kernel), gm 234 (by decide +kernel)⟩
theorem k_X3_88 : LkS RX3 88 yX3_hasTwoSources cX3_hasTwoSources 1 (some .boolean) 1 := ⟨⟨gm 573 (by decide +kernel), gm 31 (by decide +kernel), gm 575 (by decide +kernel), by decide +kernel⟩, gm 574 (by decide +kernel)⟩
theorem k_X3_46 : LkS RX3 46 yX3_requireRoom cX3_requireRoom 1 none 1 := ⟨⟨gm 464 (by decide +kernel), gm 31 (by decide +kernel), gm 466 (by decide +kernel), by decide +kernel⟩, gm 465 (by decide +kernel)⟩
theorem k_X3_119 : LkV RX3 119 yX1_move cX1_move 4 none 2 := ⟨⟨gm 650 (by decide +kernel), gm 34 (by decide +kernel), gm 305 (by decide +kernel), by decide +kernel⟩, gm 303 (by decide +kernel), gm 304 (by decide +kernel)⟩
theorem k_X3_116 : LkV RX3 116 yX1_restOfLine cX1_restOfLine 2 (some .int) 0 := ⟨⟨gm 646 (by decide +kernel), gm 34 (by decide +kernel), gm 649 (by decide +kernel), by decide +kernel⟩, gm 647 (by decide +kernel), gm 648 (by decide +kernel)⟩
theorem k_X3_106 : LkV RX3 106 yX1_takePart cX1_takePart 5 (some .int) 2 := ⟨⟨gm 622 (by decide +kernel), gm 34 (by decide +kernel), gm 294 (by decide +kernel), by decide +kernel⟩, gm 292 (by decide +kernel), gm 293 (by decide +kernel)⟩
theorem k_X3_110 : LkV RX3 110 yX1_pass cX1_pass 4 (some .int) 1 := ⟨⟨gm 637 (by decide +kernel), gm 34 (by decide +kernel), gm 323 (by decide +kernel), by decide +kernel⟩, gm 321 (by decide +kernel), gm 322 (by decide +kernel)⟩
theorem k_X3_38 : LkS RX3 38 yX3_requireByte cX3_requireByte 1 none 1 := ⟨⟨gm 445 (by decide +kernel), gm 31 (by decide +kernel), gm 447 (by decide +kernel), by decide +kernel⟩, gm 446 (by decide +kernel)⟩
theorem k_X3_49 : LkV RX3 49 yX0_put cX0_put 2 none 1 := ⟨⟨gm 483 (by decide +kernel), gm 32 (by decide +kernel), gm 223 (by decide +kernel), by decide +kernel⟩, gm 221 (by decide +kernel), gm 222 (by decide +kernel)⟩
theorem K_X3_224 : Jvm.Cond.constantLong RX3 224 (2197175160) ∈ gws := gm 274 (by decide +kernel)
theorem K_X3_226 : Jvm.Cond.constantLong RX3 226 (31) ∈ gws := gm 169 (by decide +kernel)
theorem F_X4_7 : FL RX4 7 RX4 TX4 15 6 1 := ⟨rfl, by decide, gm 787 (by decide +kernel), in_X4⟩
theorem F_X4_13 : FL RX4 13 RX4 TX4 15 6 2 := ⟨rfl, by decide, gm 788 (by decide +kernel), in_X4⟩
theorem k_X4_63 : LkV RX4 63 yX4_isNo cX4_isNo 2 (some .boolean) 1 := ⟨⟨gm 842 (by decide +kernel), gm 35 (by decide +kernel), gm 845 (by decide +kernel), by decide +kernel⟩, gm 844 (by decide +kernel), gm 18 (by decide +kernel)⟩
theorem k_X4_59 : LkV RX4 59 yX4_isThrown cX4_isThrown 3 (some .boolean) 2 := ⟨⟨gm 849 (by decide +kernel), gm 35 (by decide +kernel), gm 852 (by decide +kernel), by decide +kernel⟩, gm 851 (by decide +kernel), gm 19 (by decide +kernel)⟩
theorem k_X4_108 : LkV RX4 108 yX4_isShut cX4_isShut 3 (some .boolean) 2 := ⟨⟨gm 916 (by decide +kernel), gm 35 (by decide +kernel), gm 919 (by decide +kernel), by decide +kernel⟩, gm 918 (by decide +kernel), gm 25 (by decide +kernel)⟩
theorem k_X4_112 : LkV RX4 112 yX4_passes cX4_passes 3 (some .int) 1 := ⟨⟨gm 920 (by decide +kernel), gm 35 (by decide +kernel), gm 923 (by decide +kernel), by decide +kernel⟩, gm 922 (by decide +kernel), gm 26 (by decide +kernel)⟩
theorem F_X4_19 : FL RX4 19 RX4 TX4 15 6 5 := ⟨rfl, by decide, gm 791 (by decide +kernel), in_X4⟩
theorem k_X4_89 : LkS RX4 89 yX4_isOfTwo cX4_isOfTwo 1 (some .boolean) 1 := ⟨⟨gm 904 (by decide +kernel), gm 35 (by decide +kernel), gm 906 (by decide +kernel), by decide +kernel⟩, gm 905 (by decide +kernel)⟩
theorem k_X4_82 : LkS RX4 82 yX4_hasLine cX4_hasLine 1 (some .boolean) 1 := ⟨⟨gm 893 (by decide +kernel), gm 35 (by decide +kernel), gm 895 (by decide +kernel), by decide +kernel⟩, gm 894 (by decide +kernel)⟩
theorem F_X4_41 : FL RX4 41 RX4 TX4 15 6 12 := ⟨rfl, by decide, gm 798 (by decide +kernel), in_X4⟩
theorem F_X4_31 : FL RX4 31 RX4 TX4 15 6 9 := ⟨rfl, by decide, gm 795 (by decide +kernel), in_X4⟩
theorem F_X4_45 : FL RX4 45 RX4 TX4 15 6 13 := ⟨rfl, by decide, gm 799 (by decide +kernel), in_X4⟩
theorem F_X4_34 : FL RX4 34 RX4 TX4 15 6 10 := ⟨rfl, by decide, gm 796 (by decide +kernel), in_X4⟩
theorem F_X4_48 : FL RX4 48 RX4 TX4 15 6 14 := ⟨rfl, by decide, gm 800 (by decide +kernel), in_X4⟩
theorem k_X4_121 : LkV RX4 121 yX4_lineOf cX4_lineOf 2 (some .int) 1 := ⟨⟨gm 976 (by decide +kernel), gm 35 (by decide +kernel), gm 979 (by decide +kernel), by decide +kernel⟩, gm 978 (by decide +kernel), gm 29 (by decide +kernel)⟩
theorem k_X4_55 : LkS RX4 55 yX4_lies cX4_lies 3 (some .boolean) 3 := ⟨⟨gm 846 (by decide +kernel), gm 35 (by decide +kernel), gm 848 (by decide +kernel), by decide +kernel⟩, gm 847 (by decide +kernel)⟩
theorem k_X4_71 : LkV RX4 71 yX4_at cX4_at 3 (some .int) 2 := ⟨⟨gm 865 (by decide +kernel), gm 35 (by decide +kernel), gm 868 (by decide +kernel), by decide +kernel⟩, gm 867 (by decide +kernel), gm 21 (by decide +kernel)⟩
theorem k_X4_118 : LkS RX4 118 yX4_canGoBack cX4_canGoBack 1 (some .boolean) 1 := ⟨⟨gm 969 (by decide +kernel), gm 35 (by decide +kernel), gm 971 (by decide +kernel), by decide +kernel⟩, gm 970 (by decide +kernel)⟩
theorem k_X4_124 : LkS RX4 124 yX4_hasCheck cX4_hasCheck 1 (some .boolean) 1 := ⟨⟨gm 1000 (by decide +kernel), gm 35 (by decide +kernel), gm 1002 (by decide +kernel), by decide +kernel⟩, gm 1001 (by decide +kernel)⟩
theorem K_X4_92 : Jvm.Cond.constantLong RX4 92 (4294967295) ∈ gws := gm 907 (by decide +kernel)
theorem F_X4_37 : FL RX4 37 RX4 TX4 15 6 11 := ⟨rfl, by decide, gm 797 (by decide +kernel), in_X4⟩
theorem k_X4_104 : LkS RX4 104 yX4_mixed cX4_mixed 8 (some .long) 2 := ⟨⟨gm 932 (by decide +kernel), gm 35 (by decide +kernel), gm 934 (by decide +kernel), by decide +kernel⟩, gm 933 (by decide +kernel)⟩
theorem K_X4_127 : Jvm.Cond.constantLong RX4 127 (7) ∈ gws := gm 1023 (by decide +kernel)
theorem K_X4_129 : Jvm.Cond.constantLong RX4 129 (31) ∈ gws := gm 1024 (by decide +kernel)
theorem F_X4_115 : FL RX4 115 RX4 TX4 15 6 4 := ⟨rfl, by decide, gm 790 (by decide +kernel), in_X4⟩
theorem F_X4_16 : FL RX4 16 RX4 TX4 15 6 3 := ⟨rfl, by decide, gm 789 (by decide +kernel), in_X4⟩
theorem F_X4_22 : FL RX4 22 RX4 TX4 15 6 6 := ⟨rfl, by decide, gm 792 (by decide +kernel), in_X4⟩
theorem F_X4_25 : FL RX4 25 RX4 TX4 15 6 7 := ⟨rfl, by decide, gm 793 (by decide +kernel), in_X4⟩
theorem k_X4_75 : LkV RX4 75 yX4_endsOf cX4_endsOf 5 (some .int) 1 := ⟨⟨gm 885 (by decide +kernel), gm 35 (by decide +kernel), gm 888 (by decide +kernel), by decide +kernel⟩, gm 887 (by decide +kernel), gm 22 (by decide +kernel)⟩
theorem k_X4_79 : LkV RX4 79 yX4_comes cX4_comes 3 none 2 := ⟨⟨gm 900 (by decide +kernel), gm 35 (by decide +kernel), gm 903 (by decide +kernel), by decide +kernel⟩, gm 902 (by decide +kernel), gm 24 (by decide +kernel)⟩
theorem k_X4_1 : Cond.methodLink RX4 1 objectInit ∈ gws ∧ Cond.instanceMethod objectInit ∈ gws ∧ Cond.code objectInit ⟨#[0xb1]⟩ 1 none ∈ gws := ⟨gm 785 (by decide +kernel), gm 54 (by decide +kernel), gm 55 (by decide +kernel)⟩
theorem F_X4_28 : FL RX4 28 RX4 TX4 15 6 8 := ⟨rfl, by decide, gm 794 (by decide +kernel), in_X4⟩
theorem F_X4_51 : FL RX4 51 RX4 TX4 15 6 0 := ⟨rfl, by decide, gm 786 (by decide +kernel), in_X4⟩
theorem k_X4_98 : LkV RX4 98 yX4_leftOf cX4_leftOf 2 (some .int) 1 := ⟨⟨gm 924 (by decide +kernel), gm 35 (by decide +kernel), gm 927 (by decide +kernel), by decide +kernel⟩, gm 926 (by decide +kernel), gm 27 (by decide +kernel)⟩
theorem K_X4_94 : Jvm.Cond.constantLong RX4 94 (2) ∈ gws := gm 935 (by decide +kernel)
theorem K_X4_96 : Jvm.Cond.constantLong RX4 96 (2197175160) ∈ gws := gm 936 (by decide +kernel)
theorem k_X4_85 : LkV RX4 85 yX4_goesIn cX4_goesIn 8 (some .int) 4 := ⟨⟨gm 896 (by decide +kernel), gm 35 (by decide +kernel), gm 899 (by decide +kernel), by decide +kernel⟩, gm 898 (by decide +kernel), gm 23 (by decide +kernel)⟩
theorem k_X4_101 : LkV RX4 101 yX4_outAt cX4_outAt 3 (some .int) 2 := ⟨⟨gm 928 (by decide +kernel), gm 35 (by decide +kernel), gm 931 (by decide +kernel), by decide +kernel⟩, gm 930 (by decide +kernel), gm 28 (by decide +kernel)⟩
theorem k_X4_67 : LkV RX4 67 yX4_adds cX4_adds 3 none 2 := ⟨⟨gm 853 (by decide +kernel), gm 35 (by decide +kernel), gm 856 (by decide +kernel), by decide +kernel⟩, gm 855 (by decide +kernel), gm 20 (by decide +kernel)⟩
theorem th0_x : ∀ w ∈ (vx_atS RX3 179 "java/lang/ArithmeticException" ["java/lang/RuntimeException", "java/lang/Exception"]).filter goodWord, w ∈ lw_tbl := by decide +kernel
theorem th0 : ThW "java/lang/ArithmeticException" ["java/lang/RuntimeException", "java/lang/Exception"] 177 179 := ⟨by decide +kernel, gm 770 (by decide +kernel), gm 47 (by decide +kernel), fun w hw => List.mem_filter.mpr ⟨th0_x w hw, (List.mem_filter.mp hw).2⟩, by decide +kernel, by decide +kernel⟩
theorem th1_x : ∀ w ∈ (vx_atS RX3 127 "java/lang/IllegalArgumentException" ["java/lang/RuntimeException", "java/lang/Exception"]).filter goodWord, w ∈ lw_tbl := by decide +kernel
theorem th1 : ThW "java/lang/IllegalArgumentException" ["java/lang/RuntimeException", "java/lang/Exception"] 123 127 := ⟨by decide +kernel, gm 448 (by decide +kernel), gm 42 (by decide +kernel), fun w hw => List.mem_filter.mpr ⟨th1_x w hw, (List.mem_filter.mp hw).2⟩, by decide +kernel, by decide +kernel⟩
theorem th2_x : ∀ w ∈ (vx_atS RX3 221 "java/lang/IllegalStateException" ["java/lang/RuntimeException", "java/lang/Exception"]).filter goodWord, w ∈ lw_tbl := by decide +kernel
theorem th2 : ThW "java/lang/IllegalStateException" ["java/lang/RuntimeException", "java/lang/Exception"] 217 221 := ⟨by decide +kernel, gm 467 (by decide +kernel), gm 43 (by decide +kernel), fun w hw => List.mem_filter.mpr ⟨th2_x w hw, (List.mem_filter.mp hw).2⟩, by decide +kernel, by decide +kernel⟩
theorem th3_x : ∀ w ∈ (vx_atS RX3 203 "java/lang/IndexOutOfBoundsException" ["java/lang/RuntimeException", "java/lang/Exception"]).filter goodWord, w ∈ lw_tbl := by decide +kernel
theorem th3 : ThW "java/lang/IndexOutOfBoundsException" ["java/lang/RuntimeException", "java/lang/Exception"] 199 203 := ⟨by decide +kernel, gm 432 (by decide +kernel), gm 39 (by decide +kernel), fun w hw => List.mem_filter.mpr ⟨th3_x w hw, (List.mem_filter.mp hw).2⟩, by decide +kernel, by decide +kernel⟩
theorem th4_x : ∀ w ∈ (vx_atS RX3 210 "java/lang/UnsupportedOperationException" ["java/lang/RuntimeException", "java/lang/Exception"]).filter goodWord, w ∈ lw_tbl := by decide +kernel
theorem th4 : ThW "java/lang/UnsupportedOperationException" ["java/lang/RuntimeException", "java/lang/Exception"] 206 210 := ⟨by decide +kernel, gm 598 (by decide +kernel), gm 45 (by decide +kernel), fun w hw => List.mem_filter.mpr ⟨th4_x w hw, (List.mem_filter.mp hw).2⟩, by decide +kernel, by decide +kernel⟩
theorem th5_x : ∀ w ∈ (vx_atS RX3 60 "java/util/NoSuchElementException" ["java/lang/RuntimeException", "java/lang/Exception"]).filter goodWord, w ∈ lw_tbl := by decide +kernel
theorem th5 : ThW "java/util/NoSuchElementException" ["java/lang/RuntimeException", "java/lang/Exception"] 56 60 := ⟨by decide +kernel, gm 503 (by decide +kernel), gm 44 (by decide +kernel), fun w hw => List.mem_filter.mpr ⟨th5_x w hw, (List.mem_filter.mp hw).2⟩, by decide +kernel, by decide +kernel⟩
theorem C_L_8 : Cond.classLink RL 8 RX3 ∈ gws := gm 48 (by decide +kernel)
theorem C_X3_9 : Cond.classLink RX3 9 RX0 ∈ gws := gm 56 (by decide +kernel)
theorem C_X3_15 : Cond.classLink RX3 15 RX1 ∈ gws := gm 58 (by decide +kernel)
theorem C_X3_26 : Cond.classLink RX3 26 RX2 ∈ gws := gm 73 (by decide +kernel)
theorem C_X2_9 : Cond.classLink RX2 9 RX1 ∈ gws := gm 79 (by decide +kernel)
theorem C_X1_9 : Cond.classLink RX1 9 RX0 ∈ gws := gm 85 (by decide +kernel)
theorem C_X2_18 : Cond.classLink RX2 18 RX0 ∈ gws := gm 118 (by decide +kernel)
theorem C_L_13 : Cond.classLink RL 13 "java/lang/IndexOutOfBoundsException" ∈ gws := gm 342 (by decide +kernel)
theorem C_L_15 : Cond.classLink RL 15 "java/lang/IllegalArgumentException" ∈ gws := gm 422 (by decide +kernel)
theorem C_L_17 : Cond.classLink RL 17 "java/lang/IllegalStateException" ∈ gws := gm 423 (by decide +kernel)
theorem C_X3_199 : Cond.classLink RX3 199 "java/lang/IndexOutOfBoundsException" ∈ gws := gm 432 (by decide +kernel)
theorem C_X3_123 : Cond.classLink RX3 123 "java/lang/IllegalArgumentException" ∈ gws := gm 448 (by decide +kernel)
theorem C_X3_217 : Cond.classLink RX3 217 "java/lang/IllegalStateException" ∈ gws := gm 467 (by decide +kernel)
theorem C_L_27 : Cond.classLink RL 27 "java/util/NoSuchElementException" ∈ gws := gm 498 (by decide +kernel)
theorem C_X3_56 : Cond.classLink RX3 56 "java/util/NoSuchElementException" ∈ gws := gm 503 (by decide +kernel)
theorem C_L_51 : Cond.classLink RL 51 "java/lang/UnsupportedOperationException" ∈ gws := gm 586 (by decide +kernel)
theorem C_X3_206 : Cond.classLink RX3 206 "java/lang/UnsupportedOperationException" ∈ gws := gm 598 (by decide +kernel)
theorem C_L_104 : Cond.classLink RL 104 "java/lang/ArithmeticException" ∈ gws := gm 752 (by decide +kernel)
theorem C_X3_177 : Cond.classLink RX3 177 "java/lang/ArithmeticException" ∈ gws := gm 770 (by decide +kernel)
theorem C_L_111 : Cond.classLink RL 111 RX4 ∈ gws := gm 780 (by decide +kernel)
end
