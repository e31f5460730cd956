/-! ENGINE: one index for every cell of the system (49 cells at addresses G.1 i); c says what each holds; V says that the machine, at this place with these locals and this stack, over any heap that holds c, comes to Q -/
abbrev GG : Type := (Nat → Nat) × (Nat → ClassId) × (Nat → Nat → Nat) × (Nat → ClassId)
abbrev CC : Type := Nat → va_E
abbrev LV : Type := List (Nat × Value)
abbrev CX : Type := Program × Launch × Env × State × MethodId × Array Value × List Frame × Method × Code × Room × (State → Prop)
abbrev xp (X : CX) : Program := X.1
abbrev xl (X : CX) : Launch := X.2.1
abbrev xe (X : CX) : Env := X.2.2.1
abbrev xs (X : CX) : State := X.2.2.2.1
abbrev xm (X : CX) : MethodId := X.2.2.2.2.1
abbrev xa (X : CX) : Array Value := X.2.2.2.2.2.1
abbrev xb (X : CX) : List Frame := X.2.2.2.2.2.2.1
abbrev xh (X : CX) : Method := X.2.2.2.2.2.2.2.1
abbrev xc (X : CX) : Code := X.2.2.2.2.2.2.2.2.1
abbrev xR (X : CX) : Room := X.2.2.2.2.2.2.2.2.2.1
abbrev xQ (X : CX) : State → Prop := X.2.2.2.2.2.2.2.2.2.2
abbrev gD (G : GG) : va_G := (G.2.1, G.2.2.1)
def gl_tys (G : GG) : List (ClassId × FieldType) := [(G.2.2.2 0, .int), (G.2.2.2 1, .long), (G.2.2.2 2, .boolean), (G.2.2.2 3, .double), (G.2.2.2 4, .object RX0), (G.2.2.2 5, .object RX1)]
def wl (G : GG) (c : CC) : va_W := (List.range 49).map (fun i => (G.1 i, c i))
def Sy (G : GG) (c : CC) (H : Heap) : Prop := va_P (gD G) vwCl (wl G c) H
def InjG (G : GG) : Prop := ∀ i j : Nat, i < 49 → j < 49 → G.1 i = G.1 j → i = j
def gA (G : GG) (sz : Nat) : Nat → Prop := fun q => (∃ i, i < 49 ∧ q = G.1 i) ∨ sz ≤ q
theorem gA_mono {G : GG} {a b : Nat} (h : a ≤ b) (q : Nat) (hq : gA G b q) : gA G a q := hq.elim Or.inl (fun z => Or.inr (Nat.le_trans h z))
theorem wl_at {G : GG} {c : CC} {i : Nat} (hi : i < 49) : (wl G c)[i]? = some (G.1 i, c i) := by
  unfold wl
  rw [List.getElem?_map, List.getElem?_range hi]
  rfl
theorem wl_of {G : GG} {c : CC} {i : Nat} {p : Nat × va_E} (h : (wl G c)[i]? = some p) : i < 49 ∧ p = (G.1 i, c i) := by
  have hi : i < 49 := by
    have h1 := (List.getElem?_eq_some_iff.mp h).1
    simpa [wl] using h1
  rw [wl_at hi] at h
  exact ⟨hi, (Option.some.inj h).symm⟩
theorem wl_D {G : GG} {c : CC} {sz : Nat} (h : InjG G) : va_D (gA G sz) (wl G c) := by
  refine ⟨fun i j p q hi hj hpq => ?_, fun k q hk => ?_⟩
  · obtain ⟨h1, rfl⟩ := wl_of hi
    obtain ⟨h2, rfl⟩ := wl_of hj
    exact h i j h1 h2 hpq
  · obtain ⟨h1, rfl⟩ := wl_of hk
    exact Or.inl ⟨k, h1, rfl⟩
theorem wl_set {G : GG} {c c1 : CC} {i : Nat} {e : va_E} (hi : i < 49) (h1 : c1 i = e) (h2 : ∀ j : Nat, j ≠ i → c1 j = c j) : (wl G c).set i (G.1 i, e) = wl G c1 := by
  apply List.ext_getElem?
  intro j
  by_cases hj : j = i
  · subst hj
    rw [List.getElem?_set_self (by simpa [wl] using hi), wl_at hi, h1]
  · rw [List.getElem?_set_ne (Ne.symm hj)]
    by_cases hl : j < 49
    · rw [wl_at hl, wl_at hl, h2 j hj]
    · rw [List.getElem?_eq_none (by simpa [wl] using Nat.le_of_not_lt hl), List.getElem?_eq_none (by simpa [wl] using Nat.le_of_not_lt hl)]
/-- the words that every method has: all good ones of the tables -/
def gws : List Cond := lw_tbl.filter goodWord
theorem gws_sub {w : Cond} (h : w ∈ gws) : w ∈ lw_tbl := (List.mem_filter.mp (show w ∈ lw_tbl.filter goodWord from h)).1
def isNw : Cond → Bool
  | .fieldLinkNest .. => true
  | .methodLinkNest .. => true
  | .castable .. => true
  | .declares .. => true
  | _ => false
theorem isNw_warm {w : Cond} {s U : State} (h : isNw w = true) (hW : s.WarmedH U.vm) (hz : va_Nw w s) : va_Nw w U := by
  cases w <;> first | exact Bool.noConfusion (show false = true from h) | exact va_Nw.warmF hW hz | exact va_Nw.warmM hW hz | exact va_Nw.warmC hW hz | exact va_Nw.warmD hW hz
def nwW : List Cond := [.methodLinkNest RX3 21 yX0_init "Layerwell", .methodLinkNest RX3 28 yX2_init "Layerwell", .methodLinkNest RX2 11 yX1_init "Layerwell", .methodLinkNest RX1 11 yX0_init "Layerwell", .methodLinkNest RX2 20 yX0_init "Layerwell", .methodLinkNest RX3 33 yX1_init "Layerwell", .methodLinkNest RX2 56 yX3_isLined "Layerwell", .methodLinkNest RX1 51 yX3_isLined "Layerwell", .methodLinkNest RX1 38 yX3_goesBackUnmarked "Layerwell", .methodLinkNest RX1 76 yX3_hasCheck "Layerwell", .methodLinkNest RX1 79 yX3_withByte "Layerwell", .methodLinkNest RX2 129 yX3_hasCheck "Layerwell", .methodLinkNest RX2 132 yX3_withByte "Layerwell", .methodLinkNest RX2 136 yX3_hasLine "Layerwell", .methodLinkNest RX2 42 yX3_canBeMarked "Layerwell", .methodLinkNest RX1 100 yX3_hasLine "Layerwell", .fieldLinkNest RX3 92 "Layerwell$Stream" "kind" "I" "Layerwell", .fieldLinkNest RX2 126 "Layerwell$Stream" "kind" "I" "Layerwell", .fieldLinkNest RX2 139 "Layerwell$Stream" "lineNumber" "I" "Layerwell", .fieldLinkNest RX3 157 "Layerwell$Stream" "lineNumber" "I" "Layerwell", .fieldLinkNest RX3 169 "Layerwell$Stream" "register" "J" "Layerwell", .fieldLinkNest RX3 145 "Layerwell$Stream" "markPlace" "I" "Layerwell", .castable "java/lang/IndexOutOfBoundsException" "java/lang/IndexOutOfBoundsException", .castable "java/lang/IllegalArgumentException" "java/lang/IllegalArgumentException", .castable "java/lang/IllegalStateException" "java/lang/IllegalStateException", .castable "java/util/NoSuchElementException" "java/util/NoSuchElementException", .castable "java/lang/UnsupportedOperationException" "java/lang/UnsupportedOperationException", .castable "java/lang/ArithmeticException" "java/lang/ArithmeticException", .declares ⟨"java/lang/RuntimeException", "<init>", "(Ljava/lang/String;)V"⟩, .declares ⟨"java/lang/Exception", "<init>", "(Ljava/lang/String;)V"⟩, .declares ⟨"java/lang/Throwable", "<init>", "(Ljava/lang/String;)V"⟩]
def ncW : List (String × String) := [("java/lang/IllegalArgumentException", "java/lang/IndexOutOfBoundsException"), ("java/lang/IllegalStateException", "java/lang/IndexOutOfBoundsException"), ("java/util/NoSuchElementException", "java/lang/IndexOutOfBoundsException"), ("java/lang/UnsupportedOperationException", "java/lang/IndexOutOfBoundsException"), ("java/lang/ArithmeticException", "java/lang/IndexOutOfBoundsException"), ("java/lang/IndexOutOfBoundsException", "java/lang/IllegalArgumentException"), ("java/lang/IllegalStateException", "java/lang/IllegalArgumentException"), ("java/util/NoSuchElementException", "java/lang/IllegalArgumentException"), ("java/lang/UnsupportedOperationException", "java/lang/IllegalArgumentException"), ("java/lang/ArithmeticException", "java/lang/IllegalArgumentException"), ("java/lang/IndexOutOfBoundsException", "java/lang/IllegalStateException"), ("java/lang/IllegalArgumentException", "java/lang/IllegalStateException"), ("java/util/NoSuchElementException", "java/lang/IllegalStateException"), ("java/lang/UnsupportedOperationException", "java/lang/IllegalStateException"), ("java/lang/ArithmeticException", "java/lang/IllegalStateException"), ("java/lang/IndexOutOfBoundsException", "java/util/NoSuchElementException"), ("java/lang/IllegalArgumentException", "java/util/NoSuchElementException"), ("java/lang/IllegalStateException", "java/util/NoSuchElementException"), ("java/lang/UnsupportedOperationException", "java/util/NoSuchElementException"), ("java/lang/ArithmeticException", "java/util/NoSuchElementException"), ("java/lang/IndexOutOfBoundsException", "java/lang/UnsupportedOperationException"), ("java/lang/IllegalArgumentException", "java/lang/UnsupportedOperationException"), ("java/lang/IllegalStateException", "java/lang/UnsupportedOperationException"), ("java/util/NoSuchElementException", "java/lang/UnsupportedOperationException"), ("java/lang/ArithmeticException", "java/lang/UnsupportedOperationException"), ("java/lang/IndexOutOfBoundsException", "java/lang/ArithmeticException"), ("java/lang/IllegalArgumentException", "java/lang/ArithmeticException"), ("java/lang/IllegalStateException", "java/lang/ArithmeticException"), ("java/util/NoSuchElementException", "java/lang/ArithmeticException"), ("java/lang/UnsupportedOperationException", "java/lang/ArithmeticException")]
def stW : List (Nat × String) := [(201, "there is no such source"), (213, "the number is no byte"), (219, "the source would have too many bytes"), (215, "the number is out of range"), (58, "the source has no bytes"), (222, "there is no such place"), (204, "there is no such stream"), (208, "the stream is not open"), (125, "both are the same stream"), (211, "the stream can't do that"), (180, "no open stream has a line number")]
theorem nwW_ok : ∀ w ∈ nwW, isNw w = true := by decide +kernel
def WdK (G : GG) (U : State) : Prop := va_K (gD G) vwCl (gl_tys G) U ∧ (∀ w ∈ nwW, va_Nw w U) ∧ (∀ x ∈ ncW, va_Nc x.1 x.2 U) ∧ (∀ x ∈ stW, ∃ a, vk_R RX3 x.1 x.2 a U)
theorem WdK.warm {G : GG} {s U : State} (hW : s.WarmedH U.vm) (h : WdK G s) : WdK G U :=
  ⟨va_K.moved hW.alike h.1, fun w hw => isNw_warm (nwW_ok w hw) hW (h.2.1 w hw), fun x hx => va_Nc.moved hW.alike (h.2.2.1 x hx), fun x hx => by
    obtain ⟨a, ha⟩ := h.2.2.2 x hx
    exact ⟨a, vk_R.warm hW ha⟩⟩
def WdZ (G : GG) (sz : Nat) (U : State) (H : Heap) : Prop := vx_Zq Bundle.tN "UNASSIGNED_STACK" Bundle.steD (gA G sz) U H ∧ vx_Zq Bundle.tN "SUPPRESSED_SENTINEL" Bundle.listD (gA G sz) U H
theorem WdZ.moved {G : GG} {sz : Nat} {u U : State} {H : Heap} (hvm : u.vm.Alike U.vm) (h : WdZ G sz u H) : WdZ G sz U H := ⟨vx_Zq.moved hvm h.1, vx_Zq.moved hvm h.2⟩
theorem WdZ.kept {G : GG} {sz : Nat} {U : State} {H H1 : Heap} (h : WdZ G sz U H) (hq : ∀ a : Nat, a < H.size → ¬ gA G sz a → H1[a]? = H[a]?) : WdZ G sz U H1 := ⟨h.1.kept hq, h.2.kept hq⟩
theorem WdZ.narrow {G : GG} {a b : Nat} {U : State} {H : Heap} (h : WdZ G a U H) (hab : a ≤ b) : WdZ G b U H := ⟨h.1.narrow (gA_mono hab), h.2.narrow (gA_mono hab)⟩
def PreG (G : GG) (sz : Nat) (c : CC) : State → Prop := fun U => U.heap.size = sz ∧ Sy G c U.heap ∧ WdK G U ∧ WdZ G sz U U.heap
def QcG (G : GG) (post : Option Value → CC → Prop) (sz : Nat) : Array Value → State → Outcome → State → Prop := fun _ st oc t => (∃ (v : Option Value) (c' : CC), oc = .returned v ∧ post v c' ∧ Sy G c' t.heap) ∧ va_F (gA G sz) st t
def XcG (G : GG) (px : String → Prop) (c : CC) (sz : Nat) : String → State → State → Prop := fun E st t => px E ∧ Sy G c t.heap ∧ va_F (gA G sz) st t
/-- A METHOD'S CONTRACT: from cells c with these arguments it returns v over cells c' with 'post v c'', or throws E with 'px E' over c itself -/
def MC (G : GG) (l : Launch) (y : MethodName) (ws : List Cond) (rm : Room) (av : List Value) (c : CC) (post : Option Value → CC → Prop) (px : String → Prop) : Prop :=
  ∀ sz : Nat, vx_Met l y ws rm (va_Pc av (PreG G sz c)) (QcG G post sz) (XcG G px c sz) rm.cells rm.slots (gA G sz)
abbrev pF : String → Prop := fun _ => False
abbrev pI (post : Int32 → CC → Prop) : Option Value → CC → Prop := fun v c' => ∃ r : Int32, v = some (.int r) ∧ post r c'
abbrev pL (post : Int64 → CC → Prop) : Option Value → CC → Prop := fun v c' => ∃ r : Int64, v = some (.long r) ∧ post r c'
abbrev pFl (post : UInt32 → CC → Prop) : Option Value → CC → Prop := fun v c' => ∃ r : UInt32, v = some (.float r) ∧ post r c'
abbrev pD (post : UInt64 → CC → Prop) : Option Value → CC → Prop := fun v c' => ∃ r : UInt64, v = some (.double r) ∧ post r c'
abbrev pR (post : Nat → CC → Prop) : Option Value → CC → Prop := fun v c' => ∃ r : Nat, v = some (.ref r) ∧ post r c'
abbrev pV (post : CC → Prop) : Option Value → CC → Prop := fun v c' => v = none ∧ post c'
def V (G : GG) (X : CX) (c : CC) (lv : LV) (k n pc : Nat) (st : List Value) : Prop :=
  ∀ (H : Heap) (locs : List Loc) (ls : Array Slot), Sy G c H → va_S (gA G (xs X).heap.size) (xs X).heap H locs → lv_has ls (xc X).maxLocals lv → W (xp X) (xl X) (xe X) (xR X) (xs X) (xm X) (xa X) (xb X) (xh X) (xc X) H locs k n (xQ X) (F0 (xm X) pc ls st)
/-- thrown here, from cells c -/
def VX (G : GG) (X : CX) (c : CC) (lv : LV) (k n pc : Nat) (rest : List Value) (E : String) : Prop :=
  ∀ (H : Heap) (locs : List Loc) (ls : Array Slot) (q : Addr) (ce : Cell), Sy G c H → va_S (gA G (xs X).heap.size) (xs X).heap H locs → lv_has ls (xc X).maxLocals lv → H[q]? = some ce → ce.vm = .none → (xs X).vm.findClass E = some ce.cls → vx_W (xp X) (xl X) (xe X) (xR X) (xs X) (xm X) (xa X) (xb X) (xh X) (xc X) H locs k n (xQ X) (F0 (xm X) pc ls rest) q
def Ok (G : GG) (X : CX) (own : String) (cc : ByteArray) (nL : Nat) (rm : Room) : Prop :=
  (xp X).tables.exec = Jvm.exec ∧ (xc X).code = cc ∧ (xs X).vm.findClass own = some (xm X).cls ∧ (∀ w ∈ gws, w.before (xa X) (xs X) = true) ∧ (xc X).maxLocals = nL ∧ xR X = rm ∧ WdK G (xs X) ∧ WdZ G (xs X).heap.size (xs X) (xs X).heap ∧ InjG G ∧ (xl X).stackTraces = false ∧ (xh X).locks = false
def NoT (X : CX) : Prop := ∀ x ∈ (xc X).exceptionTable.toList, False
def OkQ (G : GG) (X : CX) (post : Option Value → CC → Prop) (px : String → Prop) (c0 : CC) (rm : Room) : Prop :=
  xQ X = vx_MQ (xb X) (QcG G post (xs X).heap.size) (XcG G px c0 (xs X).heap.size) (xa X) (xs X) rm.cells rm.slots (gA G (xs X).heap.size)
section OKS
variable {G : GG} {X : CX} {own : String} {cc : ByteArray} {nL : Nat} {rm : Room}
theorem Ok.x (h : Ok G X own cc nL rm) : (xp X).tables.exec = Jvm.exec := h.1
theorem Ok.b (h : Ok G X own cc nL rm) : (xc X).code = cc := h.2.1
theorem Ok.o (h : Ok G X own cc nL rm) : (xs X).vm.findClass own = some (xm X).cls := h.2.2.1
theorem Ok.w (h : Ok G X own cc nL rm) : ∀ w ∈ gws, w.before (xa X) (xs X) = true := h.2.2.2.1
theorem Ok.n (h : Ok G X own cc nL rm) : (xc X).maxLocals = nL := h.2.2.2.2.1
theorem Ok.r (h : Ok G X own cc nL rm) : xR X = rm := h.2.2.2.2.2.1
theorem Ok.k (h : Ok G X own cc nL rm) : WdK G (xs X) := h.2.2.2.2.2.2.1
theorem Ok.z (h : Ok G X own cc nL rm) : WdZ G (xs X).heap.size (xs X) (xs X).heap := h.2.2.2.2.2.2.2.1
theorem Ok.i (h : Ok G X own cc nL rm) : InjG G := h.2.2.2.2.2.2.2.2.1
theorem Ok.t (h : Ok G X own cc nL rm) : (xl X).stackTraces = false := h.2.2.2.2.2.2.2.2.2.1
theorem Ok.l (h : Ok G X own cc nL rm) : (xh X).locks = false := h.2.2.2.2.2.2.2.2.2.2
end OKS
theorem gws_good : ∀ w ∈ gws, (w.onTables && w.keeps) = true ∨ ∃ ty, w = .arrayClass ty := fun w hw => good_of_word (List.mem_filter.mp (show w ∈ lw_tbl.filter goodWord from hw)).2
section MCO
variable {G : GG} {l : Launch} {y : MethodName} {cc : ByteArray} {maxL : Nat} {ret : Option FieldType} {rm : Room} {av : List Value} {c : CC} {post : Option Value → CC → Prop} {px : String → Prop}
theorem MC.of (hy : plainName y.cls = true) (hl : l.stackTraces = false) (hG : InjG G) (hlen : (lg_sl av).length ≤ maxL)
    (body : ∀ X : CX, xl X = l → Ok G X y.cls cc maxL rm → NoT X → OkQ G X post px c rm → (xh X).sig.returnType = ret → V G X c (lv_args 0 av) 0 0 0 []) : MC G l y (.code y cc maxL ret :: gws) rm av c post px := by
  intro sz
  refine vx_ofW (cc := cc) (maxL := maxL) (ret := ret) hy rfl ?_
  intro p e s m args below meth cd s₁ B hml ht hv
  obtain ⟨rfl, hsz, hP, hK, hZ⟩ := hv
  subst hsz
  have hts0 := atoms_spec (ws := Cond.code y cc maxL ret :: gws) B.pre
  have hl0 := lv_entry av (n := maxL) hlen
  rw [lg_entry_eq]
  have hV := body (p, l, e, s, m, av.toArray, below, meth, cd, rm, vx_MQ below (QcG G post s.heap.size) (XcG G px c s.heap.size) av.toArray s rm.cells rm.slots (gA G s.heap.size)) rfl
    ⟨B.exec, B.bytes, findClass_of_methodNamed B.named, fun w hw => hts0 w (List.mem_cons_of_mem _ hw), hml, rfl, hK, hZ, hG, hl, B.notSynchronized⟩ ht rfl B.returns
  exact hV s.heap [] _ hP va_S.rf (by show lv_has _ cd.maxLocals _; rw [hml]; exact hl0)
theorem MC.ofH {hh : List (Nat × Nat × Nat × Nat)} (hy : plainName y.cls = true) (hl : l.stackTraces = false) (hG : InjG G) (hlen : (lg_sl av).length ≤ maxL)
    (body : ∀ X : CX, xl X = l → Ok G X y.cls cc maxL rm → (xc X).exceptionTable.toList = tableOf hh → OkQ G X post px c rm → (xh X).sig.returnType = ret → V G X c (lv_args 0 av) 0 0 0 []) : MC G l y (.codeWith y cc maxL ret hh :: gws) rm av c post px := by
  intro sz
  refine vx_ofWH (cc := cc) (maxL := maxL) (ret := ret) (hh := hh) hy rfl ?_
  intro p e s m args below meth cd s₁ B hml hv
  obtain ⟨rfl, hsz, hP, hK, hZ⟩ := hv
  subst hsz
  have hts0 := atoms_spec (ws := Cond.codeWith y cc maxL ret hh :: gws) B.pre
  have hl0 := lv_entry av (n := maxL) hlen
  rw [lg_entry_eq]
  have hV := body (p, l, e, s, m, av.toArray, below, meth, cd, rm, vx_MQ below (QcG G post s.heap.size) (XcG G px c s.heap.size) av.toArray s rm.cells rm.slots (gA G s.heap.size)) rfl
    ⟨B.exec, B.bytes, findClass_of_methodNamed B.named, fun w hw => hts0 w (List.mem_cons_of_mem _ hw), hml, rfl, hK, hZ, hG, hl, B.notSynchronized⟩ (vx_table (x := y) B (hts0 _ List.mem_cons_self)) rfl B.returns
  exact hV s.heap [] _ hP va_S.rf (by show lv_has _ cd.maxLocals _; rw [hml]; exact hl0)
end MCO
section ROWS
variable {G : GG} {X : CX} {own : String} {cc : ByteArray} {nL : Nat} {rm : Room} {c : CC} {lv : LV} {k n pc : Nat} {st : List Value}
theorem r_iconst (h : Ok G X own cc nL rm) {z : Int} {v : Int32} (hv : Int32.ofInt z = v) (d : decode cc pc = .ok (.iconst z, 1)) (kk : V G X c lv k n (pc + 1) (.int v :: st)) : V G X c lv k n pc (st) := fun H locs ls hP hS hl => lv_iconst h.x h.b d hv (kk H locs ls hP hS hl)
theorem r_bipush (h : Ok G X own cc nL rm) {z : Int} {v : Int32} (hv : (Int8.ofInt z).toInt32 = v) (d : decode cc pc = .ok (.bipush z, 2)) (kk : V G X c lv k n (pc + 2) (.int v :: st)) : V G X c lv k n pc (st) := fun H locs ls hP hS hl => lv_bipush h.x h.b d hv (kk H locs ls hP hS hl)
theorem r_sipush (h : Ok G X own cc nL rm) {z : Int} {v : Int32} (hv : (Int16.ofInt z).toInt32 = v) (d : decode cc pc = .ok (.sipush z, 3)) (kk : V G X c lv k n (pc + 3) (.int v :: st)) : V G X c lv k n pc (st) := fun H locs ls hP hS hl => lv_sipush h.x h.b d hv (kk H locs ls hP hS hl)
theorem r_lconst (h : Ok G X own cc nL rm) {z : Fin 2} {v : Int64} (hv : Int64.ofNat (z : Nat) = v) (d : decode cc pc = .ok (.lconst z, 1)) (kk : V G X c lv k n (pc + 1) (.long v :: st)) : V G X c lv k n pc (st) := fun H locs ls hP hS hl => lv_lconst h.x h.b d hv (kk H locs ls hP hS hl)
theorem r_ldc2 (h : Ok G X own cc nL rm) {ix : Nat} {v : Int64} (hw : Jvm.Cond.constantLong own ix v ∈ gws) (d : decode cc pc = .ok (.ldc2_w ix, 3)) (kk : V G X c lv k n (pc + 3) (.long v :: st)) : V G X c lv k n pc (st) := fun H locs ls hP hS hl => lv_ldc2 h.x h.b h.o (h.w _ hw) d (kk H locs ls hP hS hl)
theorem r_dconst0 (h : Ok G X own cc nL rm) (d : decode cc pc = .ok (.dconst 0, 1)) (kk : V G X c lv k n (pc + 1) (.double 0 :: st)) : V G X c lv k n pc (st) := fun H locs ls hP hS hl => lv_dconst0 h.x h.b d (kk H locs ls hP hS hl)
theorem r_fconst0 (h : Ok G X own cc nL rm) (d : decode cc pc = .ok (.fconst 0, 1)) (kk : V G X c lv k n (pc + 1) (.float 0 :: st)) : V G X c lv k n pc (st) := fun H locs ls hP hS hl => lv_fconst0 h.x h.b d (kk H locs ls hP hS hl)
theorem r_iload_n (h : Ok G X own cc nL rm) {kf : Fin 4} (q : Nat) {i : Nat} {x : Int32} (hi : (kf : Nat) = i) (hq : lv[q]? = some (i, .int x)) (d : decode cc pc = .ok (.iload_n kf, 1)) (kk : V G X c lv k n (pc + 1) (.int x :: st)) : V G X c lv k n pc (st) := fun H locs ls hP hS hl => lv_iload_n h.x h.b d hi (lv_at hl q hq) (kk H locs ls hP hS hl)
theorem r_iload (h : Ok G X own cc nL rm) (q : Nat) {i : Nat} {x : Int32} (hq : lv[q]? = some (i, .int x)) (d : decode cc pc = .ok (.iload i, 2)) (kk : V G X c lv k n (pc + 2) (.int x :: st)) : V G X c lv k n pc (st) := fun H locs ls hP hS hl => lv_iload h.x h.b d (lv_at hl q hq) (kk H locs ls hP hS hl)
theorem r_istore_n (h : Ok G X own cc nL rm) {i : Nat} {x : Int32} (lv' : LV) {kf : Fin 4} (hi : (kf : Nat) = i) (d : decode cc pc = .ok (.istore_n kf, 1)) (hn : i < nL) (hlv : (i, Value.int x) :: lv.filter (fun q => !(q.1 == i) && !(q.1 + 1 == i && q.2.category == 2)) = lv') (kk : V G X c lv' k n (pc + 1) st) : V G X c lv k n pc (.int x :: st) := fun H locs ls hP hS hl => lv_istore_n h.x h.b d hi hl (by rw [h.n]; exact hn) hlv (fun ls' hl' => kk H locs ls' hP hS hl')
theorem r_istore (h : Ok G X own cc nL rm) {i : Nat} {x : Int32} (lv' : LV) (d : decode cc pc = .ok (.istore i, 2)) (hn : i < nL) (hlv : (i, Value.int x) :: lv.filter (fun q => !(q.1 == i) && !(q.1 + 1 == i && q.2.category == 2)) = lv') (kk : V G X c lv' k n (pc + 2) st) : V G X c lv k n pc (.int x :: st) := fun H locs ls hP hS hl => lv_istore h.x h.b d hl (by rw [h.n]; exact hn) hlv (fun ls' hl' => kk H locs ls' hP hS hl')
theorem r_lload_n (h : Ok G X own cc nL rm) {kf : Fin 4} (q : Nat) {i : Nat} {x : Int64} (hi : (kf : Nat) = i) (hq : lv[q]? = some (i, .long x)) (d : decode cc pc = .ok (.lload_n kf, 1)) (kk : V G X c lv k n (pc + 1) (.long x :: st)) : V G X c lv k n pc (st) := fun H locs ls hP hS hl => lv_lload_n h.x h.b d hi (lv_at hl q hq) (kk H locs ls hP hS hl)
theorem r_lload (h : Ok G X own cc nL rm) (q : Nat) {i : Nat} {x : Int64} (hq : lv[q]? = some (i, .long x)) (d : decode cc pc = .ok (.lload i, 2)) (kk : V G X c lv k n (pc + 2) (.long x :: st)) : V G X c lv k n pc (st) := fun H locs ls hP hS hl => lv_lload h.x h.b d (lv_at hl q hq) (kk H locs ls hP hS hl)
theorem r_lstore_n (h : Ok G X own cc nL rm) {i : Nat} {x : Int64} (lv' : LV) {kf : Fin 4} (hi : (kf : Nat) = i) (d : decode cc pc = .ok (.lstore_n kf, 1)) (hn : i + 1 < nL) (hlv : (i, Value.long x) :: lv.filter (fun q => !(q.1 == i) && (!(q.1 == i + 1) && !(q.1 + 1 == i && q.2.category == 2))) = lv') (kk : V G X c lv' k n (pc + 1) st) : V G X c lv k n pc (.long x :: st) := fun H locs ls hP hS hl => lv_lstore_n h.x h.b d hi hl (by rw [h.n]; exact hn) hlv (fun ls' hl' => kk H locs ls' hP hS hl')
theorem r_lstore (h : Ok G X own cc nL rm) {i : Nat} {x : Int64} (lv' : LV) (d : decode cc pc = .ok (.lstore i, 2)) (hn : i + 1 < nL) (hlv : (i, Value.long x) :: lv.filter (fun q => !(q.1 == i) && (!(q.1 == i + 1) && !(q.1 + 1 == i && q.2.category == 2))) = lv') (kk : V G X c lv' k n (pc + 2) st) : V G X c lv k n pc (.long x :: st) := fun H locs ls hP hS hl => lv_lstore h.x h.b d hl (by rw [h.n]; exact hn) hlv (fun ls' hl' => kk H locs ls' hP hS hl')
theorem r_aload_n (h : Ok G X own cc nL rm) {kf : Fin 4} (q : Nat) {i : Nat} {x : Nat} (hi : (kf : Nat) = i) (hq : lv[q]? = some (i, .ref x)) (d : decode cc pc = .ok (.aload_n kf, 1)) (kk : V G X c lv k n (pc + 1) (.ref x :: st)) : V G X c lv k n pc (st) := fun H locs ls hP hS hl => lv_aload_n h.x h.b d hi (lv_at hl q hq) (kk H locs ls hP hS hl)
theorem r_aload (h : Ok G X own cc nL rm) (q : Nat) {i : Nat} {x : Nat} (hq : lv[q]? = some (i, .ref x)) (d : decode cc pc = .ok (.aload i, 2)) (kk : V G X c lv k n (pc + 2) (.ref x :: st)) : V G X c lv k n pc (st) := fun H locs ls hP hS hl => lv_aload h.x h.b d (lv_at hl q hq) (kk H locs ls hP hS hl)
theorem r_astore_n (h : Ok G X own cc nL rm) {i : Nat} {x : Nat} (lv' : LV) {kf : Fin 4} (hi : (kf : Nat) = i) (d : decode cc pc = .ok (.astore_n kf, 1)) (hn : i < nL) (hlv : (i, Value.ref x) :: lv.filter (fun q => !(q.1 == i) && !(q.1 + 1 == i && q.2.category == 2)) = lv') (kk : V G X c lv' k n (pc + 1) st) : V G X c lv k n pc (.ref x :: st) := fun H locs ls hP hS hl => lv_astore_n h.x h.b d hi hl (by rw [h.n]; exact hn) hlv (fun ls' hl' => kk H locs ls' hP hS hl')
theorem r_astore (h : Ok G X own cc nL rm) {i : Nat} {x : Nat} (lv' : LV) (d : decode cc pc = .ok (.astore i, 2)) (hn : i < nL) (hlv : (i, Value.ref x) :: lv.filter (fun q => !(q.1 == i) && !(q.1 + 1 == i && q.2.category == 2)) = lv') (kk : V G X c lv' k n (pc + 2) st) : V G X c lv k n pc (.ref x :: st) := fun H locs ls hP hS hl => lv_astore h.x h.b d hl (by rw [h.n]; exact hn) hlv (fun ls' hl' => kk H locs ls' hP hS hl')
theorem r_fload_n (h : Ok G X own cc nL rm) {kf : Fin 4} (q : Nat) {i : Nat} {x : UInt32} (hi : (kf : Nat) = i) (hq : lv[q]? = some (i, .float x)) (d : decode cc pc = .ok (.fload_n kf, 1)) (kk : V G X c lv k n (pc + 1) (.float x :: st)) : V G X c lv k n pc (st) := fun H locs ls hP hS hl => lv_fload_n h.x h.b d hi (lv_at hl q hq) (kk H locs ls hP hS hl)
theorem r_fload (h : Ok G X own cc nL rm) (q : Nat) {i : Nat} {x : UInt32} (hq : lv[q]? = some (i, .float x)) (d : decode cc pc = .ok (.fload i, 2)) (kk : V G X c lv k n (pc + 2) (.float x :: st)) : V G X c lv k n pc (st) := fun H locs ls hP hS hl => lv_fload h.x h.b d (lv_at hl q hq) (kk H locs ls hP hS hl)
theorem r_fstore_n (h : Ok G X own cc nL rm) {i : Nat} {x : UInt32} (lv' : LV) {kf : Fin 4} (hi : (kf : Nat) = i) (d : decode cc pc = .ok (.fstore_n kf, 1)) (hn : i < nL) (hlv : (i, Value.float x) :: lv.filter (fun q => !(q.1 == i) && !(q.1 + 1 == i && q.2.category == 2)) = lv') (kk : V G X c lv' k n (pc + 1) st) : V G X c lv k n pc (.float x :: st) := fun H locs ls hP hS hl => lv_fstore_n h.x h.b d hi hl (by rw [h.n]; exact hn) hlv (fun ls' hl' => kk H locs ls' hP hS hl')
theorem r_fstore (h : Ok G X own cc nL rm) {i : Nat} {x : UInt32} (lv' : LV) (d : decode cc pc = .ok (.fstore i, 2)) (hn : i < nL) (hlv : (i, Value.float x) :: lv.filter (fun q => !(q.1 == i) && !(q.1 + 1 == i && q.2.category == 2)) = lv') (kk : V G X c lv' k n (pc + 2) st) : V G X c lv k n pc (.float x :: st) := fun H locs ls hP hS hl => lv_fstore h.x h.b d hl (by rw [h.n]; exact hn) hlv (fun ls' hl' => kk H locs ls' hP hS hl')
theorem r_dload_n (h : Ok G X own cc nL rm) {kf : Fin 4} (q : Nat) {i : Nat} {x : UInt64} (hi : (kf : Nat) = i) (hq : lv[q]? = some (i, .double x)) (d : decode cc pc = .ok (.dload_n kf, 1)) (kk : V G X c lv k n (pc + 1) (.double x :: st)) : V G X c lv k n pc (st) := fun H locs ls hP hS hl => lv_dload_n h.x h.b d hi (lv_at hl q hq) (kk H locs ls hP hS hl)
theorem r_dload (h : Ok G X own cc nL rm) (q : Nat) {i : Nat} {x : UInt64} (hq : lv[q]? = some (i, .double x)) (d : decode cc pc = .ok (.dload i, 2)) (kk : V G X c lv k n (pc + 2) (.double x :: st)) : V G X c lv k n pc (st) := fun H locs ls hP hS hl => lv_dload h.x h.b d (lv_at hl q hq) (kk H locs ls hP hS hl)
theorem r_dstore_n (h : Ok G X own cc nL rm) {i : Nat} {x : UInt64} (lv' : LV) {kf : Fin 4} (hi : (kf : Nat) = i) (d : decode cc pc = .ok (.dstore_n kf, 1)) (hn : i + 1 < nL) (hlv : (i, Value.double x) :: lv.filter (fun q => !(q.1 == i) && (!(q.1 == i + 1) && !(q.1 + 1 == i && q.2.category == 2))) = lv') (kk : V G X c lv' k n (pc + 1) st) : V G X c lv k n pc (.double x :: st) := fun H locs ls hP hS hl => lv_dstore_n h.x h.b d hi hl (by rw [h.n]; exact hn) hlv (fun ls' hl' => kk H locs ls' hP hS hl')
theorem r_dstore (h : Ok G X own cc nL rm) {i : Nat} {x : UInt64} (lv' : LV) (d : decode cc pc = .ok (.dstore i, 2)) (hn : i + 1 < nL) (hlv : (i, Value.double x) :: lv.filter (fun q => !(q.1 == i) && (!(q.1 == i + 1) && !(q.1 + 1 == i && q.2.category == 2))) = lv') (kk : V G X c lv' k n (pc + 2) st) : V G X c lv k n pc (.double x :: st) := fun H locs ls hP hS hl => lv_dstore h.x h.b d hl (by rw [h.n]; exact hn) hlv (fun ls' hl' => kk H locs ls' hP hS hl')
theorem r_iinc (h : Ok G X own cc nL rm) {i : Nat} {z : Int} {x v : Int32} (q : Nat) (lv' : LV) (hq : lv[q]? = some (i, .int x)) (hv : x + Int32.ofInt z = v) (d : decode cc pc = .ok (.iinc i z, 3)) (hn : i < nL) (hlv : (i, Value.int v) :: lv.filter (fun q => !(q.1 == i) && !(q.1 + 1 == i && q.2.category == 2)) = lv') (kk : V G X c lv' k n (pc + 3) st) : V G X c lv k n pc st := fun H locs ls hP hS hl => lv_iinc h.x h.b d hl hq hv (by rw [h.n]; exact hn) hlv (fun ls' hl' => kk H locs ls' hP hS hl')
theorem r_dup (h : Ok G X own cc nL rm) {v : Value} (hv : v.category = 1) (d : decode cc pc = .ok (.dup, 1)) (kk : V G X c lv k n (pc + 1) (v :: v :: st)) : V G X c lv k n pc (v :: st) := fun H locs ls hP hS hl => lv_dup h.x h.b d hv (kk H locs ls hP hS hl)
theorem r_dup2 (h : Ok G X own cc nL rm) {v w : Value} (hv : v.category = 1) (hw : w.category = 1) (d : decode cc pc = .ok (.dup2, 1)) (kk : V G X c lv k n (pc + 1) (v :: w :: v :: w :: st)) : V G X c lv k n pc (v :: w :: st) := fun H locs ls hP hS hl => lv_dup2_11 h.x h.b d hv hw (kk H locs ls hP hS hl)
theorem r_pop (h : Ok G X own cc nL rm) {v : Value} (hv : v.category = 1) (d : decode cc pc = .ok (.pop, 1)) (kk : V G X c lv k n (pc + 1) (st)) : V G X c lv k n pc (v :: st) := fun H locs ls hP hS hl => lv_pop h.x h.b d hv (kk H locs ls hP hS hl)
theorem r_iadd (h : Ok G X own cc nL rm) {x y : Int32} {v : Int32} (hv : x + y = v) (d : decode cc pc = .ok (.iadd, 1)) (kk : V G X c lv k n (pc + 1) (.int v :: st)) : V G X c lv k n pc (.int y :: .int x :: st) := fun H locs ls hP hS hl => (fun z => lv_iadd h.x h.b d (hv ▸ z)) (kk H locs ls hP hS hl)
theorem r_isub (h : Ok G X own cc nL rm) {x y : Int32} {v : Int32} (hv : x - y = v) (d : decode cc pc = .ok (.isub, 1)) (kk : V G X c lv k n (pc + 1) (.int v :: st)) : V G X c lv k n pc (.int y :: .int x :: st) := fun H locs ls hP hS hl => (fun z => lv_isub h.x h.b d (hv ▸ z)) (kk H locs ls hP hS hl)
theorem r_imul (h : Ok G X own cc nL rm) {x y : Int32} {v : Int32} (hv : x * y = v) (d : decode cc pc = .ok (.imul, 1)) (kk : V G X c lv k n (pc + 1) (.int v :: st)) : V G X c lv k n pc (.int y :: .int x :: st) := fun H locs ls hP hS hl => (fun z => lv_imul h.x h.b d (hv ▸ z)) (kk H locs ls hP hS hl)
theorem r_iand (h : Ok G X own cc nL rm) {x y : Int32} {v : Int32} (hv : x &&& y = v) (d : decode cc pc = .ok (.iand, 1)) (kk : V G X c lv k n (pc + 1) (.int v :: st)) : V G X c lv k n pc (.int y :: .int x :: st) := fun H locs ls hP hS hl => (fun z => lv_iand h.x h.b d (hv ▸ z)) (kk H locs ls hP hS hl)
theorem r_ladd (h : Ok G X own cc nL rm) {x y : Int64} {v : Int64} (hv : x + y = v) (d : decode cc pc = .ok (.ladd, 1)) (kk : V G X c lv k n (pc + 1) (.long v :: st)) : V G X c lv k n pc (.long y :: .long x :: st) := fun H locs ls hP hS hl => (fun z => lv_ladd h.x h.b d (hv ▸ z)) (kk H locs ls hP hS hl)
theorem r_lsub (h : Ok G X own cc nL rm) {x y : Int64} {v : Int64} (hv : x - y = v) (d : decode cc pc = .ok (.lsub, 1)) (kk : V G X c lv k n (pc + 1) (.long v :: st)) : V G X c lv k n pc (.long y :: .long x :: st) := fun H locs ls hP hS hl => (fun z => lv_lsub h.x h.b d (hv ▸ z)) (kk H locs ls hP hS hl)
theorem r_lmul (h : Ok G X own cc nL rm) {x y : Int64} {v : Int64} (hv : x * y = v) (d : decode cc pc = .ok (.lmul, 1)) (kk : V G X c lv k n (pc + 1) (.long v :: st)) : V G X c lv k n pc (.long y :: .long x :: st) := fun H locs ls hP hS hl => (fun z => lv_lmul h.x h.b d (hv ▸ z)) (kk H locs ls hP hS hl)
theorem r_lxor (h : Ok G X own cc nL rm) {x y : Int64} {v : Int64} (hv : x ^^^ y = v) (d : decode cc pc = .ok (.lxor, 1)) (kk : V G X c lv k n (pc + 1) (.long v :: st)) : V G X c lv k n pc (.long y :: .long x :: st) := fun H locs ls hP hS hl => (fun z => lv_lxor h.x h.b d (hv ▸ z)) (kk H locs ls hP hS hl)
theorem r_land (h : Ok G X own cc nL rm) {x y : Int64} {v : Int64} (hv : x &&& y = v) (d : decode cc pc = .ok (.land, 1)) (kk : V G X c lv k n (pc + 1) (.long v :: st)) : V G X c lv k n pc (.long y :: .long x :: st) := fun H locs ls hP hS hl => (fun z => lv_land h.x h.b d (hv ▸ z)) (kk H locs ls hP hS hl)
theorem r_idiv (h : Ok G X own cc nL rm) {x y : Int32} (hy : ¬ y = 0) {v : Int32} (hv : x / y = v) (d : decode cc pc = .ok (.idiv, 1)) (kk : V G X c lv k n (pc + 1) (.int v :: st)) : V G X c lv k n pc (.int y :: .int x :: st) := fun H locs ls hP hS hl => (fun z => lv_idiv h.x h.b d hy (hv ▸ z)) (kk H locs ls hP hS hl)
theorem r_ldiv (h : Ok G X own cc nL rm) {x y : Int64} (hy : ¬ y = 0) {v : Int64} (hv : x / y = v) (d : decode cc pc = .ok (.ldiv, 1)) (kk : V G X c lv k n (pc + 1) (.long v :: st)) : V G X c lv k n pc (.long y :: .long x :: st) := fun H locs ls hP hS hl => (fun z => lv_ldiv h.x h.b d hy (hv ▸ z)) (kk H locs ls hP hS hl)
theorem r_lrem (h : Ok G X own cc nL rm) {x y : Int64} (hy : ¬ y = 0) {v : Int64} (hv : x - x / y * y = v) (d : decode cc pc = .ok (.lrem, 1)) (kk : V G X c lv k n (pc + 1) (.long v :: st)) : V G X c lv k n pc (.long y :: .long x :: st) := fun H locs ls hP hS hl => (fun z => lv_lrem h.x h.b d hy (hv ▸ z)) (kk H locs ls hP hS hl)
theorem r_lushr (h : Ok G X own cc nL rm) {x v : Int64} {y : Int32} (hv : (x.toUInt64 >>> (y.toInt64.toUInt64 &&& Int64.toUInt64 63)).toInt64 = v) (d : decode cc pc = .ok (.lushr, 1)) (kk : V G X c lv k n (pc + 1) (.long v :: st)) : V G X c lv k n pc (.int y :: .long x :: st) := fun H locs ls hP hS hl => lv_lushr h.x h.b d hv (kk H locs ls hP hS hl)
theorem r_i2l (h : Ok G X own cc nL rm) {x : Int32} {v : Int64} (hv : x.toInt64 = v) (d : decode cc pc = .ok (.i2l, 1)) (kk : V G X c lv k n (pc + 1) (.long v :: st)) : V G X c lv k n pc (.int x :: st) := fun H locs ls hP hS hl => lv_i2l h.x h.b d hv (kk H locs ls hP hS hl)
theorem r_i2f (h : Ok G X own cc nL rm) {x : Int32} (d : decode cc pc = .ok (.i2f, 1)) (kk : V G X c lv k n (pc + 1) (.float (FP.i2f x) :: st)) : V G X c lv k n pc (.int x :: st) := fun H locs ls hP hS hl => lv_i2f h.x h.b d (kk H locs ls hP hS hl)
theorem r_i2d (h : Ok G X own cc nL rm) {x : Int32} (d : decode cc pc = .ok (.i2d, 1)) (kk : V G X c lv k n (pc + 1) (.double (FP.i2d x) :: st)) : V G X c lv k n pc (.int x :: st) := fun H locs ls hP hS hl => lv_i2d h.x h.b d (kk H locs ls hP hS hl)
theorem r_l2d (h : Ok G X own cc nL rm) {x : Int64} (d : decode cc pc = .ok (.l2d, 1)) (kk : V G X c lv k n (pc + 1) (.double (FP.l2d x) :: st)) : V G X c lv k n pc (.long x :: st) := fun H locs ls hP hS hl => lv_l2d h.x h.b d (kk H locs ls hP hS hl)
theorem r_fdiv (h : Ok G X own cc nL rm) {x y : UInt32} (hne : vf_n32 (FP.fdiv x y)) (d : decode cc pc = .ok (.fdiv, 1)) (kk : V G X c lv k n (pc + 1) (.float (FP.fdiv x y) :: st)) : V G X c lv k n pc (.float y :: .float x :: st) := fun H locs ls hP hS hl => lv_fdiv h.x h.b d hne (kk H locs ls hP hS hl)
theorem r_ddiv (h : Ok G X own cc nL rm) {x y : UInt64} (hne : vf_n64 (FP.ddiv x y)) (d : decode cc pc = .ok (.ddiv, 1)) (kk : V G X c lv k n (pc + 1) (.double (FP.ddiv x y) :: st)) : V G X c lv k n pc (.double y :: .double x :: st) := fun H locs ls hP hS hl => lv_ddiv h.x h.b d hne (kk H locs ls hP hS hl)
theorem r_f2d (h : Ok G X own cc nL rm) {x : UInt32} (hne : vf_n64 (FP.f2d x)) (d : decode cc pc = .ok (.f2d, 1)) (kk : V G X c lv k n (pc + 1) (.double (FP.f2d x) :: st)) : V G X c lv k n pc (.float x :: st) := fun H locs ls hP hS hl => lv_f2d h.x h.b d hne (kk H locs ls hP hS hl)
theorem r_fcmp (h : Ok G X own cc nL rm) {x y : UInt32} {op : CmpOp} {v : Int32} (hv : Op.cmpValue (FP.fcmp x y) op = v) (d : decode cc pc = .ok (.fcmp op, 1)) (kk : V G X c lv k n (pc + 1) (.int v :: st)) : V G X c lv k n pc (.float y :: .float x :: st) := fun H locs ls hP hS hl => (fun z => lv_fcmp h.x h.b d (hv ▸ z)) (kk H locs ls hP hS hl)
theorem r_dcmp (h : Ok G X own cc nL rm) {x y : UInt64} {op : CmpOp} {v : Int32} (hv : Op.cmpValue (FP.dcmp x y) op = v) (d : decode cc pc = .ok (.dcmp op, 1)) (kk : V G X c lv k n (pc + 1) (.int v :: st)) : V G X c lv k n pc (.double y :: .double x :: st) := fun H locs ls hP hS hl => (fun z => lv_dcmp h.x h.b d (hv ▸ z)) (kk H locs ls hP hS hl)
theorem r_lcmp (h : Ok G X own cc nL rm) {x y : Int64} {v : Int32} (hv : lg_cmp x y = v) (d : decode cc pc = .ok (.lcmp, 1)) (kk : V G X c lv k n (pc + 1) (.int v :: st)) : V G X c lv k n pc (.long y :: .long x :: st) := fun H locs ls hP hS hl => (fun z => W.lcmp h.x h.b d (hv ▸ z)) (kk H locs ls hP hS hl)
theorem r_goto (h : Ok G X own cc nL rm) {off : Int} (tgt : Nat) (d : decode cc pc = .ok (.goto off, 3)) (ht : (pc : Int) + off = (tgt : Int)) (kk : V G X c lv k n tgt st) : V G X c lv k n pc st := fun H locs ls hP hS hl => lv_goto h.x h.b d ht (kk H locs ls hP hS hl)
theorem r_icmp_eq (h : Ok G X own cc nL rm) {x y : Int32} {off : Int} (tgt : Nat) (d : decode cc pc = .ok (.if_icmp .eq off, 3)) (ht : (pc : Int) + off = (tgt : Int)) (kt : x = y → V G X c lv k n tgt st) (kf : ¬ x = y → V G X c lv k n (pc + 3) st) : V G X c lv k n pc (.int y :: .int x :: st) := fun H locs ls hP hS hl => lv_icmp_eq h.x h.b d ht (fun z => kt z H locs ls hP hS hl) (fun z => kf z H locs ls hP hS hl)
theorem r_if_eq (h : Ok G X own cc nL rm) {x : Int32} {off : Int} (tgt : Nat) (d : decode cc pc = .ok (.ifCond .eq off, 3)) (ht : (pc : Int) + off = (tgt : Int)) (kt : x = 0 → V G X c lv k n tgt st) (kf : ¬ x = 0 → V G X c lv k n (pc + 3) st) : V G X c lv k n pc (.int x :: st) := fun H locs ls hP hS hl => lv_if_eq h.x h.b d ht (fun z => kt z H locs ls hP hS hl) (fun z => kf z H locs ls hP hS hl)
theorem r_icmp_ne (h : Ok G X own cc nL rm) {x y : Int32} {off : Int} (tgt : Nat) (d : decode cc pc = .ok (.if_icmp .ne off, 3)) (ht : (pc : Int) + off = (tgt : Int)) (kt : ¬ x = y → V G X c lv k n tgt st) (kf : x = y → V G X c lv k n (pc + 3) st) : V G X c lv k n pc (.int y :: .int x :: st) := fun H locs ls hP hS hl => lv_icmp_ne h.x h.b d ht (fun z => kt z H locs ls hP hS hl) (fun z => kf z H locs ls hP hS hl)
theorem r_if_ne (h : Ok G X own cc nL rm) {x : Int32} {off : Int} (tgt : Nat) (d : decode cc pc = .ok (.ifCond .ne off, 3)) (ht : (pc : Int) + off = (tgt : Int)) (kt : ¬ x = 0 → V G X c lv k n tgt st) (kf : x = 0 → V G X c lv k n (pc + 3) st) : V G X c lv k n pc (.int x :: st) := fun H locs ls hP hS hl => lv_if_ne h.x h.b d ht (fun z => kt z H locs ls hP hS hl) (fun z => kf z H locs ls hP hS hl)
theorem r_icmp_lt (h : Ok G X own cc nL rm) {x y : Int32} {off : Int} (tgt : Nat) (d : decode cc pc = .ok (.if_icmp .lt off, 3)) (ht : (pc : Int) + off = (tgt : Int)) (kt : x < y → V G X c lv k n tgt st) (kf : ¬ x < y → V G X c lv k n (pc + 3) st) : V G X c lv k n pc (.int y :: .int x :: st) := fun H locs ls hP hS hl => lv_icmp_lt h.x h.b d ht (fun z => kt z H locs ls hP hS hl) (fun z => kf z H locs ls hP hS hl)
theorem r_if_lt (h : Ok G X own cc nL rm) {x : Int32} {off : Int} (tgt : Nat) (d : decode cc pc = .ok (.ifCond .lt off, 3)) (ht : (pc : Int) + off = (tgt : Int)) (kt : x < 0 → V G X c lv k n tgt st) (kf : ¬ x < 0 → V G X c lv k n (pc + 3) st) : V G X c lv k n pc (.int x :: st) := fun H locs ls hP hS hl => lv_if_lt h.x h.b d ht (fun z => kt z H locs ls hP hS hl) (fun z => kf z H locs ls hP hS hl)
theorem r_icmp_le (h : Ok G X own cc nL rm) {x y : Int32} {off : Int} (tgt : Nat) (d : decode cc pc = .ok (.if_icmp .le off, 3)) (ht : (pc : Int) + off = (tgt : Int)) (kt : x ≤ y → V G X c lv k n tgt st) (kf : ¬ x ≤ y → V G X c lv k n (pc + 3) st) : V G X c lv k n pc (.int y :: .int x :: st) := fun H locs ls hP hS hl => lv_icmp_le h.x h.b d ht (fun z => kt z H locs ls hP hS hl) (fun z => kf z H locs ls hP hS hl)
theorem r_if_le (h : Ok G X own cc nL rm) {x : Int32} {off : Int} (tgt : Nat) (d : decode cc pc = .ok (.ifCond .le off, 3)) (ht : (pc : Int) + off = (tgt : Int)) (kt : x ≤ 0 → V G X c lv k n tgt st) (kf : ¬ x ≤ 0 → V G X c lv k n (pc + 3) st) : V G X c lv k n pc (.int x :: st) := fun H locs ls hP hS hl => lv_if_le h.x h.b d ht (fun z => kt z H locs ls hP hS hl) (fun z => kf z H locs ls hP hS hl)
theorem r_icmp_gt (h : Ok G X own cc nL rm) {x y : Int32} {off : Int} (tgt : Nat) (d : decode cc pc = .ok (.if_icmp .gt off, 3)) (ht : (pc : Int) + off = (tgt : Int)) (kt : y < x → V G X c lv k n tgt st) (kf : ¬ y < x → V G X c lv k n (pc + 3) st) : V G X c lv k n pc (.int y :: .int x :: st) := fun H locs ls hP hS hl => lv_icmp_gt h.x h.b d ht (fun z => kt z H locs ls hP hS hl) (fun z => kf z H locs ls hP hS hl)
theorem r_if_gt (h : Ok G X own cc nL rm) {x : Int32} {off : Int} (tgt : Nat) (d : decode cc pc = .ok (.ifCond .gt off, 3)) (ht : (pc : Int) + off = (tgt : Int)) (kt : 0 < x → V G X c lv k n tgt st) (kf : ¬ 0 < x → V G X c lv k n (pc + 3) st) : V G X c lv k n pc (.int x :: st) := fun H locs ls hP hS hl => lv_if_gt h.x h.b d ht (fun z => kt z H locs ls hP hS hl) (fun z => kf z H locs ls hP hS hl)
theorem r_icmp_ge (h : Ok G X own cc nL rm) {x y : Int32} {off : Int} (tgt : Nat) (d : decode cc pc = .ok (.if_icmp .ge off, 3)) (ht : (pc : Int) + off = (tgt : Int)) (kt : y ≤ x → V G X c lv k n tgt st) (kf : ¬ y ≤ x → V G X c lv k n (pc + 3) st) : V G X c lv k n pc (.int y :: .int x :: st) := fun H locs ls hP hS hl => lv_icmp_ge h.x h.b d ht (fun z => kt z H locs ls hP hS hl) (fun z => kf z H locs ls hP hS hl)
theorem r_if_ge (h : Ok G X own cc nL rm) {x : Int32} {off : Int} (tgt : Nat) (d : decode cc pc = .ok (.ifCond .ge off, 3)) (ht : (pc : Int) + off = (tgt : Int)) (kt : 0 ≤ x → V G X c lv k n tgt st) (kf : ¬ 0 ≤ x → V G X c lv k n (pc + 3) st) : V G X c lv k n pc (.int x :: st) := fun H locs ls hP hS hl => lv_if_ge h.x h.b d ht (fun z => kt z H locs ls hP hS hl) (fun z => kf z H locs ls hP hS hl)
theorem rn_icmp_eq (h : Ok G X own cc nL rm) {a b : Nat} (ha : a < 2147483648) (hb : b < 2147483648) {off : Int} (tgt : Nat) (d : decode cc pc = .ok (.if_icmp .eq off, 3)) (ht : (pc : Int) + off = (tgt : Int)) (kt : a = b → V G X c lv k n tgt st) (kf : ¬ a = b → V G X c lv k n (pc + 3) st) : V G X c lv k n pc (.int (nI b) :: .int (nI a) :: st) := r_icmp_eq h tgt d ht (fun z => kt ((nI_eq ha hb).mp z)) (fun z => kf (fun q => z ((nI_eq ha hb).mpr q)))
theorem rn_icmp_ne (h : Ok G X own cc nL rm) {a b : Nat} (ha : a < 2147483648) (hb : b < 2147483648) {off : Int} (tgt : Nat) (d : decode cc pc = .ok (.if_icmp .ne off, 3)) (ht : (pc : Int) + off = (tgt : Int)) (kt : ¬ a = b → V G X c lv k n tgt st) (kf : a = b → V G X c lv k n (pc + 3) st) : V G X c lv k n pc (.int (nI b) :: .int (nI a) :: st) := r_icmp_ne h tgt d ht (fun z => kt (fun q => z ((nI_eq ha hb).mpr q))) (fun z => kf ((nI_eq ha hb).mp z))
theorem rn_icmp_lt (h : Ok G X own cc nL rm) {a b : Nat} (ha : a < 2147483648) (hb : b < 2147483648) {off : Int} (tgt : Nat) (d : decode cc pc = .ok (.if_icmp .lt off, 3)) (ht : (pc : Int) + off = (tgt : Int)) (kt : a < b → V G X c lv k n tgt st) (kf : b ≤ a → V G X c lv k n (pc + 3) st) : V G X c lv k n pc (.int (nI b) :: .int (nI a) :: st) := r_icmp_lt h tgt d ht (fun z => kt ((nI_ltI ha hb).mp z)) (fun z => kf (Nat.le_of_not_lt (fun q => z ((nI_ltI ha hb).mpr q))))
theorem rn_icmp_le (h : Ok G X own cc nL rm) {a b : Nat} (ha : a < 2147483648) (hb : b < 2147483648) {off : Int} (tgt : Nat) (d : decode cc pc = .ok (.if_icmp .le off, 3)) (ht : (pc : Int) + off = (tgt : Int)) (kt : a ≤ b → V G X c lv k n tgt st) (kf : b < a → V G X c lv k n (pc + 3) st) : V G X c lv k n pc (.int (nI b) :: .int (nI a) :: st) := r_icmp_le h tgt d ht (fun z => kt ((nI_leI ha hb).mp z)) (fun z => kf (Nat.lt_of_not_le (fun q => z ((nI_leI ha hb).mpr q))))
theorem rn_icmp_gt (h : Ok G X own cc nL rm) {a b : Nat} (ha : a < 2147483648) (hb : b < 2147483648) {off : Int} (tgt : Nat) (d : decode cc pc = .ok (.if_icmp .gt off, 3)) (ht : (pc : Int) + off = (tgt : Int)) (kt : b < a → V G X c lv k n tgt st) (kf : a ≤ b → V G X c lv k n (pc + 3) st) : V G X c lv k n pc (.int (nI b) :: .int (nI a) :: st) := r_icmp_gt h tgt d ht (fun z => kt ((nI_ltI hb ha).mp z)) (fun z => kf (Nat.le_of_not_lt (fun q => z ((nI_ltI hb ha).mpr q))))
theorem rn_icmp_ge (h : Ok G X own cc nL rm) {a b : Nat} (ha : a < 2147483648) (hb : b < 2147483648) {off : Int} (tgt : Nat) (d : decode cc pc = .ok (.if_icmp .ge off, 3)) (ht : (pc : Int) + off = (tgt : Int)) (kt : b ≤ a → V G X c lv k n tgt st) (kf : a < b → V G X c lv k n (pc + 3) st) : V G X c lv k n pc (.int (nI b) :: .int (nI a) :: st) := r_icmp_ge h tgt d ht (fun z => kt ((nI_leI hb ha).mp z)) (fun z => kf (Nat.lt_of_not_le (fun q => z ((nI_leI hb ha).mpr q))))
theorem rn_if_lt (h : Ok G X own cc nL rm) {a : Nat} (ha : a < 2147483648) {off : Int} (tgt : Nat) (d : decode cc pc = .ok (.ifCond .lt off, 3)) (ht : (pc : Int) + off = (tgt : Int)) (kf : V G X c lv k n (pc + 3) st) : V G X c lv k n pc (.int (nI a) :: st) := r_if_lt h tgt d ht (fun z => absurd z (nI_pos ha)) (fun _ => kf)
theorem rn_if_ge (h : Ok G X own cc nL rm) {a : Nat} (ha : a < 2147483648) {off : Int} (tgt : Nat) (d : decode cc pc = .ok (.ifCond .ge off, 3)) (ht : (pc : Int) + off = (tgt : Int)) (kt : V G X c lv k n tgt st) : V G X c lv k n pc (.int (nI a) :: st) := r_if_ge h tgt d ht (fun _ => kt) (fun z => absurd (nI_pos' ha) z)
theorem nI_zero {a : Nat} (ha : a < 2147483648) : nI a = 0 ↔ a = 0 := by
  have := nI_eq (a := a) (b := 0) ha (by decide)
  rw [nI_0] at this
  exact this
theorem nI_le0 {a : Nat} (ha : a < 2147483648) : nI a ≤ 0 ↔ a = 0 := by
  have := nI_leI (a := a) (b := 0) ha (by decide)
  rw [nI_0] at this
  rw [this]
  omega
theorem rn_if_eq (h : Ok G X own cc nL rm) {a : Nat} (ha : a < 2147483648) {off : Int} (tgt : Nat) (d : decode cc pc = .ok (.ifCond .eq off, 3)) (ht : (pc : Int) + off = (tgt : Int)) (kt : a = 0 → V G X c lv k n tgt st) (kf : ¬ a = 0 → V G X c lv k n (pc + 3) st) : V G X c lv k n pc (.int (nI a) :: st) := r_if_eq h tgt d ht (fun z => kt ((nI_zero ha).mp z)) (fun z => kf (fun q => z ((nI_zero ha).mpr q)))
theorem rn_if_ne (h : Ok G X own cc nL rm) {a : Nat} (ha : a < 2147483648) {off : Int} (tgt : Nat) (d : decode cc pc = .ok (.ifCond .ne off, 3)) (ht : (pc : Int) + off = (tgt : Int)) (kt : ¬ a = 0 → V G X c lv k n tgt st) (kf : a = 0 → V G X c lv k n (pc + 3) st) : V G X c lv k n pc (.int (nI a) :: st) := r_if_ne h tgt d ht (fun z => kt (fun q => z ((nI_zero ha).mpr q))) (fun z => kf ((nI_zero ha).mp z))
theorem rn_if_le (h : Ok G X own cc nL rm) {a : Nat} (ha : a < 2147483648) {off : Int} (tgt : Nat) (d : decode cc pc = .ok (.ifCond .le off, 3)) (ht : (pc : Int) + off = (tgt : Int)) (kt : a = 0 → V G X c lv k n tgt st) (kf : ¬ a = 0 → V G X c lv k n (pc + 3) st) : V G X c lv k n pc (.int (nI a) :: st) := r_if_le h tgt d ht (fun z => kt ((nI_le0 ha).mp z)) (fun z => kf (fun q => z ((nI_le0 ha).mpr q)))
theorem rb_if_eq (h : Ok G X own cc nL rm) {p : Prop} [Decidable p] {off : Int} (tgt : Nat) (d : decode cc pc = .ok (.ifCond .eq off, 3)) (ht : (pc : Int) + off = (tgt : Int)) (kt : ¬ p → V G X c lv k n tgt st) (kf : p → V G X c lv k n (pc + 3) st) : V G X c lv k n pc (.int (if p then 1 else 0) :: st) := by
  by_cases hp : p
  · rw [if_pos hp]
    exact r_if_eq h tgt d ht (fun z => absurd z (by decide)) (fun _ => kf hp)
  · rw [if_neg hp]
    exact r_if_eq h tgt d ht (fun _ => kt hp) (fun z => absurd rfl z)
theorem rb_if_ne (h : Ok G X own cc nL rm) {p : Prop} [Decidable p] {off : Int} (tgt : Nat) (d : decode cc pc = .ok (.ifCond .ne off, 3)) (ht : (pc : Int) + off = (tgt : Int)) (kt : p → V G X c lv k n tgt st) (kf : ¬ p → V G X c lv k n (pc + 3) st) : V G X c lv k n pc (.int (if p then 1 else 0) :: st) := by
  by_cases hp : p
  · rw [if_pos hp]
    exact r_if_ne h tgt d ht (fun _ => kt hp) (fun z => absurd z (by decide))
  · rw [if_neg hp]
    exact r_if_ne h tgt d ht (fun z => absurd rfl z) (fun _ => kf hp)
theorem r_tableIn (h : Ok G X own cc nL rm) {dflt lo hi : Int} {offs : Array Int} {len : Nat} {x : Int32} {off : Int} (tgt : Nat) (d : decode cc pc = .ok (.tableswitch dflt lo hi offs, len)) (h1 : ¬ x.toInt < lo) (h2 : ¬ hi < x.toInt) (ho : offs[(x.toInt - lo).toNat]? = some off) (ht : (pc : Int) + off = (tgt : Int)) (kk : V G X c lv k n tgt st) : V G X c lv k n pc (.int x :: st) := fun H locs ls hP hS hl => lv_tableIn h.x h.b d h1 h2 ho ht (kk H locs ls hP hS hl)
theorem r_tableOut (h : Ok G X own cc nL rm) {dflt lo hi : Int} {offs : Array Int} {len : Nat} {x : Int32} (tgt : Nat) (d : decode cc pc = .ok (.tableswitch dflt lo hi offs, len)) (h1 : x.toInt < lo ∨ hi < x.toInt) (ht : (pc : Int) + dflt = (tgt : Int)) (kk : V G X c lv k n tgt st) : V G X c lv k n pc (.int x :: st) := fun H locs ls hP hS hl => lv_tableOut h.x h.b d h1 ht (kk H locs ls hP hS hl)
/-- a field: its link, its place -/
def FL (own : String) (ix : Nat) (C : String) (T : u_T) (N ci j : Nat) : Prop := vwCl[ci]? = some (C, T, N) ∧ j < N ∧ Cond.fieldLink own ix (T j).1 (T j).2.1 (T j).2.2.1 ∈ gws ∧ ∀ w ∈ u_ws C T N, w ∈ gws
def FN (own : String) (ix : Nat) (C : String) (T : u_T) (N ci j : Nat) (host : String) : Prop := vwCl[ci]? = some (C, T, N) ∧ j < N ∧ Cond.fieldLinkNest own ix (T j).1 (T j).2.1 (T j).2.2.1 host ∈ nwW ∧ ∀ w ∈ u_ws C T N, w ∈ gws
theorem r_getf (h : Ok G X own cc nL rm) {ix : Nat} {C : String} {T : u_T} {N ci j : Nat} (F : FL own ix C T N ci j) {i : Nat} (hi : i < 49) {fs : List Value} (hc : c i = .inr (ci, fs)) {v : Value} (hv : fs[j]? = some v) (d : decode cc pc = .ok (.getfield ix, 3)) (kk : V G X c lv k n (pc + 3) (v :: st)) : V G X c lv k n pc (.ref (G.1 i) :: st) := fun H locs ls hP hS hl => va_get h.x h.b h.w F.2.2.2 h.o h.k.1 hP i (by rw [wl_at hi, hc]) F.1 j F.2.1 (h.w _ F.2.2.1) (fun _ z => z) hv d (kk H locs ls hP hS hl)
theorem r_getN (h : Ok G X own cc nL rm) {ix : Nat} {C host : String} {T : u_T} {N ci j : Nat} (F : FN own ix C T N ci j host) {i : Nat} (hi : i < 49) {fs : List Value} (hc : c i = .inr (ci, fs)) {v : Value} (hv : fs[j]? = some v) (d : decode cc pc = .ok (.getfield ix, 3)) (kk : V G X c lv k n (pc + 3) (v :: st)) : V G X c lv k n pc (.ref (G.1 i) :: st) := fun H locs ls hP hS hl => va_getN h.x h.b h.w F.2.2.2 h.o h.k.1 hP i (by rw [wl_at hi, hc]) F.1 j F.2.1 (va_Nw.use rfl (h.k.2.1 _ F.2.2.1)) (fun _ z => z) hv d (kk H locs ls hP hS hl)
def FT (C : String) (T : u_T) (N : Nat) (tyf : Nat → FieldType) : Prop := (∀ k, k < N → parseFieldDescriptor (T k).2.2.1 = some (tyf k)) ∧ ∀ a, a < N → ∀ b, b < N → a ≠ b → (T a).2.1 ≠ (T b).2.1
theorem r_putf (h : Ok G X own cc nL rm) {ix : Nat} {C : String} {T : u_T} {N ci j : Nat} (F : FL own ix C T N ci j) {tyf : Nat → FieldType} (FF : FT C T N tyf) {i : Nat} (hi : i < 49) {fs : List Value} (hc : c i = .inr (ci, fs)) {v : Value} (fs' : List Value) (hfs : fs.set j v = fs') (hfin : (T j).2.2.2 = false) (hn : narrow (tyf j) v = v) (hfit : fits (tyf j) v = true) (hlt : j < fs.length) (d : decode cc pc = .ok (.putfield ix, 3)) (kk : ∀ c1 : CC, c1 i = .inr (ci, fs') → (∀ j : Nat, j ≠ i → c1 j = c j) → V G X c1 lv k n (pc + 3) st) : V G X c lv k n pc (v :: .ref (G.1 i) :: st) := by
  intro H locs ls hP hS hl
  refine va_put h.x h.b h.w F.2.2.2 tyf FF.1 FF.2 h.o h.k.1 hP (wl_D h.i) hS i (by rw [wl_at hi, hc]) F.1 j F.2.1 (h.w _ F.2.2.1) (fun _ z => z) hfin (FF.1 j F.2.1) hn hfit hlt d (fun H1 locs1 hP1 _ hS1 => ?_)
  rw [hfs, wl_set (c1 := va_up c i (.inr (ci, fs'))) hi (va_up_self c i _) (fun j hj => va_up_ne c _ hj)] at hP1
  exact kk _ (va_up_self c i _) (fun j hj => va_up_ne c _ hj) H1 locs1 ls hP1 hS1 hl
theorem r_putN (h : Ok G X own cc nL rm) {ix : Nat} {C host : String} {T : u_T} {N ci j : Nat} (F : FN own ix C T N ci j host) {tyf : Nat → FieldType} (FF : FT C T N tyf) {i : Nat} (hi : i < 49) {fs : List Value} (hc : c i = .inr (ci, fs)) {v : Value} (fs' : List Value) (hfs : fs.set j v = fs') (hfin : (T j).2.2.2 = false) (hn : narrow (tyf j) v = v) (hfit : fits (tyf j) v = true) (hlt : j < fs.length) (d : decode cc pc = .ok (.putfield ix, 3)) (kk : ∀ c1 : CC, c1 i = .inr (ci, fs') → (∀ j : Nat, j ≠ i → c1 j = c j) → V G X c1 lv k n (pc + 3) st) : V G X c lv k n pc (v :: .ref (G.1 i) :: st) := by
  intro H locs ls hP hS hl
  refine va_putN h.x h.b h.w F.2.2.2 tyf FF.1 FF.2 h.o h.k.1 hP (wl_D h.i) hS i (by rw [wl_at hi, hc]) F.1 j F.2.1 (va_Nw.use rfl (h.k.2.1 _ F.2.2.1)) (fun _ z => z) hfin (FF.1 j F.2.1) hn hfit hlt d (fun H1 locs1 hP1 _ hS1 => ?_)
  rw [hfs, wl_set (c1 := va_up c i (.inr (ci, fs'))) hi (va_up_self c i _) (fun j hj => va_up_ne c _ hj)] at hP1
  exact kk _ (va_up_self c i _) (fun j hj => va_up_ne c _ hj) H1 locs1 ls hP1 hS1 hl
theorem r_alen (h : Ok G X own cc nL rm) {i : Nat} (hi : i < 49) (t0 : Nat) {cA : ClassId} {x : vp_A} (hc : c i = .inl (cA, x)) {ty : FieldType} (ht : (gl_tys G)[t0]? = some (cA, ty)) (d : decode cc pc = .ok (.arraylength, 1)) (kk : V G X c lv k n (pc + 1) (.int (nI x.1) :: st)) : V G X c lv k n pc (.ref (G.1 i) :: st) := fun H locs ls hP hS hl => va_alen h.x h.b h.k.1 hP i t0 (by rw [wl_at hi, hc]) ht rfl d (kk H locs ls hP hS hl)
theorem r_iald (h : Ok G X own cc nL rm) {i : Nat} (hi : i < 49) {N : Nat} {f : Nat → Int32} (hc : c i = .inl (G.2.2.2 0, N, .inl f)) {x : Nat} (hx : x < N) (hN : N < 2147483648) (d : decode cc pc = .ok (.iaload, 1)) (kk : V G X c lv k n (pc + 1) (.int (f x) :: st)) : V G X c lv k n pc (.int (nI x) :: .ref (G.1 i) :: st) := fun H locs ls hP hS hl => va_iald h.x h.b h.k.1 hP i 0 (by rw [wl_at hi, hc]) rfl (vp_in_nI hx hN) d (by rw [nI_clamp (Nat.lt_trans hx hN)]; exact kk H locs ls hP hS hl)
theorem r_lald (h : Ok G X own cc nL rm) {i : Nat} (hi : i < 49) {N : Nat} {f : Nat → Int64} (hc : c i = .inl (G.2.2.2 1, N, .inr (.inl f))) {x : Nat} (hx : x < N) (hN : N < 2147483648) (d : decode cc pc = .ok (.laload, 1)) (kk : V G X c lv k n (pc + 1) (.long (f x) :: st)) : V G X c lv k n pc (.int (nI x) :: .ref (G.1 i) :: st) := fun H locs ls hP hS hl => va_lald h.x h.b h.k.1 hP i 1 (by rw [wl_at hi, hc]) rfl (vp_in_nI hx hN) d (by rw [nI_clamp (Nat.lt_trans hx hN)]; exact kk H locs ls hP hS hl)
theorem r_zald (h : Ok G X own cc nL rm) {i : Nat} (hi : i < 49) {N : Nat} {f : Nat → Int32} (hc : c i = .inl (G.2.2.2 2, N, .inl f)) {x : Nat} (hx : x < N) (hN : N < 2147483648) (d : decode cc pc = .ok (.baload, 1)) (kk : V G X c lv k n (pc + 1) (.int (f x) :: st)) : V G X c lv k n pc (.int (nI x) :: .ref (G.1 i) :: st) := fun H locs ls hP hS hl => va_zald h.x h.b h.k.1 hP i 2 (by rw [wl_at hi, hc]) rfl (vp_in_nI hx hN) d (by rw [nI_clamp (Nat.lt_trans hx hN)]; exact kk H locs ls hP hS hl)
theorem r_dald (h : Ok G X own cc nL rm) {i : Nat} (hi : i < 49) {N : Nat} {f : Nat → UInt64} (hc : c i = .inl (G.2.2.2 3, N, .inr (.inr (.inr (.inl f))))) {x : Nat} (hx : x < N) (hN : N < 2147483648) (d : decode cc pc = .ok (.daload, 1)) (kk : V G X c lv k n (pc + 1) (.double (f x) :: st)) : V G X c lv k n pc (.int (nI x) :: .ref (G.1 i) :: st) := fun H locs ls hP hS hl => va_dald h.x h.b h.k.1 hP i 3 (by rw [wl_at hi, hc]) rfl (vp_in_nI hx hN) d (by rw [nI_clamp (Nat.lt_trans hx hN)]; exact kk H locs ls hP hS hl)
theorem r_aald (h : Ok G X own cc nL rm) {i : Nat} (hi : i < 49) {N cy : Nat} {C : String} {f : Nat → Option Nat} {a : Nat} (hc : c i = .inl (G.2.2.2 cy, N, .inr (.inr (.inr (.inr f))))) (ht : (gl_tys G)[cy]? = some (G.2.2.2 cy, .object C)) {x : Nat} (hx : x < N) (hN : N < 2147483648) (hf : f x = some a) (d : decode cc pc = .ok (.aaload, 1)) (kk : V G X c lv k n (pc + 1) (.ref a :: st)) : V G X c lv k n pc (.int (nI x) :: .ref (G.1 i) :: st) := fun H locs ls hP hS hl => va_aldq h.x h.b h.k.1 hP i cy (by rw [wl_at hi, hc]) ht (vp_in_nI hx hN) d (by rw [nI_clamp (Nat.lt_trans hx hN), hf]; exact kk H locs ls hP hS hl)
theorem r_iast (h : Ok G X own cc nL rm) {i : Nat} (hi : i < 49) {N : Nat} {f : Nat → Int32} (hc : c i = .inl (G.2.2.2 0, N, .inl (f))) {x : Nat} {v : Int32} (hx : x < N) (hN : N < 2147483648) (d : decode cc pc = .ok (.iastore, 1)) (kk : ∀ c1 : CC, c1 i = .inl (G.2.2.2 0, N, .inl (upd f x v)) → (∀ j : Nat, j ≠ i → c1 j = c j) → V G X c1 lv k n (pc + 1) st) : V G X c lv k n pc (.int v :: .int (nI x) :: .ref (G.1 i) :: st) := by
  intro H locs ls hP hS hl
  refine va_iast h.x h.b h.k.1 hP (wl_D h.i) hS i 0 (by rw [wl_at hi, hc]) rfl (vp_in_nI hx hN) d (fun H1 locs1 hP1 _ hS1 => ?_)
  rw [nI_clamp (Nat.lt_trans hx hN), wl_set (c1 := va_up c i _) hi (va_up_self c i _) (fun j hj => va_up_ne c _ hj)] at hP1
  exact kk _ (va_up_self c i _) (fun j hj => va_up_ne c _ hj) H1 locs1 ls hP1 hS1 hl
theorem r_last (h : Ok G X own cc nL rm) {i : Nat} (hi : i < 49) {N : Nat} {f : Nat → Int64} (hc : c i = .inl (G.2.2.2 1, N, .inr (.inl (f)))) {x : Nat} {v : Int64} (hx : x < N) (hN : N < 2147483648) (d : decode cc pc = .ok (.lastore, 1)) (kk : ∀ c1 : CC, c1 i = .inl (G.2.2.2 1, N, .inr (.inl (vp_updL f x v))) → (∀ j : Nat, j ≠ i → c1 j = c j) → V G X c1 lv k n (pc + 1) st) : V G X c lv k n pc (.long v :: .int (nI x) :: .ref (G.1 i) :: st) := by
  intro H locs ls hP hS hl
  refine va_last h.x h.b h.k.1 hP (wl_D h.i) hS i 1 (by rw [wl_at hi, hc]) rfl (vp_in_nI hx hN) d (fun H1 locs1 hP1 _ hS1 => ?_)
  rw [nI_clamp (Nat.lt_trans hx hN), wl_set (c1 := va_up c i _) hi (va_up_self c i _) (fun j hj => va_up_ne c _ hj)] at hP1
  exact kk _ (va_up_self c i _) (fun j hj => va_up_ne c _ hj) H1 locs1 ls hP1 hS1 hl
theorem r_zast (h : Ok G X own cc nL rm) {i : Nat} (hi : i < 49) {N : Nat} {f : Nat → Int32} (hc : c i = .inl (G.2.2.2 2, N, .inl (f))) {x : Nat} {v : Int32} (hx : x < N) (hN : N < 2147483648) (d : decode cc pc = .ok (.bastore, 1)) (kk : ∀ c1 : CC, c1 i = .inl (G.2.2.2 2, N, .inl (upd f x (vp_nar .boolean v))) → (∀ j : Nat, j ≠ i → c1 j = c j) → V G X c1 lv k n (pc + 1) st) : V G X c lv k n pc (.int v :: .int (nI x) :: .ref (G.1 i) :: st) := by
  intro H locs ls hP hS hl
  refine va_zast h.x h.b h.k.1 hP (wl_D h.i) hS i 2 (by rw [wl_at hi, hc]) rfl (vp_in_nI hx hN) d (fun H1 locs1 hP1 _ hS1 => ?_)
  rw [nI_clamp (Nat.lt_trans hx hN), wl_set (c1 := va_up c i _) hi (va_up_self c i _) (fun j hj => va_up_ne c _ hj)] at hP1
  exact kk _ (va_up_self c i _) (fun j hj => va_up_ne c _ hj) H1 locs1 ls hP1 hS1 hl
theorem r_dast (h : Ok G X own cc nL rm) {i : Nat} (hi : i < 49) {N : Nat} {f : Nat → UInt64} (hc : c i = .inl (G.2.2.2 3, N, .inr (.inr (.inr (.inl (f)))))) {x : Nat} {v : UInt64} (hx : x < N) (hN : N < 2147483648) (d : decode cc pc = .ok (.dastore, 1)) (kk : ∀ c1 : CC, c1 i = .inl (G.2.2.2 3, N, .inr (.inr (.inr (.inl (vf_upd f x v))))) → (∀ j : Nat, j ≠ i → c1 j = c j) → V G X c1 lv k n (pc + 1) st) : V G X c lv k n pc (.double v :: .int (nI x) :: .ref (G.1 i) :: st) := by
  intro H locs ls hP hS hl
  refine va_dast h.x h.b h.k.1 hP (wl_D h.i) hS i 3 (by rw [wl_at hi, hc]) rfl (vp_in_nI hx hN) d (fun H1 locs1 hP1 _ hS1 => ?_)
  rw [nI_clamp (Nat.lt_trans hx hN), wl_set (c1 := va_up c i _) hi (va_up_self c i _) (fun j hj => va_up_ne c _ hj)] at hP1
  exact kk _ (va_up_self c i _) (fun j hj => va_up_ne c _ hj) H1 locs1 ls hP1 hS1 hl
end ROWS
section ENDS
variable {G : GG} {X : CX} {own : String} {cc : ByteArray} {nL : Nat} {rm : Room} {c c0 : CC} {lv : LV} {k n pc : Nat} {st : List Value} {post : Option Value → CC → Prop} {px : String → Prop}
theorem r_iret (h : Ok G X own cc nL rm) (hQ : OkQ G X post px c0 rm) (hr : (xh X).sig.returnType = some .int) {v : Int32} (d : decode cc pc = .ok (.ireturn, 1)) (hk : k ≤ rm.cells ∧ n ≤ rm.slots) (hp : post (some (.int v)) c) : V G X c lv k n pc [.int v] := by
  intro H locs ls hP hS hl
  rw [show xQ X = _ from hQ]
  refine vx_ret ?_
  refine W.widen hk.1 hk.2 ?_
  exact W.iret h.x h.b hr (fun t ht hW => ⟨⟨_, c, rfl, hp, by rw [ht]; exact hP⟩, hS.F ht⟩) hS.2.2 d h.l
theorem r_zret (h : Ok G X own cc nL rm) (hQ : OkQ G X post px c0 rm) (hr : (xh X).sig.returnType = some .boolean) {v : Int32} (hv : narrow .boolean (.int v) = .int v) (d : decode cc pc = .ok (.ireturn, 1)) (hk : k ≤ rm.cells ∧ n ≤ rm.slots) (hp : post (some (.int v)) c) : V G X c lv k n pc [.int v] := by
  intro H locs ls hP hS hl
  rw [show xQ X = _ from hQ]
  refine vx_ret ?_
  refine W.widen hk.1 hk.2 ?_
  exact W.zret h.x h.b hr hv (fun t ht hW => ⟨⟨_, c, rfl, hp, by rw [ht]; exact hP⟩, hS.F ht⟩) hS.2.2 d h.l
theorem r_lret (h : Ok G X own cc nL rm) (hQ : OkQ G X post px c0 rm) (hr : (xh X).sig.returnType = some .long) {v : Int64} (d : decode cc pc = .ok (.lreturn, 1)) (hk : k ≤ rm.cells ∧ n ≤ rm.slots) (hp : post (some (.long v)) c) : V G X c lv k n pc [.long v] := by
  intro H locs ls hP hS hl
  rw [show xQ X = _ from hQ]
  refine vx_ret ?_
  refine W.widen hk.1 hk.2 ?_
  exact W.lret h.x h.b hr (fun t ht hW => ⟨⟨_, c, rfl, hp, by rw [ht]; exact hP⟩, hS.F ht⟩) hS.2.2 d h.l
theorem r_fret (h : Ok G X own cc nL rm) (hQ : OkQ G X post px c0 rm) (hr : (xh X).sig.returnType = some .float) {v : UInt32} (d : decode cc pc = .ok (.freturn, 1)) (hk : k ≤ rm.cells ∧ n ≤ rm.slots) (hp : post (some (.float v)) c) : V G X c lv k n pc [.float v] := by
  intro H locs ls hP hS hl
  rw [show xQ X = _ from hQ]
  refine vx_ret ?_
  refine W.widen hk.1 hk.2 ?_
  exact W.fret h.x h.b hr (fun t ht hW => ⟨⟨_, c, rfl, hp, by rw [ht]; exact hP⟩, hS.F ht⟩) hS.2.2 d h.l
theorem r_dret (h : Ok G X own cc nL rm) (hQ : OkQ G X post px c0 rm) (hr : (xh X).sig.returnType = some .double) {v : UInt64} (d : decode cc pc = .ok (.dreturn, 1)) (hk : k ≤ rm.cells ∧ n ≤ rm.slots) (hp : post (some (.double v)) c) : V G X c lv k n pc [.double v] := by
  intro H locs ls hP hS hl
  rw [show xQ X = _ from hQ]
  refine vx_ret ?_
  refine W.widen hk.1 hk.2 ?_
  exact W.dret h.x h.b hr (fun t ht hW => ⟨⟨_, c, rfl, hp, by rw [ht]; exact hP⟩, hS.F ht⟩) hS.2.2 d h.l
theorem r_vret (h : Ok G X own cc nL rm) (hQ : OkQ G X post px c0 rm) (hr : (xh X).sig.returnType = none) (d : decode cc pc = .ok (.return_, 1)) (hk : k ≤ rm.cells ∧ n ≤ rm.slots) (hp : post none c) : V G X c lv k n pc [] := by
  intro H locs ls hP hS hl
  rw [show xQ X = _ from hQ]
  refine vx_ret ?_
  refine W.widen hk.1 hk.2 ?_
  exact W.vret h.x h.b hr (fun t ht hW => ⟨⟨_, c, rfl, hp, by rw [ht]; exact hP⟩, hS.F ht⟩) hS.2.2 d h.l
theorem r_aret {C : String} (h : Ok G X own cc nL rm) (hQ : OkQ G X post px c0 rm) (hr : (xh X).sig.returnType = some (.object C)) {v : Nat} (d : decode cc pc = .ok (.areturn, 1)) (hk : k ≤ rm.cells ∧ n ≤ rm.slots) (hp : post (some (.ref v)) c) : V G X c lv k n pc [.ref v] := by
  intro H locs ls hP hS hl
  rw [show xQ X = _ from hQ]
  refine vx_ret ?_
  refine W.widen hk.1 hk.2 ?_
  exact W.aret h.x h.b hr (Or.inl ⟨_, rfl⟩) (Or.inr ⟨_, rfl⟩) (fun t ht hW => ⟨⟨_, c, rfl, hp, by rw [ht]; exact hP⟩, hS.F ht⟩) hS.2.2 d h.l
theorem VX.out {E : String} {rest : List Value} (h : Ok G X own cc nL rm) (hN : NoT X) (hQ : OkQ G X post px c rm) (hk : k ≤ rm.cells ∧ n ≤ rm.slots) (hp : px E) : VX G X c lv k n pc rest E := by
  intro H locs ls q ce hP hS hl hce hcv hcl
  rw [show xQ X = _ from hQ]
  exact vx_out (fun x hx => (hN x hx).elim) h.l hce hcv hcl (fun t ht hW => ⟨hp, by rw [ht]; exact hP, hS.F ht⟩) hS.2.2 hk.1 hk.2
/-- caught by the row x of the table -/
theorem VX.catch {E name : String} {rest : List Value} {pre suf : List ExceptionTableEntry} {x : ExceptionTableEntry} (h : Ok G X own cc nL rm) (hsplit : (xc X).exceptionTable.toList = pre ++ x :: suf) (hpass : ∀ z ∈ pre, covers z pc = false ∨ (z.catchType ≠ 0 ∧ ∃ nm : String, Cond.classLink own z.catchType nm ∈ gws ∧ (E, nm) ∈ ncW)) (hx : covers x pc = true) (h0 : x.catchType ≠ 0) (hlink : Cond.classLink own x.catchType name ∈ gws) (hcast : Cond.castable E name ∈ nwW)
    (kk : ∀ q : Nat, V G X c lv k n x.handlerPc [.ref q]) : VX G X c lv k n pc rest E := by
  intro H locs ls q ce hP hS hl hce hcv hcl
  exact vx_catch h.o pre x suf hsplit (fun z hz => (hpass z hz).imp id (fun w => ⟨w.1, w.2.choose, h.w _ w.2.choose_spec.1, h.k.2.2.1 _ w.2.choose_spec.2⟩)) hx h0 (h.w _ hlink) (va_Nw.use rfl (h.k.2.1 _ hcast)) hce hcv hcl (kk q H locs ls hP hS hl)
/-- a call, from its run -/
theorem r_run {mc ms : Nat} {st0 rest : List Value} {av : Array Value} {post1 : Option Value → CC → Prop} {px1 : String → Prop}
    (hrun : ∀ (H : Heap) (locs : List Loc) (ls : Array Slot), Sy G c H → va_S (gA G (xs X).heap.size) (xs X).heap H locs → lv_has ls (xc X).maxLocals lv → vx_Run (xp X) (xl X) (xe X) (xR X) (xs X) (xm X) (xa X) (xb X) (xh X) (xc X) H locs k n mc ms (F0 (xm X) pc ls st0) rest (QcG G post1 H.size av) (XcG G px1 c H.size) (gA G H.size))
    (kx : ∀ E : String, px1 E → VX G X c lv (k + mc) (n + ms) pc rest E) (kk : ∀ (v : Option Value) (c1 : CC), post1 v c1 → V G X c1 lv (k + mc) (n + ms) (pc + 3) (v.toList ++ rest)) : V G X c lv k n pc st0 := by
  intro H locs ls hP hS hl T hT Y
  have hA : ∀ q, gA G H.size q → gA G (xs X).heap.size q := gA_mono hS.1
  rcases hrun H locs ls hP hS hl T hT Y with ⟨v, st₀, t, T', L, h0, Y', hL, e1, e2, ⟨⟨v', c1, hv, hp, hb⟩, hF⟩, sp⟩ | ⟨q, st₀, t, T', L, E, ce, h0, Y', hL, e1, e2, ⟨hpx, hSy, hF⟩, hce, hcv, hcl, sp⟩
  · cases hv
    obtain ⟨-, -, k3⟩ := vx_keep h0 e1 hS (fun q _ => hA q) (fun q => hA q) hL hF
    obtain ⟨t2, a1, b1⟩ := kk v c1 hp T'.heap (locs ++ L) ls (by rw [e1]; exact hb) k3 hl T' rfl Y'
    exact ⟨t2, sp t2 a1, b1⟩
  · obtain ⟨-, -, k3⟩ := vx_keep h0 e1 hS (fun q _ => hA q) (fun q => hA q) hL hF
    obtain ⟨t2, a1, b1⟩ := kx E hpx T'.heap (locs ++ L) ls q ce (by rw [e1]; exact hSy) k3 hl (by rw [e1]; exact hce) hcv hcl T' rfl Y'
    exact ⟨t2, sp.trans a1, b1⟩
theorem blindG {G : GG} {sz : Nat} {c : CC} {av : List Value} : FrameBlind (va_Pc av (PreG G sz c)) := fun a U g mk q => ⟨q.1, q.2.1, q.2.2.1, WdK.warm (U := U.calling g mk a) (State.WarmedH.refl U) q.2.2.2.1, WdZ.moved (U := U.calling g mk a) (Vm.Alike.refl U.vm) q.2.2.2.2⟩
theorem Ok.pre {H : Heap} {locs : List Loc} {av : List Value} (h : Ok G X own cc nL rm) (hP : Sy G c H) (hS : va_S (gA G (xs X).heap.size) (xs X).heap H locs) : ∀ U : State, U.heap = H → (xs X).WarmedH U.vm → va_Pc av (PreG G H.size c) av.toArray U := fun U hU hW => ⟨rfl, by rw [hU], by rw [hU]; exact hP, WdK.warm hW h.k, by rw [hU]; exact ((h.z.kept hS.2.1).moved hW.alike).narrow hS.1⟩
/-- what a call needs of the tables -/
def Lk (own : String) (ix : Nat) (y : MethodName) (bytes : ByteArray) (maxL : Nat) (ret : Option FieldType) (nn : Nat) : Prop := Cond.methodLink own ix y ∈ gws ∧ Cond.initialized y.cls ∈ gws ∧ Cond.code y bytes maxL ret ∈ gws ∧ (y.cls ≠ "java/lang/invoke/MethodHandle" ∧ y.cls ≠ "java/lang/invoke/VarHandle" ∧ (parseMethodDescriptor y.desc).map (fun d => d.parameters.length) = some nn)
def LkV (own : String) (ix : Nat) (y : MethodName) (bytes : ByteArray) (maxL : Nat) (ret : Option FieldType) (nn : Nat) : Prop := Lk own ix y bytes maxL ret nn ∧ Cond.instanceMethod y ∈ gws ∧ Cond.selects y.cls y y ∈ gws
def LkS (own : String) (ix : Nat) (y : MethodName) (bytes : ByteArray) (maxL : Nat) (ret : Option FieldType) (nn : Nat) : Prop := Lk own ix y bytes maxL ret nn ∧ Cond.static y ∈ gws
def LkN (own : String) (ix : Nat) (y : MethodName) (host : String) (bytes : ByteArray) (maxL : Nat) (ret : Option FieldType) (nn : Nat) : Prop := Cond.methodLinkNest own ix y host ∈ nwW ∧ Cond.initialized y.cls ∈ gws ∧ Cond.code y bytes maxL ret ∈ gws ∧ (y.cls ≠ "java/lang/invoke/MethodHandle" ∧ y.cls ≠ "java/lang/invoke/VarHandle" ∧ (parseMethodDescriptor y.desc).map (fun d => d.parameters.length) = some nn) ∧ Cond.static y ∈ gws
def LkW (own : String) (ix : Nat) (y : MethodName) (bytes : ByteArray) (maxL : Nat) (ret : Option FieldType) (hh : List (Nat × Nat × Nat × Nat)) (nn : Nat) : Prop := Cond.methodLink own ix y ∈ gws ∧ Cond.initialized y.cls ∈ gws ∧ Cond.codeWith y bytes maxL ret hh ∈ gws ∧ (y.cls ≠ "java/lang/invoke/MethodHandle" ∧ y.cls ≠ "java/lang/invoke/VarHandle" ∧ (parseMethodDescriptor y.desc).map (fun d => d.parameters.length) = some nn) ∧ Cond.static y ∈ gws
theorem arity_of {y : MethodName} {nn : Nat} (h : (parseMethodDescriptor y.desc).map (fun d => d.parameters.length) = some nn) : ∀ sig, parseMethodDescriptor y.desc = some sig → nn = sig.parameters.length := fun sig hs => by
  rw [hs] at h
  exact (Option.some.inj h).symm
theorem Ok.pay (h : Ok G X own cc nL rm) {w0 : Cond} (hw0 : w0 ∈ gws) : ∀ w ∈ w0 :: gws, ∀ (a' : Array Value) (U : State), (xs X).WarmedH U.vm → w.before a' U = true := fun w hw a' U hW => by
  have hg : w ∈ gws := (List.mem_cons.mp hw).elim (fun e => e ▸ hw0) id
  exact word_at hW (gws_good w hg) (h.w w hg)
/-- the room that a call takes of its caller's -/
def RmC (rmY rm : Room) (maxL k n : Nat) : Prop := rmY.frames + 1 ≤ rm.frames ∧ 8 + (maxL + 11) + rmY.locals ≤ rm.locals ∧ k + rmY.cells ≤ rm.cells ∧ n + rmY.slots ≤ rm.slots
theorem Ok.cb (h : Ok G X own cc nL rm) {ix : Nat} {y : MethodName} {bytes : ByteArray} {maxL : Nat} {ret : Option FieldType} {nn : Nat} {rmY : Room} (L : Lk own ix y bytes maxL ret nn) (hR : RmC rmY rm maxL k n) : CallB (xR X) (xs X) (xa X) own ix y bytes maxL ret (.code y bytes maxL ret :: gws) rmY rmY.cells rmY.slots nn :=
  ⟨rfl, rfl, by rw [h.r]; exact hR.1, by rw [h.r]; exact hR.2.1, h.pay L.2.2.1, List.mem_cons_self, h.w _ L.2.2.1, h.w _ L.2.1, ⟨L.2.2.2.1, L.2.2.2.2.1⟩, arity_of L.2.2.2.2.2, h.w _ L.1⟩
theorem r_cV (h : Ok G X own cc nL rm) {ix : Nat} {y : MethodName} {bytes : ByteArray} {maxL : Nat} {ret : Option FieldType} {nn : Nat} {rmY : Room} (L : LkV own ix y bytes maxL ret nn) {i ci : Nat} {T : u_T} {N : Nat} {fs As st0 rest : List Value} {post1 : Option Value → CC → Prop} {px1 : String → Prop} (hM : MC G (xl X) y (.code y bytes maxL ret :: gws) rmY (.ref (G.1 i) :: As) c post1 px1) (hi : i < 49) (hc : c i = .inr (ci, fs)) (hcl : vwCl[ci]? = some (y.cls, T, N)) (hn : As.length = nn) (hst : st0 = As.reverse ++ .ref (G.1 i) :: rest) (hW : (rest.map fun v => v.category).sum ≤ 8) (hR : RmC rmY rm maxL k n) (d : decode cc pc = .ok (.invokevirtual ix, 3))
    (kx : ∀ E : String, px1 E → VX G X c lv (k + rmY.cells) (n + rmY.slots) pc rest E) (kk : ∀ (v : Option Value) (c1 : CC), post1 v c1 → V G X c1 lv (k + rmY.cells) (n + rmY.slots) (pc + 3) (v.toList ++ rest)) : V G X c lv k n pc st0 :=
  r_run (fun H locs ls hP hS hl => vx_runV (n := nn) (As := As) ⟨h.x, h.b, rfl, h.o, h.w⟩ (hM H.size) ⟨h.cb L.1 hR, h.w _ L.2.1, h.w _ L.2.2⟩ ⟨blindG, va_recv h.k.1 hP hcl (by rw [wl_at hi, hc]), h.pre hP hS⟩ rfl hn hl.1 hst (lv_room hW) d ⟨by rw [h.r]; exact hR.2.2.1, by rw [h.r]; exact hR.2.2.2⟩) kx kk
theorem r_cS (h : Ok G X own cc nL rm) {ix : Nat} {y : MethodName} {bytes : ByteArray} {maxL : Nat} {ret : Option FieldType} {nn : Nat} {rmY : Room} (L : LkS own ix y bytes maxL ret nn) {As st0 rest : List Value} {post1 : Option Value → CC → Prop} {px1 : String → Prop} (hM : MC G (xl X) y (.code y bytes maxL ret :: gws) rmY As c post1 px1) (hn : As.length = nn) (hst : st0 = As.reverse ++ rest) (hW : (rest.map fun v => v.category).sum ≤ 8) (hR : RmC rmY rm maxL k n) (d : decode cc pc = .ok (.invokestatic ix, 3))
    (kx : ∀ E : String, px1 E → VX G X c lv (k + rmY.cells) (n + rmY.slots) pc rest E) (kk : ∀ (v : Option Value) (c1 : CC), post1 v c1 → V G X c1 lv (k + rmY.cells) (n + rmY.slots) (pc + 3) (v.toList ++ rest)) : V G X c lv k n pc st0 :=
  r_run (fun H locs ls hP hS hl => vx_runS (n := nn) (As := As) ⟨h.x, h.b, rfl, h.o, h.w⟩ (hM H.size) ⟨h.cb L.1 hR, h.w _ L.2⟩ ⟨blindG, h.pre hP hS⟩ rfl hn hl.1 hst (lv_room hW) d ⟨by rw [h.r]; exact hR.2.2.1, by rw [h.r]; exact hR.2.2.2⟩) kx kk
theorem r_cN (h : Ok G X own cc nL rm) {ix : Nat} {y : MethodName} {host : String} {bytes : ByteArray} {maxL : Nat} {ret : Option FieldType} {nn : Nat} {rmY : Room} (L : LkN own ix y host bytes maxL ret nn) {As st0 rest : List Value} {post1 : Option Value → CC → Prop} {px1 : String → Prop} (hM : MC G (xl X) y (.code y bytes maxL ret :: gws) rmY As c post1 px1) (hn : As.length = nn) (hst : st0 = As.reverse ++ rest) (hW : (rest.map fun v => v.category).sum ≤ 8) (hR : RmC rmY rm maxL k n) (d : decode cc pc = .ok (.invokestatic ix, 3))
    (kx : ∀ E : String, px1 E → VX G X c lv (k + rmY.cells) (n + rmY.slots) pc rest E) (kk : ∀ (v : Option Value) (c1 : CC), post1 v c1 → V G X c1 lv (k + rmY.cells) (n + rmY.slots) (pc + 3) (v.toList ++ rest)) : V G X c lv k n pc st0 :=
  r_run (fun H locs ls hP hS hl => vx_runSN (n := nn) (As := As) ⟨h.x, h.b, rfl, h.o, h.w⟩ (hM H.size) ⟨⟨⟨rfl, rfl, by rw [h.r]; exact hR.1, by rw [h.r]; exact hR.2.1, h.pay L.2.2.1, List.mem_cons_self⟩, h.w _ L.2.2.1, h.w _ L.2.1, ⟨L.2.2.2.1.1, L.2.2.2.1.2.1⟩, arity_of L.2.2.2.1.2.2, va_Nw.use rfl (h.k.2.1 _ L.1)⟩, h.w _ L.2.2.2.2, trivial⟩ ⟨blindG, h.pre hP hS⟩ rfl hn hl.1 hst (lv_room hW) d ⟨by rw [h.r]; exact hR.2.2.1, by rw [h.r]; exact hR.2.2.2⟩) kx kk
theorem r_cW (h : Ok G X own cc nL rm) {ix : Nat} {y : MethodName} {bytes : ByteArray} {maxL : Nat} {ret : Option FieldType} {hh : List (Nat × Nat × Nat × Nat)} {nn : Nat} {rmY : Room} (L : LkW own ix y bytes maxL ret hh nn) {As st0 rest : List Value} {post1 : Option Value → CC → Prop} {px1 : String → Prop} (hM : MC G (xl X) y (.codeWith y bytes maxL ret hh :: gws) rmY As c post1 px1) (hn : As.length = nn) (hst : st0 = As.reverse ++ rest) (hW : (rest.map fun v => v.category).sum ≤ 8) (hR : RmC rmY rm maxL k n) (d : decode cc pc = .ok (.invokestatic ix, 3))
    (kx : ∀ E : String, px1 E → VX G X c lv (k + rmY.cells) (n + rmY.slots) pc rest E) (kk : ∀ (v : Option Value) (c1 : CC), post1 v c1 → V G X c1 lv (k + rmY.cells) (n + rmY.slots) (pc + 3) (v.toList ++ rest)) : V G X c lv k n pc st0 :=
  r_run (fun H locs ls hP hS hl => vx_runSX (n := nn) (As := As) ⟨h.x, h.b, rfl, h.o, h.w⟩ (hM H.size) ⟨⟨rfl, rfl, by rw [h.r]; exact hR.1, by rw [h.r]; exact hR.2.1, h.pay L.2.2.1, List.mem_cons_self⟩, h.w _ L.2.2.1, h.w _ L.2.1, ⟨L.2.2.2.1.1, L.2.2.2.1.2.1⟩, arity_of L.2.2.2.1.2.2, h.w _ L.1, h.w _ L.2.2.2.2⟩ ⟨blindG, h.pre hP hS⟩ rfl hn hl.1 hst (lv_room hW) d ⟨by rw [h.r]; exact hR.2.2.1, by rw [h.r]; exact hR.2.2.2⟩) kx kk
def LkI (own : String) (ix : Nat) (y : MethodName) (bytes : ByteArray) (maxL : Nat) (nn : Nat) : Prop := Lk own ix y bytes maxL none nn ∧ Cond.instanceMethod y ∈ gws
def LkJ (own : String) (ix : Nat) (y : MethodName) (host : String) (bytes : ByteArray) (maxL : Nat) (nn : Nat) : Prop := Cond.methodLinkNest own ix y host ∈ nwW ∧ Cond.initialized y.cls ∈ gws ∧ Cond.code y bytes maxL none ∈ gws ∧ (y.cls ≠ "java/lang/invoke/MethodHandle" ∧ y.cls ≠ "java/lang/invoke/VarHandle" ∧ (parseMethodDescriptor y.desc).map (fun d => d.parameters.length) = some nn) ∧ Cond.instanceMethod y ∈ gws
/-- what a throw needs of the tables -/
def ThW (cls : String) (names : List String) (ik ic : Nat) : Prop := (Bundle.fit cls = true ∧ ∀ x ∈ names, Bundle.fit x = true) ∧ Cond.classLink RX3 ik cls ∈ gws ∧ Cond.initialized cls ∈ gws ∧ (∀ w ∈ (vx_atS RX3 ic cls names).filter goodWord, w ∈ gws) ∧ (∀ w ∈ (vx_atS RX3 ic cls names).filter (fun w => !goodWord w), w ∈ nwW) ∧ ∀ w ∈ Cond.classLink RX3 ik cls :: Cond.initialized cls :: vx_atS RX3 ic cls names, vx_ot w = true
/-- 'throw new E("text")' where nothing has changed -/
theorem r_throw {cls text : String} {names : List String} {ik is ic : Nat} (h : Ok G X RX3 cc nL rm) (hN : NoT X) (hQ : OkQ G X post px c rm) (hT : ThW cls names ik ic) (hstr : (is, text) ∈ stW)
    (d0 : decode cc pc = .ok (.new ik, 3)) (d3 : decode cc (pc + 3) = .ok (.dup, 1)) (d4 : decode cc (pc + 4) = .ok (.ldc is, 2)) (d6 : decode cc (pc + 6) = .ok (.invokespecial ic, 3)) (d9 : decode cc (pc + 9) = .ok (.athrow, 1))
    (hR : names.length + 3 < rm.frames ∧ (st.map fun v => v.category).sum + (13 * (names.length + 1) + 43) ≤ rm.locals ∧ k + 1 ≤ rm.cells ∧ n + 6 ≤ rm.slots) (hp : px cls) : V G X c lv k n pc st := by
  intro H locs ls hP hS hl
  obtain ⟨sa, hsa⟩ := h.k.2.2.2 _ hstr
  obtain ⟨hcls, hk, hini, hg1, hg2, hgood⟩ := hT
  rw [show xQ X = _ from hQ]
  refine vx_throwS (sa := sa) h.x h.b h.t h.o hcls.1 hcls.2 (h.w _ hk) (h.w _ hini) hsa (vx_hat (fun w hw => h.w w (hg1 w hw)) hg2 (fun w hw => ?_)) hgood h.z.1 h.z.2 hS hl.1 d0 d3 d4 d6 d9 (fun x hx => (hN x hx).elim) (by rw [h.r]; exact hR.1) (by rw [h.r]; exact hR.2.1) (by rw [h.r]; exact hR.2.2.1) (by rw [h.r]; exact hR.2.2.2) h.l (fun t hW hz hk => ⟨hp, ?_, ?_⟩) hS.2.2 hR.2.2.1 hR.2.2.2
  · have h1 := nwW_ok w hw
    have h2 := h.k.2.1 w hw
    cases w <;> first | exact Bool.noConfusion (show false = true from h1) | exact va_Nw.use rfl h2
  · exact va_P.kept hP (fun j q hj => hk q.1 (vx_lt hP hj))
  · exact ⟨Nat.le_trans hS.1 hz, fun q h1 h2 => (hk q (Nat.lt_of_lt_of_le h1 hS.1)).trans (hS.2.1 q h1 h2)⟩
end ENDS
