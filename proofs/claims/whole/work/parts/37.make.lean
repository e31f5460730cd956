/-! THE MAKING: a world that grows, as a list of cells; VL says of it what V says of the whole index -/
def WdL (G : GG) (U : State) : Prop := va_K (gD G) vwCl (gl_tys G) U ∧ (∀ w ∈ nwW, va_Nw w U) ∧ va_AO RX0 U ∧ va_AO RX1 U
theorem WdL.warm {G : GG} {s U : State} (hW : s.WarmedH U.vm) (h : WdL G s) : WdL G U := ⟨va_K.moved hW.alike h.1, fun w hw => isNw_warm (nwW_ok w hw) hW (h.2.1 w hw), va_AO.moved hW.alike h.2.2.1, va_AO.moved hW.alike h.2.2.2⟩
def VL (G : GG) (X : CX) (A : Nat → Prop) (ws : va_W) (lv : LV) (k n pc : Nat) (st : List Value) : Prop :=
  ∀ (H : Heap) (locs : List Loc) (ls : Array Slot), va_P (gD G) vwCl ws H → va_D A ws → va_S A (xs X).heap H locs → lv_has ls (xc X).maxLocals lv → W (xp X) (xl X) (xe X) (xR X) (xs X) (xm X) (xa X) (xb X) (xh X) (xc X) H locs k n (xQ X) (F0 (xm X) pc ls st)
def OkL (G : GG) (X : CX) (own : String) (cc : ByteArray) (nL : Nat) (rm : Room) (A : Nat → Prop) : Prop :=
  (xp X).tables.exec = Jvm.exec ∧ (xc X).code = cc ∧ (xs X).vm.findClass own = some (xm X).cls ∧ (∀ w ∈ gws, w.before (xa X) (xs X) = true) ∧ (xc X).maxLocals = nL ∧ xR X = rm ∧ WdL G (xs X) ∧ (∀ q : Nat, (xs X).heap.size ≤ q → A q) ∧ (xh X).locks = false
section OKL
variable {G : GG} {X : CX} {own : String} {cc : ByteArray} {nL : Nat} {rm : Room} {A : Nat → Prop}
theorem OkL.x (h : OkL G X own cc nL rm A) : (xp X).tables.exec = Jvm.exec := h.1
theorem OkL.b (h : OkL G X own cc nL rm A) : (xc X).code = cc := h.2.1
theorem OkL.o (h : OkL G X own cc nL rm A) : (xs X).vm.findClass own = some (xm X).cls := h.2.2.1
theorem OkL.w (h : OkL G X own cc nL rm A) : ∀ w ∈ gws, w.before (xa X) (xs X) = true := h.2.2.2.1
theorem OkL.n (h : OkL G X own cc nL rm A) : (xc X).maxLocals = nL := h.2.2.2.2.1
theorem OkL.r (h : OkL G X own cc nL rm A) : xR X = rm := h.2.2.2.2.2.1
theorem OkL.k (h : OkL G X own cc nL rm A) : WdL G (xs X) := h.2.2.2.2.2.2.1
theorem OkL.a (h : OkL G X own cc nL rm A) : ∀ q : Nat, (xs X).heap.size ≤ q → A q := h.2.2.2.2.2.2.2.1
theorem OkL.l (h : OkL G X own cc nL rm A) : (xh X).locks = false := h.2.2.2.2.2.2.2.2
end OKL
/-- a constructor's contract: from the cells w0 it comes to cells w1 with 'post' -/
def ML (G : GG) (l : Launch) (y : MethodName) (ws : List Cond) (rm : Room) (av : List Value) (w0 : va_W) (post : va_W → Prop) : Prop :=
  ∀ sz : Nat, Met l y ws rm (va_Pc av (fun U => U.heap.size = sz ∧ va_P (gD G) vwCl w0 U.heap ∧ va_D (fun _ => True) w0 ∧ WdL G U)) (va_Qv post (fun w1 t => va_P (gD G) vwCl w1 t.heap ∧ va_D (va_A w0 sz) w1) (va_A w0 sz)) rm.cells rm.slots (va_A w0 sz)
theorem ML.of {G : GG} {l : Launch} {y : MethodName} {cc : ByteArray} {maxL : Nat} {rm : Room} {av : List Value} {w0 : va_W} {post : va_W → Prop} (hy : plainName y.cls = true) (hyn : y.name = "<init>") (hlen : (lg_sl av).length ≤ maxL)
    (body : ∀ (X : CX) (A : Nat → Prop), xl X = l → OkL G X y.cls cc maxL rm A → (xh X).name = "<init>" → (∀ (H : Heap) (locs : List Loc) (ls : Array Slot) (w1 : va_W) (k n pc : Nat), k ≤ rm.cells → n ≤ rm.slots → decode cc pc = .ok (.return_, 1) → post w1 → va_P (gD G) vwCl w1 H → va_D A w1 → va_S A (xs X).heap H locs → W (xp X) (xl X) (xe X) (xR X) (xs X) (xm X) (xa X) (xb X) (xh X) (xc X) H locs k n (xQ X) (F0 (xm X) pc ls [])) → va_D A w0 → VL G X A w0 (lv_args 0 av) 0 0 0 []) : ML G l y (.code y cc maxL none :: gws) rm av w0 post := by
  intro sz
  refine Met.ofW (cc := cc) (maxL := maxL) (ret := none) hy rfl ?_
  intro p e s m args below meth cd s₁ B hml hv
  obtain ⟨rfl, hsz, hP, hD0, hK⟩ := hv
  subst hsz
  have hts0 := atoms_spec (ws := Cond.code y cc maxL none :: gws) B.pre
  have hl0 := lv_entry av (n := maxL) hlen
  rw [lg_entry_eq]
  have hD := hD0.self (sz := s.heap.size)
  have hV := body (p, l, e, s, m, av.toArray, below, meth, cd, rm, MQ below (va_Qv post (fun w1 t => va_P (gD G) vwCl w1 t.heap ∧ va_D (va_A w0 s.heap.size) w1) (va_A w0 s.heap.size)) av.toArray s rm.cells rm.slots (va_A w0 s.heap.size)) (va_A w0 s.heap.size) rfl
    ⟨B.exec, B.bytes, findClass_of_methodNamed B.named, fun w hw => hts0 w (List.mem_cons_of_mem _ hw), hml, rfl, hK, fun q h => Or.inr h, B.notSynchronized⟩ ((name_of_methodNamed B.named B.method).1.trans hyn)
    (fun H locs ls w1 k n pc hk hn d hp hP1 hD1 hS => W.widen hk hn (W.vret B.exec B.bytes B.returns (fun t ht hW => ⟨⟨w1, rfl, hp, by rw [ht]; exact hP1, hD1⟩, hS.F ht⟩) hS.2.2 d B.notSynchronized)) hD
  exact hV s.heap [] _ hP hD va_S.rf (by show lv_has _ cd.maxLocals _; rw [hml]; exact hl0)
theorem mid_get {α : Type} (u : List α) (x : α) (v : List α) : (u ++ x :: v)[u.length]? = some x := by
  rw [List.getElem?_append_right (Nat.le_refl _), Nat.sub_self]
  rfl
theorem mid_set {α : Type} (u : List α) (x y : α) (v : List α) : (u ++ x :: v).set u.length y = u ++ y :: v := by
  rw [List.set_append_right _ _ (Nat.le_refl _), Nat.sub_self]
  rfl
section MROWS
variable {G : GG} {X : CX} {own : String} {cc : ByteArray} {nL : Nat} {rm : Room} {A : Nat → Prop} {ws : va_W} {lv : LV} {k n pc : Nat} {st : List Value}
theorem VL.eq {ws' : va_W} (e : ws = ws') (h : VL G X A ws' lv k n pc st) : VL G X A ws lv k n pc st := e ▸ h
theorem VL_lv {lv' : LV} (ks : List Nat) (hl : lv_pick lv ks = lv') (kk : VL G X A ws lv' k n pc st) : VL G X A ws lv k n pc st := fun H locs ls hP hD hS hL => kk H locs ls hP hD hS (lv_sub hL ks hl)
theorem q_iconst (h : OkL G X own cc nL rm A) {z : Int} {v : Int32} (hv : Int32.ofInt z = v) (d : decode cc pc = .ok (.iconst z, 1)) (kk : VL G X A ws lv k n (pc + 1) (.int v :: st)) : VL G X A ws lv k n pc (st) := fun H locs ls hP hD hS hl => lv_iconst h.x h.b d hv (kk H locs ls hP hD hS hl)
theorem q_bipush (h : OkL G X own cc nL rm A) {z : Int} {v : Int32} (hv : (Int8.ofInt z).toInt32 = v) (d : decode cc pc = .ok (.bipush z, 2)) (kk : VL G X A ws lv k n (pc + 2) (.int v :: st)) : VL G X A ws lv k n pc (st) := fun H locs ls hP hD hS hl => lv_bipush h.x h.b d hv (kk H locs ls hP hD hS hl)
theorem q_sipush (h : OkL G X own cc nL rm A) {z : Int} {v : Int32} (hv : (Int16.ofInt z).toInt32 = v) (d : decode cc pc = .ok (.sipush z, 3)) (kk : VL G X A ws lv k n (pc + 3) (.int v :: st)) : VL G X A ws lv k n pc (st) := fun H locs ls hP hD hS hl => lv_sipush h.x h.b d hv (kk H locs ls hP hD hS hl)
theorem q_lconst (h : OkL G X own cc nL rm A) {z : Fin 2} {v : Int64} (hv : Int64.ofNat (z : Nat) = v) (d : decode cc pc = .ok (.lconst z, 1)) (kk : VL G X A ws lv k n (pc + 1) (.long v :: st)) : VL G X A ws lv k n pc (st) := fun H locs ls hP hD hS hl => lv_lconst h.x h.b d hv (kk H locs ls hP hD hS hl)
theorem q_aload_n (h : OkL G X own cc nL rm A) {kf : Fin 4} (q : Nat) {i : Nat} {x : Nat} (hi : (kf : Nat) = i) (hq : lv[q]? = some (i, .ref x)) (d : decode cc pc = .ok (.aload_n kf, 1)) (kk : VL G X A ws lv k n (pc + 1) (.ref x :: st)) : VL G X A ws lv k n pc (st) := fun H locs ls hP hD hS hl => lv_aload_n h.x h.b d hi (lv_at hl q hq) (kk H locs ls hP hD hS hl)
theorem q_iload_n (h : OkL G X own cc nL rm A) {kf : Fin 4} (q : Nat) {i : Nat} {x : Int32} (hi : (kf : Nat) = i) (hq : lv[q]? = some (i, .int x)) (d : decode cc pc = .ok (.iload_n kf, 1)) (kk : VL G X A ws lv k n (pc + 1) (.int x :: st)) : VL G X A ws lv k n pc (st) := fun H locs ls hP hD hS hl => lv_iload_n h.x h.b d hi (lv_at hl q hq) (kk H locs ls hP hD hS hl)
theorem q_istore_n (h : OkL G X own cc nL rm A) {i : Nat} {x : Int32} (lv' : LV) {kf : Fin 4} (hi : (kf : Nat) = i) (d : decode cc pc = .ok (.istore_n kf, 1)) (hn : i < nL) (hlv : (i, Value.int x) :: lv.filter (fun q => !(q.1 == i) && !(q.1 + 1 == i && q.2.category == 2)) = lv') (kk : VL G X A ws lv' k n (pc + 1) st) : VL G X A ws lv k n pc (.int x :: st) := fun H locs ls hP hD hS hl => lv_istore_n h.x h.b d hi hl (by rw [h.n]; exact hn) hlv (fun ls' hl' => kk H locs ls' hP hD hS hl')
theorem q_astore_n (h : OkL G X own cc nL rm A) {i : Nat} {x : Nat} (lv' : LV) {kf : Fin 4} (hi : (kf : Nat) = i) (d : decode cc pc = .ok (.astore_n kf, 1)) (hn : i < nL) (hlv : (i, Value.ref x) :: lv.filter (fun q => !(q.1 == i) && !(q.1 + 1 == i && q.2.category == 2)) = lv') (kk : VL G X A ws lv' k n (pc + 1) st) : VL G X A ws lv k n pc (.ref x :: st) := fun H locs ls hP hD hS hl => lv_astore_n h.x h.b d hi hl (by rw [h.n]; exact hn) hlv (fun ls' hl' => kk H locs ls' hP hD hS hl')
theorem q_iinc (h : OkL G X own cc nL rm A) {i : Nat} {z : Int} {x v : Int32} (q : Nat) (lv' : LV) (hq : lv[q]? = some (i, .int x)) (hv : x + Int32.ofInt z = v) (d : decode cc pc = .ok (.iinc i z, 3)) (hn : i < nL) (hlv : (i, Value.int v) :: lv.filter (fun q => !(q.1 == i) && !(q.1 + 1 == i && q.2.category == 2)) = lv') (kk : VL G X A ws lv' k n (pc + 3) st) : VL G X A ws lv k n pc st := fun H locs ls hP hD hS hl => lv_iinc h.x h.b d hl hq hv (by rw [h.n]; exact hn) hlv (fun ls' hl' => kk H locs ls' hP hD hS hl')
theorem q_goto (h : OkL G X own cc nL rm A) {off : Int} (tgt : Nat) (d : decode cc pc = .ok (.goto off, 3)) (ht : (pc : Int) + off = (tgt : Int)) (kk : VL G X A ws lv k n tgt st) : VL G X A ws lv k n pc st := fun H locs ls hP hD hS hl => lv_goto h.x h.b d ht (kk H locs ls hP hD hS hl)
theorem q_icmp_ge (h : OkL G X own cc nL rm A) {x y : Int32} {off : Int} (tgt : Nat) (d : decode cc pc = .ok (.if_icmp .ge off, 3)) (ht : (pc : Int) + off = (tgt : Int)) (kt : y ≤ x → VL G X A ws lv k n tgt st) (kf : ¬ y ≤ x → VL G X A ws lv k n (pc + 3) st) : VL G X A ws lv k n pc (.int y :: .int x :: st) := fun H locs ls hP hD hS hl => lv_icmp_ge h.x h.b d ht (fun z => kt z H locs ls hP hD hS hl) (fun z => kf z H locs ls hP hD hS hl)
theorem q_icmp_lt (h : OkL G X own cc nL rm A) {x y : Int32} {off : Int} (tgt : Nat) (d : decode cc pc = .ok (.if_icmp .lt off, 3)) (ht : (pc : Int) + off = (tgt : Int)) (kt : x < y → VL G X A ws lv k n tgt st) (kf : ¬ x < y → VL G X A ws lv k n (pc + 3) st) : VL G X A ws lv k n pc (.int y :: .int x :: st) := fun H locs ls hP hD hS hl => lv_icmp_lt h.x h.b d ht (fun z => kt z H locs ls hP hD hS hl) (fun z => kf z H locs ls hP hD hS hl)
theorem q_dup (h : OkL G X own cc nL rm A) {v : Value} (hv : v.category = 1) (d : decode cc pc = .ok (.dup, 1)) (kk : VL G X A ws lv k n (pc + 1) (v :: v :: st)) : VL G X A ws lv k n pc (v :: st) := fun H locs ls hP hD hS hl => lv_dup h.x h.b d hv (kk H locs ls hP hD hS hl)
theorem q_obj (h : OkL G X own cc nL rm A) {ix : Nat} (hl : Cond.methodLink own ix objectInit ∈ gws ∧ Cond.instanceMethod objectInit ∈ gws ∧ Cond.code objectInit ⟨#[0xb1]⟩ 1 none ∈ gws) {v : Nat} (hR : 1 ≤ rm.frames ∧ (st.map fun v => v.category).sum + 13 ≤ rm.locals) (d : decode cc pc = .ok (.invokespecial ix, 3)) (kk : VL G X A ws lv k n (pc + 3) st) : VL G X A ws lv k n pc (.ref v :: st) := by
  intro H locs ls hP hD hS hl2
  refine W.objInit h.x h.b h.o (h.w _ hl.1) (h.w _ hl.2.1) (h.w _ hl.2.2) rfl hl2.1 rfl d (by rw [h.r]; exact hR.1) (by rw [h.r]; have := hR.2; show 2 * 0 + (st.map fun v => v.category).sum + 12 ≤ rm.locals; omega) ?_
  exact W.eq (g2 := F0 (xm X) (pc + 3) ls st) rfl (kk H locs ls hP hD hS hl2)
def NWc (own : String) (ix : Nat) (C : String) (T : u_T) (N ci : Nat) : Prop := vwCl[ci]? = some (C, T, N) ∧ Cond.classLink own ix C ∈ gws ∧ Cond.instantiable C N ∈ gws ∧ Cond.initialized C ∈ gws ∧ ∀ w ∈ u_ws C T N, w ∈ gws
theorem q_new (h : OkL G X own cc nL rm A) {ix : Nat} {C : String} {T : u_T} {N ci : Nat} (F : NWc own ix C T N ci) {tyf : Nat → FieldType} (FF : FT C T N tyf) (fs : List Value) (hfs : ∀ j, j < N → defaultValue (tyf j) = vp_V fs j) (hR : k + 1 ≤ rm.cells ∧ n + N ≤ rm.slots) (d : decode cc pc = .ok (.new ix, 3)) (kk : ∀ q : Nat, VL G X A (ws ++ [(q, .inr (ci, fs))]) lv (k + 1) (n + N) (pc + 3) (.ref q :: st)) : VL G X A ws lv k n pc st := by
  intro H locs ls hP hD hS hl
  exact va_new h.x h.b h.w F.2.2.2.2 tyf FF.1 h.o (h.w _ F.2.1) (h.w _ F.2.2.1) (h.w _ F.2.2.2.1) h.k.1 hP hD hS h.a F.1 hfs (by rw [h.r]; exact hR.1) (by rw [h.r]; exact hR.2) d (fun q H1 hP1 hD1 hS1 => kk q H1 locs ls hP1 hD1 hS1 hl)
theorem RA_eq {U : State} {a b : ClassId} {ty : FieldType} (h1 : va_RA U a ty) (h2 : va_RA U b ty) : a = b := by
  cases ty with
  | object C =>
    obtain ⟨_, _, _, _, _, e1⟩ := h1
    obtain ⟨_, _, _, _, _, e2⟩ := h2
    exact Option.some.inj (e1.symm.trans e2)
  | _ => exact Option.some.inj ((show U.vm.findClass _ = some a from h1).symm.trans h2)
theorem K_last {G : GG} {U : State} {cA : ClassId} {ty : FieldType} (hK : va_K (gD G) vwCl (gl_tys G ++ [(cA, ty)]) U) {t0 : Nat} {c0 : ClassId} (h0 : (gl_tys G)[t0]? = some (c0, ty)) : cA = c0 :=
  RA_eq (hK.2 (gl_tys G).length _ (by rw [List.getElem?_append_right (Nat.le_refl _), Nat.sub_self]; rfl)).2 (hK.2 t0 _ (by rw [List.getElem?_append_left (List.getElem?_eq_some_iff.mp h0).1]; exact h0)).2
theorem q_newa (h : OkL G X own cc nL rm A) {atype : ArrayType} (hw : Cond.arrayClass (newarray.typeOf atype) ∈ gws) {t0 : Nat} {c0 : ClassId} (h0 : (gl_tys G)[t0]? = some (c0, newarray.typeOf atype)) {N : Nat} {a0 : vp_A} (ha : ∀ cA : ClassId, vp_cell cA a0 = arrV cA N (fun _ => defaultValue (newarray.typeOf atype))) {v : Int32} (hn : ¬ v < 0) (hN : v.toNatClampNeg = N) (hb : N * componentBytes (newarray.typeOf atype) ≤ 536870912) (hR : k + 1 ≤ rm.cells ∧ n + N ≤ rm.slots) (d : decode cc pc = .ok (.newarray atype, 2)) (kk : ∀ q : Nat, VL G X A (ws ++ [(q, .inl (c0, a0))]) lv (k + 1) (n + N) (pc + 2) (.ref q :: st)) : VL G X A ws lv k n pc (.int v :: st) := by
  intro H locs ls hP hD hS hl
  refine va_newa h.x h.b (h.w _ hw) rfl h.k.1 hP hD hS h.a ha hn hN hb (by rw [h.r]; exact hR.1) (by rw [h.r]; exact hR.2) d (fun q cA H1 hK1 hP1 hD1 hS1 => ?_)
  have e := K_last hK1 h0
  subst e
  exact kk q H1 locs ls hP1 hD1 hS1 hl
theorem q_newq (h : OkL G X own cc nL rm A) {ix : Nat} {C : String} (hw : Cond.classLink own ix C ∈ gws) (ho : va_AO C (xs X)) {t0 : Nat} {c0 : ClassId} (h0 : (gl_tys G)[t0]? = some (c0, .object C)) {N : Nat} {v : Int32} (hn : ¬ v < 0) (hN : v.toNatClampNeg = N) (hb : N * 4 ≤ 536870912) (hR : k + 1 ≤ rm.cells ∧ n + N ≤ rm.slots) (d : decode cc pc = .ok (.anewarray ix, 3)) (kk : ∀ q : Nat, VL G X A (ws ++ [(q, .inl (c0, N, .inr (.inr (.inr (.inr (fun _ => none))))))]) lv (k + 1) (n + N) (pc + 3) (.ref q :: st)) : VL G X A ws lv k n pc (.int v :: st) := by
  intro H locs ls hP hD hS hl
  refine va_newq h.x h.b h.o (h.w _ hw) ho h.k.1 hP hD hS h.a hn hN hb (by rw [h.r]; exact hR.1) (by rw [h.r]; exact hR.2) d (fun q cA H1 hK1 hP1 hD1 hS1 => ?_)
  have e := K_last hK1 h0
  subst e
  exact kk q H1 locs ls hP1 hD1 hS1 hl
/-- putfield of a final field, in its class's own constructor -/
theorem q_putF (h : OkL G X own cc nL rm A) (hin : (xh X).name = "<init>") {ix : Nat} {C : String} {T : u_T} {N ci j : Nat} (F : FL own ix C T N ci j) {tyf : Nat → FieldType} (FF : FT C T N tyf) {a : Nat} {fs : List Value} (i : Nat) (he : ws[i]? = some (a, .inr (ci, fs))) {v : Value} (ws' : va_W) (hw : ws.set i (a, .inr (ci, fs.set j v)) = ws') (hfin : (T j).2.2.2 = true) (hdecl : (T j).1 = own) (hn : narrow (tyf j) v = v) (hfit : fits (tyf j) v = true) (hlt : j < fs.length) (d : decode cc pc = .ok (.putfield ix, 3)) (kk : VL G X A ws' lv k n (pc + 3) st) : VL G X A ws lv k n pc (v :: .ref a :: st) := by
  intro H locs ls hP hD hS hl
  subst hw
  exact va_putF h.x h.b h.w F.2.2.2 tyf FF.1 FF.2 h.o h.k.1 hP hD hS i he F.1 j F.2.1 (h.w _ F.2.2.1) (fun _ z => z) hfin hin hdecl (FF.1 j F.2.1) hn hfit hlt d (fun H1 locs1 hP1 hD1 hS1 => kk H1 locs1 ls hP1 hD1 hS1 hl)
theorem q_put (h : OkL G X own cc nL rm A) {ix : Nat} {C : String} {T : u_T} {N ci j : Nat} (F : FL own ix C T N ci j) {tyf : Nat → FieldType} (FF : FT C T N tyf) {a : Nat} {fs : List Value} (i : Nat) (he : ws[i]? = some (a, .inr (ci, fs))) {v : Value} (ws' : va_W) (hw : ws.set i (a, .inr (ci, fs.set j v)) = ws') (hfin : (T j).2.2.2 = false) (hn : narrow (tyf j) v = v) (hfit : fits (tyf j) v = true) (hlt : j < fs.length) (d : decode cc pc = .ok (.putfield ix, 3)) (kk : VL G X A ws' lv k n (pc + 3) st) : VL G X A ws lv k n pc (v :: .ref a :: st) := by
  intro H locs ls hP hD hS hl
  subst hw
  exact va_put h.x h.b h.w F.2.2.2 tyf FF.1 FF.2 h.o h.k.1 hP hD hS i he F.1 j F.2.1 (h.w _ F.2.2.1) (fun _ z => z) hfin (FF.1 j F.2.1) hn hfit hlt d (fun H1 locs1 hP1 hD1 hS1 => kk H1 locs1 ls hP1 hD1 hS1 hl)
theorem q_getf (h : OkL G X own cc nL rm A) {ix : Nat} {C : String} {T : u_T} {N ci j : Nat} (F : FL own ix C T N ci j) {a : Nat} {fs : List Value} (i : Nat) (he : ws[i]? = some (a, .inr (ci, fs))) {v : Value} (hv : fs[j]? = some v) (d : decode cc pc = .ok (.getfield ix, 3)) (kk : VL G X A ws lv k n (pc + 3) (v :: st)) : VL G X A ws lv k n pc (.ref a :: st) := fun H locs ls hP hD hS hl => va_get h.x h.b h.w F.2.2.2 h.o h.k.1 hP i he F.1 j F.2.1 (h.w _ F.2.2.1) (fun _ z => z) hv d (kk H locs ls hP hD hS hl)
theorem q_aast (h : OkL G X own cc nL rm A) {a N v ci : Nat} {f : Nat → Option Nat} {t0 : Nat} {c0 : ClassId} {r : vw_C} (q0 qk : Nat) (ha : ws[q0]? = some (a, .inl (c0, N, .inr (.inr (.inr (.inr f)))))) (ht : (gl_tys G)[t0]? = some (c0, .object r.1)) {vs : List Value} (hv : ws[qk]? = some (v, .inr (ci, vs))) (hc : vwCl[ci]? = some r) {x : Nat} (hx : x < N) (hN : N < 2147483648) (ws' : va_W) (hw : ws.set q0 (a, .inl (c0, N, .inr (.inr (.inr (.inr (va_up f x (some v))))))) = ws') (d : decode cc pc = .ok (.aastore, 1)) (kk : VL G X A ws' lv k n (pc + 1) st) : VL G X A ws lv k n pc (.ref v :: .int (nI x) :: .ref a :: st) := by
  intro H locs ls hP hD hS hl
  subst hw
  refine va_astq h.x h.b h.k.1 hP hD hS q0 t0 qk ci ha ht hv hc (vp_in_nI hx hN) d (fun H1 locs1 hP1 hD1 hS1 => ?_)
  rw [nI_clamp (Nat.lt_trans hx hN)] at hP1 hD1
  exact kk H1 locs1 ls hP1 hD1 hS1 hl
theorem q_iast (h : OkL G X own cc nL rm A) {a N : Nat} {f : Nat → Int32} (q0 : Nat) (ha : ws[q0]? = some (a, .inl (G.2.2.2 0, N, .inl f))) {x : Nat} {v : Int32} (hx : x < N) (hN : N < 2147483648) (ws' : va_W) (hw : ws.set q0 (a, .inl (G.2.2.2 0, N, .inl (upd f x v))) = ws') (d : decode cc pc = .ok (.iastore, 1)) (kk : VL G X A ws' lv k n (pc + 1) st) : VL G X A ws lv k n pc (.int v :: .int (nI x) :: .ref a :: st) := by
  intro H locs ls hP hD hS hl
  subst hw
  refine va_iast h.x h.b h.k.1 hP hD hS q0 0 ha rfl (vp_in_nI hx hN) d (fun H1 locs1 hP1 hD1 hS1 => ?_)
  rw [nI_clamp (Nat.lt_trans hx hN)] at hP1 hD1
  exact kk H1 locs1 ls hP1 hD1 hS1 hl
theorem blindL {G : GG} {sz : Nat} {w0 : va_W} {av : List Value} : FrameBlind (va_Pc av (fun U => U.heap.size = sz ∧ va_P (gD G) vwCl w0 U.heap ∧ va_D (fun _ => True) w0 ∧ WdL G U)) := fun a U g mk q => ⟨q.1, q.2.1, q.2.2.1, q.2.2.2.1, WdL.warm (U := U.calling g mk a) (State.WarmedH.refl U) q.2.2.2.2⟩
theorem freeL (h : OkL G X own cc nL rm A) {H : Heap} {locs : List Loc} (hD : va_D A ws) (hS : va_S A (xs X).heap H locs) : ∀ q, va_A ws H.size q → A q := fun q z => z.elim (fun ⟨i, e, hi⟩ => hD.2 i (q, e) hi) (fun z => h.a q (Nat.le_trans hS.1 z))
theorem OkL.pay (h : OkL G X own cc nL rm A) {w0 : Cond} (hw0 : w0 ∈ gws) : ∀ w ∈ w0 :: gws, ∀ (a' : Array Value) (U : State), (xs X).WarmedH U.vm → w.before a' U = true := fun w hw a' U hW => by
  have hg : w ∈ gws := (List.mem_cons.mp hw).elim (fun e => e ▸ hw0) id
  exact word_at hW (gws_good w hg) (h.w w hg)
theorem D_weak {B C : Nat → Prop} {w : va_W} (h : va_D B w) (k : ∀ q, B q → C q) : va_D C w := ⟨h.1, fun i q hi => k _ (h.2 i q hi)⟩
/-- a constructor of a nest mate, private -/
theorem q_initN (h : OkL G X own cc nL rm A) {ix : Nat} {y : MethodName} {host : String} {bytes : ByteArray} {maxL : Nat} {rmY : Room} (L : LkJ own ix y host bytes maxL 0) (hyn : y.name = "<init>") {a : Nat} {post : va_W → Prop} (hM : ML G (xl X) y (.code y bytes maxL none :: gws) rmY [.ref a] ws post) (hW : (st.map fun v => v.category).sum ≤ 8) (hR : RmC rmY rm maxL k n) (d : decode cc pc = .ok (.invokespecial ix, 3)) (kk : ∀ w1 : va_W, post w1 → VL G X A w1 lv (k + rmY.cells) (n + rmY.slots) (pc + 3) st) : VL G X A ws lv k n pc (.ref a :: st) := by
  intro H locs ls hP hD hS hl
  refine va_callv (va_runIN (As := []) (rest := st) ⟨h.x, h.b, rfl, h.o, h.w⟩ (hM H.size) ⟨⟨⟨rfl, rfl, by rw [h.r]; exact hR.1, by rw [h.r]; exact hR.2.1, h.pay L.2.2.1, List.mem_cons_self⟩, h.w _ L.2.2.1, h.w _ L.2.1, ⟨L.2.2.2.1.1, L.2.2.2.1.2.1⟩, arity_of L.2.2.2.1.2.2, va_Nw.use rfl (h.k.2.1 _ L.1)⟩, hyn, h.w _ L.2.2.2.2⟩ ⟨blindL, fun U hU hW2 => ⟨rfl, by rw [hU], by rw [hU]; exact hP, D_weak hD (fun _ _ => trivial), WdL.warm hW2 h.k⟩⟩ rfl rfl hl.1 rfl (lv_room hW) d ⟨by rw [h.r]; exact hR.2.2.1, by rw [h.r]; exact hR.2.2.2⟩) hS (fun q _ z => freeL h hD hS q z) (freeL h hD hS) (fun u t H1 locs1 ht hvm hp hB hz hk hS1 => ?_)
  obtain ⟨hP1, hD1⟩ := hB
  rw [ht] at hP1
  exact kk u hp H1 locs1 ls hP1 (D_weak hD1 (freeL h hD hS)) hS1 hl
/-- a constructor that all may call -/
theorem q_initI (h : OkL G X own cc nL rm A) {ix : Nat} {y : MethodName} {bytes : ByteArray} {maxL : Nat} {rmY : Room} (L : LkI own ix y bytes maxL 0) (hyn : y.name = "<init>") {a : Nat} {post : va_W → Prop} (hM : ML G (xl X) y (.code y bytes maxL none :: gws) rmY [.ref a] ws post) (hW : (st.map fun v => v.category).sum ≤ 8) (hR : RmC rmY rm maxL k n) (d : decode cc pc = .ok (.invokespecial ix, 3)) (kk : ∀ w1 : va_W, post w1 → VL G X A w1 lv (k + rmY.cells) (n + rmY.slots) (pc + 3) st) : VL G X A ws lv k n pc (.ref a :: st) := by
  intro H locs ls hP hD hS hl
  refine va_callv (va_runI (As := []) (rest := st) ⟨h.x, h.b, rfl, h.o, h.w⟩ (hM H.size) ⟨⟨rfl, rfl, by rw [h.r]; exact hR.1, by rw [h.r]; exact hR.2.1, h.pay L.1.2.2.1, List.mem_cons_self, h.w _ L.1.2.2.1, h.w _ L.1.2.1, ⟨L.1.2.2.2.1, L.1.2.2.2.2.1⟩, arity_of L.1.2.2.2.2.2, h.w _ L.1.1⟩, hyn, h.w _ L.2⟩ ⟨blindL, fun U hU hW2 => ⟨rfl, by rw [hU], by rw [hU]; exact hP, D_weak hD (fun _ _ => trivial), WdL.warm hW2 h.k⟩⟩ rfl rfl hl.1 rfl (lv_room hW) d ⟨by rw [h.r]; exact hR.2.2.1, by rw [h.r]; exact hR.2.2.2⟩) hS (fun q _ z => freeL h hD hS q z) (freeL h hD hS) (fun u t H1 locs1 ht hvm hp hB hz hk hS1 => ?_)
  obtain ⟨hP1, hD1⟩ := hB
  rw [ht] at hP1
  exact kk u hp H1 locs1 ls hP1 (D_weak hD1 (freeL h hD hS)) hS1 hl
end MROWS
