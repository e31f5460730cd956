/-! CUT -/
def ThX (cls : String) (names : List String) (ik ic ix : Nat) (rx : ByteArray) : Prop := (Bundle.fit cls = true ∧ ∀ x ∈ names, Bundle.fit x = true) ∧ Cond.classLink RX3 ik cls ∈ gws ∧ Cond.initialized cls ∈ gws ∧ (∀ w ∈ (vx_atX RX3 ic cls ix rx names).filter goodWord, w ∈ gws) ∧ (∀ w ∈ (vx_atX RX3 ic cls ix rx names).filter (fun w => !goodWord w), w ∈ nwW) ∧ ∀ w ∈ Cond.classLink RX3 ik cls :: Cond.initialized cls :: vx_atX RX3 ic cls ix rx names, vx_ot w = true
def nseB : ByteArray := ⟨#[0x2a, 0x2b, 0xb7, 0x00, 0x0d, 0xb1]⟩
theorem th5_x : ∀ w ∈ (vx_atX RX3 60 "java/util/NoSuchElementException" 13 nseB ["java/lang/RuntimeException", "java/lang/Exception"]).filter goodWord, w ∈ lw_tbl := by decide +kernel
theorem th5 : ThX "java/util/NoSuchElementException" ["java/lang/RuntimeException", "java/lang/Exception"] 56 60 13 nseB := ⟨by decide +kernel, gm 503 (by decide +kernel), gm 44 (by decide +kernel), fun w hw => List.mem_filter.mpr ⟨th5_x w hw, (List.mem_filter.mp hw).2⟩, by decide +kernel, by decide +kernel⟩
theorem nse0 : decode nseB 0 = .ok (.aload_n 0, 1) := by decide +kernel
theorem nse1 : decode nseB 1 = .ok (.aload_n 1, 1) := by decide +kernel
theorem nse2 : decode nseB 2 = .ok (.invokespecial 13, 3) := by decide +kernel
theorem nse5 : decode nseB 5 = .ok (.return_, 1) := by decide +kernel
theorem r_throwX {G : GG} {X : CX} {cc : ByteArray} {nL : Nat} {rm : Room} {c : CC} {lv : LV} {k n pc : Nat} {st : List Value} {post : Option Value → CC → Prop} {px : String → Prop} {cls text : String} {names : List String} {ik is ic : Nat} (h : Ok G X RX3 cc nL rm) (hN : NoT X) (hQ : OkQ G X post px c rm) (hT : ThX cls names ik ic 13 nseB) (hstr : (is, text) ∈ stW)
    (d0 : decode cc pc = .ok (.new ik, 3)) (d3 : decode cc (pc + 3) = .ok (.dup, 1)) (d4 : decode cc (pc + 4) = .ok (.ldc is, 2)) (d6 : decode cc (pc + 6) = .ok (.invokespecial ic, 3)) (d9 : decode cc (pc + 9) = .ok (.athrow, 1))
    (hR : names.length + 3 < rm.frames ∧ (st.map fun v => v.category).sum + (13 * (names.length + 1) + 43) ≤ rm.locals ∧ k + 1 ≤ rm.cells ∧ n + 6 ≤ rm.slots) (hp : px cls) : V G X c lv k n pc st := by
  intro H locs ls hP hS hl
  obtain ⟨sa, hsa⟩ := h.k.2.2.2 _ hstr
  obtain ⟨hcls, hk, hini, hg1, hg2, hgood⟩ := hT
  rw [show xQ X = _ from hQ]
  refine vx_throwX (sa := sa) h.x h.b h.t nse0 nse1 nse2 nse5 h.o hcls.1 hcls.2 (h.w _ hk) (h.w _ hini) hsa (vx_hat (fun w hw => h.w w (hg1 w hw)) hg2 (fun w hw => ?_)) hgood h.z.1 h.z.2 hS hl.1 d0 d3 d4 d6 d9 (fun x hx => (hN x hx).elim) (by rw [h.r]; exact hR.1) (by rw [h.r]; exact hR.2.1) (by rw [h.r]; exact hR.2.2.1) (by rw [h.r]; exact hR.2.2.2) h.l (fun t hW hz hk => ⟨hp, ?_, ?_⟩) hS.2.2 hR.2.2.1 hR.2.2.2
  · have h1 := nwW_ok w hw
    have h2 := h.k.2.1 w hw
    cases w <;> first | exact Bool.noConfusion (show false = true from h1) | exact va_Nw.use rfl h2
  · exact va_P.kept hP (fun j q hj => hk q.1 (vx_lt hP hj))
  · exact ⟨Nat.le_trans hS.1 hz, fun q h1 h2 => (hk q (Nat.lt_of_lt_of_le h1 hS.1)).trans (hS.2.1 q h1 h2)⟩
set_option maxRecDepth 100000 in
set_option maxHeartbeats 4000000 in
/-- X3_cut -/
theorem c_X3_cut {G : GG} {l : Launch} {c : CC} (hG : InjG G) (hl0 : l.stackTraces = false) {σ : St} (hc : Cls G c σ) (x : Int32) : MC G l yX3_cut (.code yX3_cut cX3_cut 3 (some .int) :: gws) (rmF 7 8 48 116) [.ref (G.1 0), .int x] c (pI (fQ G c (f_cut σ x))) (pxE (f_cut σ x) [eIO, eNE]) := by
  refine MC.of (by decide) hl0 hG (Nat.le_of_ble_eq_true rfl) (fun X hX h hN hQ hr => ?_)
  subst hX
  refine r_aload_n h 0 rfl rfl dX3_cut_0 ?_
  refine r_iload_n h 1 rfl rfl dX3_cut_1 ?_
  refine r_cV h k_X3_34 (i := 0) (As := [.int x]) (rest := []) (c_X3_sourceAt h.i h.t hc x) (by omega) hc.o rfl rfl rfl (Nat.le_of_ble_eq_true rfl) ⟨by decide, by decide, by decide, by decide⟩ dX3_cut_2 (fun E hE => VX.out h hN hQ ⟨by decide, by decide⟩ (by obtain ⟨rfl, hE⟩ := hE; exact pxE.mk 0 (by simp [f_cut, opn, hE]) rfl)) (fun v1 c2 p3 => ?_)
  obtain ⟨r, rfl, j, hj, rfl, rfl, rfl⟩ := p3
  have hLj := hc.rl hj
  have hLlj := hLj.1
  refine r_astore_n h ([(2, .ref (G.1 (3 + 2 * j))), (0, .ref (G.1 0)), (1, .int (nI j))]) rfl dX3_cut_5 (by decide) rfl ?_
  refine r_aload_n h 0 rfl rfl dX3_cut_6 ?_
  refine r_cV h k_X3_42 (i := 3 + 2 * j) (As := []) (rest := []) (c_X0_size h.i h.t (by omega) (hc.row hj)) (by omega) (hc.row hj).1 rfl rfl rfl (Nat.le_of_ble_eq_true rfl) ⟨by decide, by decide, by decide, by decide⟩ dX3_cut_7 (fun _ z => z.elim) (fun v4 c5 p6 => ?_)
  obtain ⟨r, rfl, rfl, rfl⟩ := p6
  refine rn_if_ne h (a := (σ.1 j).length) (by omega) 23 dX3_cut_10 (by decide) (fun z => ?_) (fun z => ?_)
  · have hpos : 0 < (σ.1 j).length := by omega
    refine r_aload_n h 0 rfl rfl dX3_cut_23 ?_
    refine r_cV h k_X3_63 (i := 3 + 2 * j) (As := []) (rest := []) (c_X0_takeLast h.i h.t (by omega) (hc.row hj) hpos) (by omega) (hc.row hj).1 rfl rfl rfl (Nat.le_of_ble_eq_true rfl) ⟨by decide, by decide, by decide, by decide⟩ dX3_cut_24 (fun _ z => z.elim) (fun v10 c7 p11 => ?_)
    obtain ⟨r, rfl, w8, rfl, k9⟩ := p11
    exact r_iret h hQ hr dX3_cut_27 ⟨by decide, by decide⟩ ⟨_, rfl, fQ.of (show f_cut σ (nI j) = (0, (σ.1 j).getD ((σ.1 j).length - 1) 0, stS σ j (σ.1 j).dropLast) by simp [f_cut, opn, ixB_yes hj, ixN_nI hj, hpos]) (rfl) (hc.setRow hj (fun y a _ => k9 y a) w8 ⟨by rw [List.length_dropLast]; omega, allB_init (hc.rl hj).2⟩) (fun y hy => (k9 y (by omega)))⟩
  · exact r_throwX h hN hQ th5 (List.mem_of_getElem? (i := 4) rfl) dX3_cut_13 dX3_cut_16 dX3_cut_17 dX3_cut_19 dX3_cut_22 ⟨by decide, Nat.le_of_ble_eq_true rfl, by decide, by decide⟩ (pxE.mk 1 (by simp [f_cut, ixB_yes hj, ixN_nI hj, z]) rfl)
