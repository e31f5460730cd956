/-! THE MODEL: its calls, two -/
set_option maxRecDepth 100000 in
set_option maxHeartbeats 4000000 in
/-- X4_canMark -/
theorem c_X4_canMark {G : GG} {l : Launch} {c : CC} (hG : InjG G) (hl0 : l.stackTraces = false) {σ : St} {th : Int32} (hm : Mdl G c σ th) (hB : Bnd σ) (hM : okM σ) (x : Int32) : MC G l yX4_canMark (.code yX4_canMark cX4_canMark 2 (some .boolean) :: gws) (rmF 2 0 0 44) [.ref (G.1 33), .int x] c (pI (mQ G c (f_canMark σ x))) (pF) := by
  refine MC.of (by decide) hl0 hG (Nat.le_of_ble_eq_true rfl) (fun X hX h hN hQ hr => ?_)
  subst hX
  refine r_aload_n h 0 rfl rfl dX4_canMark_0 ?_
  refine r_iload_n h 1 rfl rfl dX4_canMark_1 ?_
  refine r_cV h k_X4_63 (i := 33) (As := [.int x]) (rest := []) (c_X4_isNo h.i h.t hm x) (by omega) hm.o rfl rfl rfl (Nat.le_of_ble_eq_true rfl) ⟨by decide, by decide, by decide, by decide⟩ dX4_canMark_2 (fun _ z => z.elim) (fun v4 c1 p5 => ?_)
  obtain ⟨r, rfl, rfl, hm2, k3⟩ := p5
  refine rb_if_ne h 33 dX4_canMark_5 (by decide) (fun u6 => ?_) (fun u6 => ?_)
  · have hm7 : Mdl G c1 σ (nI 1) := by rw [if_pos u6] at hm2; exact hm2
    refine r_iconst h (v := nI 0) (by decide) dX4_canMark_33 ?_
    exact r_zret h hQ hr (by decide) dX4_canMark_34 ⟨by decide, by decide⟩ ⟨_, rfl, mQ.of (show f_canMark σ x = (1, 0, σ) by simp [f_canMark, opn, u6]) (fun z => absurd z (by decide)) (hm7) (hM) (fun y hy => (k3 y (by omega)))⟩
  · have hm7 : Mdl G c1 σ (nI 0) := by rw [if_neg u6] at hm2; exact hm2
    obtain ⟨j, hj, rfl⟩ := ixB_ix u6
    refine r_aload_n h 0 rfl rfl dX4_canMark_8 ?_
    refine r_iload_n h 1 rfl rfl dX4_canMark_9 ?_
    refine r_iconst h (v := nI 2) (by decide) dX4_canMark_10 ?_
    refine r_cV h k_X4_108 (i := 33) (As := [.int (nI j), .int (nI 2)]) (rest := []) (c_X4_isShut h.i h.t hm7 hj (nI 2)) (by omega) hm7.o rfl rfl rfl (Nat.le_of_ble_eq_true rfl) ⟨by decide, by decide, by decide, by decide⟩ dX4_canMark_11 (fun _ z => z.elim) (fun v11 c8 p12 => ?_)
    obtain ⟨r, rfl, rfl, hm9, k10⟩ := p12
    refine rb_if_ne h 33 dX4_canMark_14 (by decide) (fun hs13 => ?_) (fun hs13 => ?_)
    · have hm14 : Mdl G c8 σ (nI 2) := by rw [if_pos hs13] at hm9; exact hm9
      refine r_iconst h (v := nI 0) (by decide) dX4_canMark_33 ?_
      exact r_zret h hQ hr (by decide) dX4_canMark_34 ⟨by decide, by decide⟩ ⟨_, rfl, mQ.of (show f_canMark σ (nI j) = (2, 0, σ) by simp [f_canMark, opn, ixB_yes hj, ixN_nI hj, hs13]) (fun z => absurd z (by decide)) (hm14) (hM) (fun y hy => ((k10 y (by omega)).trans (k3 y (by omega))))⟩
    · have hm14 : Mdl G c8 σ (nI 0) := by rw [if_neg hs13] at hm9; exact hm9
      refine r_aload_n h 0 rfl rfl dX4_canMark_17 ?_
      refine r_getf h F_X4_19 (i := 33) (by omega) hm14.o rfl dX4_canMark_18 ?_
      refine r_iload_n h 1 rfl rfl dX4_canMark_21 ?_
      obtain ⟨f15, e16, q17⟩ := hm14.a37
      refine r_iald h (i := 37) (by omega) e16 (x := j) (by omega) (by decide) dX4_canMark_22 ?_
      have z18 : f15 (j) = sK (σ.2.2 j) := q17 j hj
      rw [z18]
      refine r_cS h k_X4_118 (As := [.int (sK (σ.2.2 j))]) (rest := []) (c_X4_canGoBack h.i h.t (sK (σ.2.2 j))) rfl rfl (Nat.le_of_ble_eq_true rfl) ⟨by decide, by decide, by decide, by decide⟩ dX4_canMark_23 (fun _ z => z.elim) (fun v19 c20 p21 => ?_)
      obtain ⟨r, rfl, rfl, rfl⟩ := p21
      refine rb_if_eq h 33 dX4_canMark_26 (by decide) (fun b22 => ?_) (fun b22 => ?_)
      · refine r_iconst h (v := nI 0) (by decide) dX4_canMark_33 ?_
        exact r_zret h hQ hr (by decide) dX4_canMark_34 ⟨by decide, by decide⟩ ⟨_, rfl, mQ.of (show f_canMark σ (nI j) = (0, 0, σ) by simp [f_canMark, opn, ixB_yes hj, ixN_nI hj, hs13, b22]) (fun _ => rfl) (hm14) (hM) (fun y hy => ((k10 y (by omega)).trans (k3 y (by omega))))⟩
      · refine r_iconst h (v := nI 1) (by decide) dX4_canMark_29 ?_
        refine r_goto h 34 dX4_canMark_30 (by decide) ?_
        exact r_zret h hQ hr (by decide) dX4_canMark_34 ⟨by decide, by decide⟩ ⟨_, rfl, mQ.of (show f_canMark σ (nI j) = (0, 1, σ) by simp [f_canMark, opn, ixB_yes hj, ixN_nI hj, hs13, b22]) (fun _ => rfl) (hm14) (hM) (fun y hy => ((k10 y (by omega)).trans (k3 y (by omega))))⟩
set_option maxRecDepth 100000 in
set_option maxHeartbeats 4000000 in
/-- X4_mark -/
theorem c_X4_mark {G : GG} {l : Launch} {c : CC} (hG : InjG G) (hl0 : l.stackTraces = false) {σ : St} {th : Int32} (hm : Mdl G c σ th) (hB : Bnd σ) (hM : okM σ) (x : Int32) : MC G l yX4_mark (.code yX4_mark cX4_mark 2 (some .int) :: gws) (rmF 2 0 0 43) [.ref (G.1 33), .int x] c (pI (mQ G c (f_mark σ x))) (pF) := by
  refine MC.of (by decide) hl0 hG (Nat.le_of_ble_eq_true rfl) (fun X hX h hN hQ hr => ?_)
  subst hX
  refine r_aload_n h 0 rfl rfl dX4_mark_0 ?_
  refine r_iload_n h 1 rfl rfl dX4_mark_1 ?_
  refine r_cV h k_X4_63 (i := 33) (As := [.int x]) (rest := []) (c_X4_isNo h.i h.t hm x) (by omega) hm.o rfl rfl rfl (Nat.le_of_ble_eq_true rfl) ⟨by decide, by decide, by decide, by decide⟩ dX4_mark_2 (fun _ z => z.elim) (fun v4 c1 p5 => ?_)
  obtain ⟨r, rfl, rfl, hm2, k3⟩ := p5
  refine rb_if_ne h 33 dX4_mark_5 (by decide) (fun u6 => ?_) (fun u6 => ?_)
  · have hm7 : Mdl G c1 σ (nI 1) := by rw [if_pos u6] at hm2; exact hm2
    refine r_iconst h (v := nI 0) (by decide) dX4_mark_33 ?_
    exact r_iret h hQ hr dX4_mark_34 ⟨by decide, by decide⟩ ⟨_, rfl, mQ.of (show f_mark σ x = (1, 0, σ) by simp [f_mark, opn, u6]) (fun z => absurd z (by decide)) (hm7) (hM) (fun y hy => (k3 y (by omega)))⟩
  · have hm7 : Mdl G c1 σ (nI 0) := by rw [if_neg u6] at hm2; exact hm2
    obtain ⟨j, hj, rfl⟩ := ixB_ix u6
    refine r_aload_n h 0 rfl rfl dX4_mark_8 ?_
    refine r_aload_n h 0 rfl rfl dX4_mark_9 ?_
    refine r_getf h F_X4_19 (i := 33) (by omega) hm7.o rfl dX4_mark_10 ?_
    refine r_iload_n h 1 rfl rfl dX4_mark_13 ?_
    obtain ⟨f8, e9, q10⟩ := hm7.a37
    refine r_iald h (i := 37) (by omega) e9 (x := j) (by omega) (by decide) dX4_mark_14 ?_
    have z11 : f8 (j) = sK (σ.2.2 j) := q10 j hj
    rw [z11]
    refine r_cS h k_X4_118 (As := [.int (sK (σ.2.2 j))]) (rest := [.ref (G.1 33)]) (c_X4_canGoBack h.i h.t (sK (σ.2.2 j))) rfl rfl (Nat.le_of_ble_eq_true rfl) ⟨by decide, by decide, by decide, by decide⟩ dX4_mark_15 (fun _ z => z.elim) (fun v12 c13 p14 => ?_)
    obtain ⟨r, rfl, rfl, rfl⟩ := p14
    refine rb_if_ne h 25 dX4_mark_18 (by decide) (fun hb15 => ?_) (fun hb15 => ?_)
    · refine r_iconst h (v := nI 0) (by decide) dX4_mark_25 ?_
      refine r_iconst h (v := nI 2) (by decide) dX4_mark_26 ?_
      refine r_cV h k_X4_59 (i := 33) (As := [.int (nI 0), .int (nI 2)]) (rest := []) (c_X4_isThrown h.i h.t hm7 (nI 0) (nI 2) (nI 0) (by decide) (by decide)) (by omega) hm7.o rfl rfl rfl (Nat.le_of_ble_eq_true rfl) ⟨by decide, by decide, by decide, by decide⟩ dX4_mark_27 (fun _ z => z.elim) (fun v25 c22 p26 => ?_)
      obtain ⟨r, rfl, rfl, hm23, k24⟩ := p26
      refine rn_if_eq h (a := 0) (by omega) 35 dX4_mark_30 (by decide) (fun u27 => ?_) (fun u27 => ?_)
      · have hop : ¬ sK (σ.2.2 j) = -1 := fun z => by rw [z] at hb15; exact absurd hb15 (by decide)
        have hm23 := hm23.inT j
        have g28 := hm23.o
        obtain ⟨f41, e41, q41⟩ := hm23.a41
        obtain ⟨f42, e42, q42⟩ := hm23.a42
        obtain ⟨f44, e44, q44⟩ := hm23.a44
        obtain ⟨f45, e45, q45⟩ := hm23.a45
        obtain ⟨f46, e46, q46⟩ := hm23.a46
        refine r_aload_n h 0 rfl rfl dX4_mark_35 ?_
        refine r_getf h F_X4_41 (i := 33) (by omega) g28 rfl dX4_mark_36 ?_
        refine r_iload_n h 1 rfl rfl dX4_mark_39 ?_
        refine r_iconst h (v := nI 1) (by decide) dX4_mark_40 ?_
        refine r_zast h (i := 44) (by omega) e44 (x := j) (by omega) (by decide) dX4_mark_41 (fun c29 h30 k31 => ?_)
        have g32 := (k31 (33) (by omega)).trans g28
        have g33 := (k31 (41) (by omega)).trans e41
        have g34 := (k31 (42) (by omega)).trans e42
        have g35 := (k31 (45) (by omega)).trans e45
        have g36 := (k31 (46) (by omega)).trans e46
        refine r_aload_n h 0 rfl rfl dX4_mark_42 ?_
        refine r_getf h F_X4_45 (i := 33) (by omega) g32 rfl dX4_mark_43 ?_
        refine r_iload_n h 1 rfl rfl dX4_mark_46 ?_
        refine r_aload_n h 0 rfl rfl dX4_mark_47 ?_
        refine r_getf h F_X4_31 (i := 33) (by omega) g32 rfl dX4_mark_48 ?_
        refine r_iload_n h 1 rfl rfl dX4_mark_51 ?_
        refine r_iald h (i := 41) (by omega) g33 (x := j) (by omega) (by decide) dX4_mark_52 ?_
        refine r_iast h (i := 45) (by omega) g35 (x := j) (by omega) (by decide) dX4_mark_53 (fun c37 h38 k39 => ?_)
        have g40 := (k39 (33) (by omega)).trans g32
        have g41 := (k39 (41) (by omega)).trans g33
        have g42 := (k39 (42) (by omega)).trans g34
        have g43 := (k39 (46) (by omega)).trans g36
        have g44 := (k39 (44) (by omega)).trans h30
        refine r_aload_n h 0 rfl rfl dX4_mark_54 ?_
        refine r_getf h F_X4_48 (i := 33) (by omega) g40 rfl dX4_mark_55 ?_
        refine r_iload_n h 1 rfl rfl dX4_mark_58 ?_
        refine r_aload_n h 0 rfl rfl dX4_mark_59 ?_
        refine r_getf h F_X4_34 (i := 33) (by omega) g40 rfl dX4_mark_60 ?_
        refine r_iload_n h 1 rfl rfl dX4_mark_63 ?_
        refine r_iald h (i := 42) (by omega) g42 (x := j) (by omega) (by decide) dX4_mark_64 ?_
        refine r_iast h (i := 46) (by omega) g43 (x := j) (by omega) (by decide) dX4_mark_65 (fun c45 h46 k47 => ?_)
        have g48 := (k47 (33) (by omega)).trans g40
        have g49 := (k47 (41) (by omega)).trans g41
        have g50 := (k47 (42) (by omega)).trans g42
        have g51 := (k47 (44) (by omega)).trans g44
        have g52 := (k47 (45) (by omega)).trans h38
        refine r_aload_n h 0 rfl rfl dX4_mark_66 ?_
        refine r_iload_n h 1 rfl rfl dX4_mark_67 ?_
        have z41 : f41 j = nI (sP (σ.2.2 j)) := (q41 j hj).trans (by rw [stT_at])
        have z42 : f42 j = sN (σ.2.2 j) := (q42 j hj).trans (by rw [stT_at])
        have hm9 := hm23.uX hj (p := sP (σ.2.2 j)) (n := sN (σ.2.2 j)) (c' := c45) q44 g51 q45 (by rw [← z41]; exact g52) q46 (by rw [← z42]; exact h46) (fun y a b d => ((k47 y d).trans (k39 y b)).trans (k31 y a))
        refine r_cV h k_X4_121 (i := 33) (As := [.int (nI j)]) (rest := []) (c_X4_lineOf h.i h.t hj hm9) (by omega) hm9.o rfl rfl rfl (Nat.le_of_ble_eq_true rfl) ⟨by decide, by decide, by decide, by decide⟩ dX4_mark_68 (fun _ z => z.elim) (fun v53 c54 p55 => ?_)
        obtain ⟨r, rfl, rfl, rfl⟩ := p55
        exact r_iret h hQ hr dX4_mark_71 ⟨by decide, by decide⟩ ⟨_, rfl, mQ.of (show f_mark σ (nI j) = (0, shL (σ.2.2 j), stT σ j (pMk (σ.2.2 j))) by simp [f_mark, opn, ixB_yes hj, ixN_nI hj, hb15, hop]) (fun _ => rfl) (hm9) (hM.set (fun _ _ _ => hb15)) (fun y hy => (((((k47 y (by omega)).trans (k39 y (by omega))).trans (k31 y (by omega))).trans (k24 y (by omega))).trans (k3 y (by omega))))⟩
      · exact absurd u27 (by decide)
    · refine r_iconst h (v := nI 1) (by decide) dX4_mark_21 ?_
      refine r_goto h 26 dX4_mark_22 (by decide) ?_
      refine r_iconst h (v := nI 2) (by decide) dX4_mark_26 ?_
      refine r_cV h k_X4_59 (i := 33) (As := [.int (nI 1), .int (nI 2)]) (rest := []) (c_X4_isThrown h.i h.t hm7 (nI 1) (nI 2) (nI 2) (by decide) (by decide)) (by omega) hm7.o rfl rfl rfl (Nat.le_of_ble_eq_true rfl) ⟨by decide, by decide, by decide, by decide⟩ dX4_mark_27 (fun _ z => z.elim) (fun v19 c16 p20 => ?_)
      obtain ⟨r, rfl, rfl, hm17, k18⟩ := p20
      refine rn_if_eq h (a := 1) (by omega) 35 dX4_mark_30 (by decide) (fun u21 => ?_) (fun u21 => ?_)
      · exact absurd u21 (by decide)
      · refine r_iconst h (v := nI 0) (by decide) dX4_mark_33 ?_
        exact r_iret h hQ hr dX4_mark_34 ⟨by decide, by decide⟩ ⟨_, rfl, mQ.of (show f_mark σ (nI j) = (2, 0, σ) by simp [f_mark, opn, ixB_yes hj, ixN_nI hj, hb15]) (fun z => absurd z (by decide)) (hm17) (hM) (fun y hy => ((k18 y (by omega)).trans (k3 y (by omega))))⟩
set_option maxRecDepth 100000 in
set_option maxHeartbeats 4000000 in
/-- X4_left -/
theorem c_X4_left {G : GG} {l : Launch} {c : CC} (hG : InjG G) (hl0 : l.stackTraces = false) {σ : St} {th : Int32} (hm : Mdl G c σ th) (hB : Bnd σ) (hM : okM σ) (x : Int32) : MC G l yX4_left (.code yX4_left cX4_left 2 (some .int) :: gws) (rmF 2 0 0 43) [.ref (G.1 33), .int x] c (pI (mQ G c (f_left σ x))) (pF) := by
  refine MC.of (by decide) hl0 hG (Nat.le_of_ble_eq_true rfl) (fun X hX h hN hQ hr => ?_)
  subst hX
  refine r_aload_n h 0 rfl rfl dX4_left_0 ?_
  refine r_iload_n h 1 rfl rfl dX4_left_1 ?_
  refine r_cV h k_X4_63 (i := 33) (As := [.int x]) (rest := []) (c_X4_isNo h.i h.t hm x) (by omega) hm.o rfl rfl rfl (Nat.le_of_ble_eq_true rfl) ⟨by decide, by decide, by decide, by decide⟩ dX4_left_2 (fun _ z => z.elim) (fun v4 c1 p5 => ?_)
  obtain ⟨r, rfl, rfl, hm2, k3⟩ := p5
  refine rb_if_ne h 50 dX4_left_5 (by decide) (fun u6 => ?_) (fun u6 => ?_)
  · have hm7 : Mdl G c1 σ (nI 1) := by rw [if_pos u6] at hm2; exact hm2
    refine r_iconst h (v := nI 0) (by decide) dX4_left_50 ?_
    exact r_iret h hQ hr dX4_left_51 ⟨by decide, by decide⟩ ⟨_, rfl, mQ.of (show f_left σ x = (1, 0, σ) by simp [f_left, opn, u6]) (fun z => absurd z (by decide)) (hm7) (hM) (fun y hy => (k3 y (by omega)))⟩
  · have hm7 : Mdl G c1 σ (nI 0) := by rw [if_neg u6] at hm2; exact hm2
    obtain ⟨j, hj, rfl⟩ := ixB_ix u6
    have hos := hB.2.2 j hj
    refine r_aload_n h 0 rfl rfl dX4_left_8 ?_
    refine r_aload_n h 0 rfl rfl dX4_left_9 ?_
    refine r_getf h F_X4_19 (i := 33) (by omega) hm7.o rfl dX4_left_10 ?_
    refine r_iload_n h 1 rfl rfl dX4_left_13 ?_
    obtain ⟨f8, e9, q10⟩ := hm7.a37
    refine r_iald h (i := 37) (by omega) e9 (x := j) (by omega) (by decide) dX4_left_14 ?_
    have z11 : f8 (j) = sK (σ.2.2 j) := q10 j hj
    rw [z11]
    refine r_if_eq h 42 dX4_left_15 (by decide) (fun z12 => ?_) (fun z12 => ?_)
    · have hg : gbU (sK (σ.2.2 j)) = true := by rw [z12]; decide
      have hop : ¬ sK (σ.2.2 j) = -1 := fun z => by rw [z] at hg; exact absurd hg (by decide)
      refine r_iconst h (v := nI 0) (by decide) dX4_left_42 ?_
      refine r_iconst h (v := nI 2) (by decide) dX4_left_43 ?_
      refine r_cV h k_X4_59 (i := 33) (As := [.int (nI 0), .int (nI 2)]) (rest := []) (c_X4_isThrown h.i h.t hm7 (nI 0) (nI 2) (nI 0) (by decide) (by decide)) (by omega) hm7.o rfl rfl rfl (Nat.le_of_ble_eq_true rfl) ⟨by decide, by decide, by decide, by decide⟩ dX4_left_44 (fun _ z => z.elim) (fun v16 c13 p17 => ?_)
      obtain ⟨r, rfl, rfl, hm14, k15⟩ := p17
      refine rn_if_eq h (a := 0) (by omega) 52 dX4_left_47 (by decide) (fun u18 => ?_) (fun u18 => ?_)
      · refine r_aload_n h 0 rfl rfl dX4_left_52 ?_
        refine r_iload_n h 1 rfl rfl dX4_left_53 ?_
        have hm14 := hm14.inT j
        refine r_cV h k_X4_98 (i := 33) (As := [.int (nI j)]) (rest := []) (c_X4_leftOf h.i h.t hj hm14 hos.1.1) (by omega) hm14.o rfl rfl rfl (Nat.le_of_ble_eq_true rfl) ⟨by decide, by decide, by decide, by decide⟩ dX4_left_54 (fun _ z => z.elim) (fun v19 c20 p21 => ?_)
        obtain ⟨r, rfl, rfl, rfl⟩ := p21
        exact r_iret h hQ hr dX4_left_57 ⟨by decide, by decide⟩ ⟨_, rfl, mQ.of (show f_left σ (nI j) = (0, nI ((sO (σ.2.2 j)).length - sP (σ.2.2 j)), σ) by simp [f_left, opn, ixB_yes hj, ixN_nI hj, hg, hop]) (fun _ => rfl) (hm14.eq (stT_id σ j)) (hM) (fun y hy => ((k15 y (by omega)).trans (k3 y (by omega))))⟩
      · exact absurd u18 (by decide)
    · refine r_aload_n h 0 rfl rfl dX4_left_18 ?_
      refine r_getf h F_X4_19 (i := 33) (by omega) hm7.o rfl dX4_left_19 ?_
      refine r_iload_n h 1 rfl rfl dX4_left_22 ?_
      obtain ⟨f22, e23, q24⟩ := hm7.a37
      refine r_iald h (i := 37) (by omega) e23 (x := j) (by omega) (by decide) dX4_left_23 ?_
      have z25 : f22 (j) = sK (σ.2.2 j) := q24 j hj
      rw [z25]
      refine r_iconst h (v := nI 1) (by decide) dX4_left_24 ?_
      refine r_icmp_eq h 42 dX4_left_25 (by decide) (fun z26 => ?_) (fun z26 => ?_)
      · have hg : gbU (sK (σ.2.2 j)) = true := by rw [z26]; decide
        have hop : ¬ sK (σ.2.2 j) = -1 := fun z => by rw [z] at hg; exact absurd hg (by decide)
        refine r_iconst h (v := nI 0) (by decide) dX4_left_42 ?_
        refine r_iconst h (v := nI 2) (by decide) dX4_left_43 ?_
        refine r_cV h k_X4_59 (i := 33) (As := [.int (nI 0), .int (nI 2)]) (rest := []) (c_X4_isThrown h.i h.t hm7 (nI 0) (nI 2) (nI 0) (by decide) (by decide)) (by omega) hm7.o rfl rfl rfl (Nat.le_of_ble_eq_true rfl) ⟨by decide, by decide, by decide, by decide⟩ dX4_left_44 (fun _ z => z.elim) (fun v30 c27 p31 => ?_)
        obtain ⟨r, rfl, rfl, hm28, k29⟩ := p31
        refine rn_if_eq h (a := 0) (by omega) 52 dX4_left_47 (by decide) (fun u32 => ?_) (fun u32 => ?_)
        · refine r_aload_n h 0 rfl rfl dX4_left_52 ?_
          refine r_iload_n h 1 rfl rfl dX4_left_53 ?_
          have hm28 := hm28.inT j
          refine r_cV h k_X4_98 (i := 33) (As := [.int (nI j)]) (rest := []) (c_X4_leftOf h.i h.t hj hm28 hos.1.1) (by omega) hm28.o rfl rfl rfl (Nat.le_of_ble_eq_true rfl) ⟨by decide, by decide, by decide, by decide⟩ dX4_left_54 (fun _ z => z.elim) (fun v33 c34 p35 => ?_)
          obtain ⟨r, rfl, rfl, rfl⟩ := p35
          exact r_iret h hQ hr dX4_left_57 ⟨by decide, by decide⟩ ⟨_, rfl, mQ.of (show f_left σ (nI j) = (0, nI ((sO (σ.2.2 j)).length - sP (σ.2.2 j)), σ) by simp [f_left, opn, ixB_yes hj, ixN_nI hj, hg, hop]) (fun _ => rfl) (hm28.eq (stT_id σ j)) (hM) (fun y hy => ((k29 y (by omega)).trans (k3 y (by omega))))⟩
        · exact absurd u32 (by decide)
      · refine r_aload_n h 0 rfl rfl dX4_left_28 ?_
        refine r_getf h F_X4_19 (i := 33) (by omega) hm7.o rfl dX4_left_29 ?_
        refine r_iload_n h 1 rfl rfl dX4_left_32 ?_
        obtain ⟨f36, e37, q38⟩ := hm7.a37
        refine r_iald h (i := 37) (by omega) e37 (x := j) (by omega) (by decide) dX4_left_33 ?_
        have z39 : f36 (j) = sK (σ.2.2 j) := q38 j hj
        rw [z39]
        refine r_iconst h (v := nI 3) (by decide) dX4_left_34 ?_
        refine r_icmp_eq h 42 dX4_left_35 (by decide) (fun z40 => ?_) (fun z40 => ?_)
        · have hg : gbU (sK (σ.2.2 j)) = true := by rw [z40]; decide
          have hop : ¬ sK (σ.2.2 j) = -1 := fun z => by rw [z] at hg; exact absurd hg (by decide)
          refine r_iconst h (v := nI 0) (by decide) dX4_left_42 ?_
          refine r_iconst h (v := nI 2) (by decide) dX4_left_43 ?_
          refine r_cV h k_X4_59 (i := 33) (As := [.int (nI 0), .int (nI 2)]) (rest := []) (c_X4_isThrown h.i h.t hm7 (nI 0) (nI 2) (nI 0) (by decide) (by decide)) (by omega) hm7.o rfl rfl rfl (Nat.le_of_ble_eq_true rfl) ⟨by decide, by decide, by decide, by decide⟩ dX4_left_44 (fun _ z => z.elim) (fun v44 c41 p45 => ?_)
          obtain ⟨r, rfl, rfl, hm42, k43⟩ := p45
          refine rn_if_eq h (a := 0) (by omega) 52 dX4_left_47 (by decide) (fun u46 => ?_) (fun u46 => ?_)
          · refine r_aload_n h 0 rfl rfl dX4_left_52 ?_
            refine r_iload_n h 1 rfl rfl dX4_left_53 ?_
            have hm42 := hm42.inT j
            refine r_cV h k_X4_98 (i := 33) (As := [.int (nI j)]) (rest := []) (c_X4_leftOf h.i h.t hj hm42 hos.1.1) (by omega) hm42.o rfl rfl rfl (Nat.le_of_ble_eq_true rfl) ⟨by decide, by decide, by decide, by decide⟩ dX4_left_54 (fun _ z => z.elim) (fun v47 c48 p49 => ?_)
            obtain ⟨r, rfl, rfl, rfl⟩ := p49
            exact r_iret h hQ hr dX4_left_57 ⟨by decide, by decide⟩ ⟨_, rfl, mQ.of (show f_left σ (nI j) = (0, nI ((sO (σ.2.2 j)).length - sP (σ.2.2 j)), σ) by simp [f_left, opn, ixB_yes hj, ixN_nI hj, hg, hop]) (fun _ => rfl) (hm42.eq (stT_id σ j)) (hM) (fun y hy => ((k43 y (by omega)).trans (k3 y (by omega))))⟩
          · exact absurd u46 (by decide)
        · have hg : ¬ gbU (sK (σ.2.2 j)) = true := by unfold gbU; rw [decide_eq_true_eq]; exact fun z => z.elim z12 (fun z => z.elim z26 z40)
          refine r_iconst h (v := nI 1) (by decide) dX4_left_38 ?_
          refine r_goto h 43 dX4_left_39 (by decide) ?_
          refine r_iconst h (v := nI 2) (by decide) dX4_left_43 ?_
          refine r_cV h k_X4_59 (i := 33) (As := [.int (nI 1), .int (nI 2)]) (rest := []) (c_X4_isThrown h.i h.t hm7 (nI 1) (nI 2) (nI 2) (by decide) (by decide)) (by omega) hm7.o rfl rfl rfl (Nat.le_of_ble_eq_true rfl) ⟨by decide, by decide, by decide, by decide⟩ dX4_left_44 (fun _ z => z.elim) (fun v53 c50 p54 => ?_)
          obtain ⟨r, rfl, rfl, hm51, k52⟩ := p54
          refine rn_if_eq h (a := 1) (by omega) 52 dX4_left_47 (by decide) (fun u55 => ?_) (fun u55 => ?_)
          · exact absurd u55 (by decide)
          · refine r_iconst h (v := nI 0) (by decide) dX4_left_50 ?_
            exact r_iret h hQ hr dX4_left_51 ⟨by decide, by decide⟩ ⟨_, rfl, mQ.of (show f_left σ (nI j) = (2, 0, σ) by simp [f_left, opn, ixB_yes hj, ixN_nI hj, hg]) (fun z => absurd z (by decide)) (hm51) (hM) (fun y hy => ((k52 y (by omega)).trans (k3 y (by omega))))⟩
set_option maxRecDepth 100000 in
set_option maxHeartbeats 4000000 in
/-- X4_line -/
theorem c_X4_line {G : GG} {l : Launch} {c : CC} (hG : InjG G) (hl0 : l.stackTraces = false) {σ : St} {th : Int32} (hm : Mdl G c σ th) (hB : Bnd σ) (hM : okM σ) (x : Int32) : MC G l yX4_line (.code yX4_line cX4_line 2 (some .int) :: gws) (rmF 2 0 0 43) [.ref (G.1 33), .int x] c (pI (mQ G c (f_line σ x))) (pF) := by
  refine MC.of (by decide) hl0 hG (Nat.le_of_ble_eq_true rfl) (fun X hX h hN hQ hr => ?_)
  subst hX
  refine r_aload_n h 0 rfl rfl dX4_line_0 ?_
  refine r_iload_n h 1 rfl rfl dX4_line_1 ?_
  refine r_cV h k_X4_63 (i := 33) (As := [.int x]) (rest := []) (c_X4_isNo h.i h.t hm x) (by omega) hm.o rfl rfl rfl (Nat.le_of_ble_eq_true rfl) ⟨by decide, by decide, by decide, by decide⟩ dX4_line_2 (fun _ z => z.elim) (fun v4 c1 p5 => ?_)
  obtain ⟨r, rfl, rfl, hm2, k3⟩ := p5
  refine rb_if_ne h 33 dX4_line_5 (by decide) (fun u6 => ?_) (fun u6 => ?_)
  · have hm7 : Mdl G c1 σ (nI 1) := by rw [if_pos u6] at hm2; exact hm2
    refine r_iconst h (v := nI 0) (by decide) dX4_line_33 ?_
    refine r_goto h 43 dX4_line_34 (by decide) ?_
    exact r_iret h hQ hr dX4_line_43 ⟨by decide, by decide⟩ ⟨_, rfl, mQ.of (show f_line σ x = (1, 0, σ) by simp [f_line, opn, u6]) (fun z => absurd z (by decide)) (hm7) (hM) (fun y hy => (k3 y (by omega)))⟩
  · have hm7 : Mdl G c1 σ (nI 0) := by rw [if_neg u6] at hm2; exact hm2
    obtain ⟨j, hj, rfl⟩ := ixB_ix u6
    refine r_aload_n h 0 rfl rfl dX4_line_8 ?_
    refine r_aload_n h 0 rfl rfl dX4_line_9 ?_
    refine r_getf h F_X4_19 (i := 33) (by omega) hm7.o rfl dX4_line_10 ?_
    refine r_iload_n h 1 rfl rfl dX4_line_13 ?_
    obtain ⟨f8, e9, q10⟩ := hm7.a37
    refine r_iald h (i := 37) (by omega) e9 (x := j) (by omega) (by decide) dX4_line_14 ?_
    have z11 : f8 (j) = sK (σ.2.2 j) := q10 j hj
    rw [z11]
    refine r_cS h k_X4_82 (As := [.int (sK (σ.2.2 j))]) (rest := [.ref (G.1 33)]) (c_X4_hasLine h.i h.t (sK (σ.2.2 j))) rfl rfl (Nat.le_of_ble_eq_true rfl) ⟨by decide, by decide, by decide, by decide⟩ dX4_line_15 (fun _ z => z.elim) (fun v12 c13 p14 => ?_)
    obtain ⟨r, rfl, rfl, rfl⟩ := p14
    refine rb_if_ne h 25 dX4_line_18 (by decide) (fun hb15 => ?_) (fun hb15 => ?_)
    · refine r_iconst h (v := nI 0) (by decide) dX4_line_25 ?_
      refine r_iconst h (v := nI 2) (by decide) dX4_line_26 ?_
      refine r_cV h k_X4_59 (i := 33) (As := [.int (nI 0), .int (nI 2)]) (rest := []) (c_X4_isThrown h.i h.t hm7 (nI 0) (nI 2) (nI 0) (by decide) (by decide)) (by omega) hm7.o rfl rfl rfl (Nat.le_of_ble_eq_true rfl) ⟨by decide, by decide, by decide, by decide⟩ dX4_line_27 (fun _ z => z.elim) (fun v25 c22 p26 => ?_)
      obtain ⟨r, rfl, rfl, hm23, k24⟩ := p26
      refine rn_if_eq h (a := 0) (by omega) 37 dX4_line_30 (by decide) (fun u27 => ?_) (fun u27 => ?_)
      · have hop : ¬ sK (σ.2.2 j) = -1 := fun z => by rw [z] at hb15; exact absurd hb15 (by decide)
        refine r_aload_n h 0 rfl rfl dX4_line_37 ?_
        refine r_getf h F_X4_34 (i := 33) (by omega) hm23.o rfl dX4_line_38 ?_
        refine r_iload_n h 1 rfl rfl dX4_line_41 ?_
        obtain ⟨f28, e29, q30⟩ := hm23.a42
        refine r_iald h (i := 42) (by omega) e29 (x := j) (by omega) (by decide) dX4_line_42 ?_
        have z31 : f28 (j) = sN (σ.2.2 j) := q30 j hj
        rw [z31]
        exact r_iret h hQ hr dX4_line_43 ⟨by decide, by decide⟩ ⟨_, rfl, mQ.of (show f_line σ (nI j) = (0, sN (σ.2.2 j), σ) by simp [f_line, opn, ixB_yes hj, ixN_nI hj, hb15, hop]) (fun _ => rfl) (hm23) (hM) (fun y hy => ((k24 y (by omega)).trans (k3 y (by omega))))⟩
      · exact absurd u27 (by decide)
    · refine r_iconst h (v := nI 1) (by decide) dX4_line_21 ?_
      refine r_goto h 26 dX4_line_22 (by decide) ?_
      refine r_iconst h (v := nI 2) (by decide) dX4_line_26 ?_
      refine r_cV h k_X4_59 (i := 33) (As := [.int (nI 1), .int (nI 2)]) (rest := []) (c_X4_isThrown h.i h.t hm7 (nI 1) (nI 2) (nI 2) (by decide) (by decide)) (by omega) hm7.o rfl rfl rfl (Nat.le_of_ble_eq_true rfl) ⟨by decide, by decide, by decide, by decide⟩ dX4_line_27 (fun _ z => z.elim) (fun v19 c16 p20 => ?_)
      obtain ⟨r, rfl, rfl, hm17, k18⟩ := p20
      refine rn_if_eq h (a := 1) (by omega) 37 dX4_line_30 (by decide) (fun u21 => ?_) (fun u21 => ?_)
      · exact absurd u21 (by decide)
      · refine r_iconst h (v := nI 0) (by decide) dX4_line_33 ?_
        refine r_goto h 43 dX4_line_34 (by decide) ?_
        exact r_iret h hQ hr dX4_line_43 ⟨by decide, by decide⟩ ⟨_, rfl, mQ.of (show f_line σ (nI j) = (2, 0, σ) by simp [f_line, opn, ixB_yes hj, ixN_nI hj, hb15]) (fun z => absurd z (by decide)) (hm17) (hM) (fun y hy => ((k18 y (by omega)).trans (k3 y (by omega))))⟩
set_option maxRecDepth 100000 in
set_option maxHeartbeats 4000000 in
/-- X4_setLine -/
theorem c_X4_setLine {G : GG} {l : Launch} {c : CC} (hG : InjG G) (hl0 : l.stackTraces = false) {σ : St} {th : Int32} (hm : Mdl G c σ th) (hB : Bnd σ) (hM : okM σ) (x m0 : Int32) : MC G l yX4_setLine (.code yX4_setLine cX4_setLine 4 (some .int) :: gws) (rmF 2 0 0 43) [.ref (G.1 33), .int x, .int m0] c (pI (mQ G c (f_setLine σ x m0))) (pF) := by
  refine MC.of (by decide) hl0 hG (Nat.le_of_ble_eq_true rfl) (fun X hX h hN hQ hr => ?_)
  subst hX
  refine r_aload_n h 0 rfl rfl dX4_setLine_0 ?_
  refine r_iload_n h 1 rfl rfl dX4_setLine_1 ?_
  refine r_cV h k_X4_63 (i := 33) (As := [.int x]) (rest := []) (c_X4_isNo h.i h.t hm x) (by omega) hm.o rfl rfl rfl (Nat.le_of_ble_eq_true rfl) ⟨by decide, by decide, by decide, by decide⟩ dX4_setLine_2 (fun _ z => z.elim) (fun v4 c1 p5 => ?_)
  obtain ⟨r, rfl, rfl, hm2, k3⟩ := p5
  refine rb_if_ne h 33 dX4_setLine_5 (by decide) (fun u6 => ?_) (fun u6 => ?_)
  · have hm7 : Mdl G c1 σ (nI 1) := by rw [if_pos u6] at hm2; exact hm2
    refine r_iconst h (v := nI 0) (by decide) dX4_setLine_33 ?_
    exact r_iret h hQ hr dX4_setLine_34 ⟨by decide, by decide⟩ ⟨_, rfl, mQ.of (show f_setLine σ x m0 = (1, 0, σ) by simp [f_setLine, opn, u6]) (fun z => absurd z (by decide)) (hm7) (hM) (fun y hy => (k3 y (by omega)))⟩
  · have hm7 : Mdl G c1 σ (nI 0) := by rw [if_neg u6] at hm2; exact hm2
    obtain ⟨j, hj, rfl⟩ := ixB_ix u6
    refine r_aload_n h 0 rfl rfl dX4_setLine_8 ?_
    refine r_aload_n h 0 rfl rfl dX4_setLine_9 ?_
    refine r_getf h F_X4_19 (i := 33) (by omega) hm7.o rfl dX4_setLine_10 ?_
    refine r_iload_n h 1 rfl rfl dX4_setLine_13 ?_
    obtain ⟨f8, e9, q10⟩ := hm7.a37
    refine r_iald h (i := 37) (by omega) e9 (x := j) (by omega) (by decide) dX4_setLine_14 ?_
    have z11 : f8 (j) = sK (σ.2.2 j) := q10 j hj
    rw [z11]
    refine r_cS h k_X4_82 (As := [.int (sK (σ.2.2 j))]) (rest := [.ref (G.1 33)]) (c_X4_hasLine h.i h.t (sK (σ.2.2 j))) rfl rfl (Nat.le_of_ble_eq_true rfl) ⟨by decide, by decide, by decide, by decide⟩ dX4_setLine_15 (fun _ z => z.elim) (fun v12 c13 p14 => ?_)
    obtain ⟨r, rfl, rfl, rfl⟩ := p14
    refine rb_if_ne h 25 dX4_setLine_18 (by decide) (fun hb15 => ?_) (fun hb15 => ?_)
    · refine r_iconst h (v := nI 0) (by decide) dX4_setLine_25 ?_
      refine r_iconst h (v := nI 2) (by decide) dX4_setLine_26 ?_
      refine r_cV h k_X4_59 (i := 33) (As := [.int (nI 0), .int (nI 2)]) (rest := []) (c_X4_isThrown h.i h.t hm7 (nI 0) (nI 2) (nI 0) (by decide) (by decide)) (by omega) hm7.o rfl rfl rfl (Nat.le_of_ble_eq_true rfl) ⟨by decide, by decide, by decide, by decide⟩ dX4_setLine_27 (fun _ z => z.elim) (fun v25 c22 p26 => ?_)
      obtain ⟨r, rfl, rfl, hm23, k24⟩ := p26
      refine rn_if_eq h (a := 0) (by omega) 35 dX4_setLine_30 (by decide) (fun u27 => ?_) (fun u27 => ?_)
      · have hop : ¬ sK (σ.2.2 j) = -1 := fun z => by rw [z] at hb15; exact absurd hb15 (by decide)
        refine r_aload_n h 0 rfl rfl dX4_setLine_35 ?_
        refine r_getf h F_X4_34 (i := 33) (by omega) hm23.o rfl dX4_setLine_36 ?_
        refine r_iload_n h 1 rfl rfl dX4_setLine_39 ?_
        obtain ⟨f28, e29, q30⟩ := hm23.a42
        refine r_iald h (i := 42) (by omega) e29 (x := j) (by omega) (by decide) dX4_setLine_40 ?_
        have z31 : f28 (j) = sN (σ.2.2 j) := q30 j hj
        rw [z31]
        refine r_istore_n h ([(3, .int (sN (σ.2.2 j))), (0, .ref (G.1 33)), (1, .int (nI j)), (2, .int m0)]) rfl dX4_setLine_41 (by decide) rfl ?_
        refine r_aload_n h 1 rfl rfl dX4_setLine_42 ?_
        refine r_getf h F_X4_34 (i := 33) (by omega) hm23.o rfl dX4_setLine_43 ?_
        refine r_iload_n h 2 rfl rfl dX4_setLine_46 ?_
        refine r_iload_n h 3 rfl rfl dX4_setLine_47 ?_
        have hm23 := hm23.inT j
        obtain ⟨f32, e33, q34⟩ := hm23.a42
        refine r_iast h (i := 42) (by omega) e33 (x := j) (by omega) (by decide) dX4_setLine_48 (fun c35 h36 k37 => ?_)
        have hm38 : Mdl G c35 (stT σ j (tN (σ.2.2 j) m0)) ((nI 0)) := hm23.uN hj q34 h36 k37
        refine r_iload_n h 0 rfl rfl dX4_setLine_49 ?_
        exact r_iret h hQ hr dX4_setLine_50 ⟨by decide, by decide⟩ ⟨_, rfl, mQ.of (show f_setLine σ (nI j) m0 = (0, sN (σ.2.2 j), stT σ j (pSl (σ.2.2 j) m0)) by simp [f_setLine, opn, ixB_yes hj, ixN_nI hj, hb15, hop]) (fun _ => rfl) (hm38) (hM.set (fun z => z)) (fun y hy => (((k37 y (by omega)).trans (k24 y (by omega))).trans (k3 y (by omega))))⟩
      · exact absurd u27 (by decide)
    · refine r_iconst h (v := nI 1) (by decide) dX4_setLine_21 ?_
      refine r_goto h 26 dX4_setLine_22 (by decide) ?_
      refine r_iconst h (v := nI 2) (by decide) dX4_setLine_26 ?_
      refine r_cV h k_X4_59 (i := 33) (As := [.int (nI 1), .int (nI 2)]) (rest := []) (c_X4_isThrown h.i h.t hm7 (nI 1) (nI 2) (nI 2) (by decide) (by decide)) (by omega) hm7.o rfl rfl rfl (Nat.le_of_ble_eq_true rfl) ⟨by decide, by decide, by decide, by decide⟩ dX4_setLine_27 (fun _ z => z.elim) (fun v19 c16 p20 => ?_)
      obtain ⟨r, rfl, rfl, hm17, k18⟩ := p20
      refine rn_if_eq h (a := 1) (by omega) 35 dX4_setLine_30 (by decide) (fun u21 => ?_) (fun u21 => ?_)
      · exact absurd u21 (by decide)
      · refine r_iconst h (v := nI 0) (by decide) dX4_setLine_33 ?_
        exact r_iret h hQ hr dX4_setLine_34 ⟨by decide, by decide⟩ ⟨_, rfl, mQ.of (show f_setLine σ (nI j) m0 = (2, 0, σ) by simp [f_setLine, opn, ixB_yes hj, ixN_nI hj, hb15]) (fun z => absurd z (by decide)) (hm17) (hM) (fun y hy => ((k18 y (by omega)).trans (k3 y (by omega))))⟩
set_option maxRecDepth 100000 in
set_option maxHeartbeats 4000000 in
/-- X4_check -/
theorem c_X4_check {G : GG} {l : Launch} {c : CC} (hG : InjG G) (hl0 : l.stackTraces = false) {σ : St} {th : Int32} (hm : Mdl G c σ th) (hB : Bnd σ) (hM : okM σ) (x : Int32) : MC G l yX4_check (.code yX4_check cX4_check 2 (some .long) :: gws) (rmF 2 0 0 43) [.ref (G.1 33), .int x] c (pL (mQ G c (f_check σ x))) (pF) := by
  refine MC.of (by decide) hl0 hG (Nat.le_of_ble_eq_true rfl) (fun X hX h hN hQ hr => ?_)
  subst hX
  refine r_aload_n h 0 rfl rfl dX4_check_0 ?_
  refine r_iload_n h 1 rfl rfl dX4_check_1 ?_
  refine r_cV h k_X4_63 (i := 33) (As := [.int x]) (rest := []) (c_X4_isNo h.i h.t hm x) (by omega) hm.o rfl rfl rfl (Nat.le_of_ble_eq_true rfl) ⟨by decide, by decide, by decide, by decide⟩ dX4_check_2 (fun _ z => z.elim) (fun v4 c1 p5 => ?_)
  obtain ⟨r, rfl, rfl, hm2, k3⟩ := p5
  refine rb_if_ne h 33 dX4_check_5 (by decide) (fun u6 => ?_) (fun u6 => ?_)
  · have hm7 : Mdl G c1 σ (nI 1) := by rw [if_pos u6] at hm2; exact hm2
    refine r_lconst h (v := 0) (by decide) dX4_check_33 ?_
    refine r_goto h 47 dX4_check_34 (by decide) ?_
    exact r_lret h hQ hr dX4_check_47 ⟨by decide, by decide⟩ ⟨_, rfl, mQ.of (show f_check σ x = (1, 0, σ) by simp [f_check, opn, u6]) (fun z => absurd z (by decide)) (hm7) (hM) (fun y hy => (k3 y (by omega)))⟩
  · have hm7 : Mdl G c1 σ (nI 0) := by rw [if_neg u6] at hm2; exact hm2
    obtain ⟨j, hj, rfl⟩ := ixB_ix u6
    refine r_aload_n h 0 rfl rfl dX4_check_8 ?_
    refine r_aload_n h 0 rfl rfl dX4_check_9 ?_
    refine r_getf h F_X4_19 (i := 33) (by omega) hm7.o rfl dX4_check_10 ?_
    refine r_iload_n h 1 rfl rfl dX4_check_13 ?_
    obtain ⟨f8, e9, q10⟩ := hm7.a37
    refine r_iald h (i := 37) (by omega) e9 (x := j) (by omega) (by decide) dX4_check_14 ?_
    have z11 : f8 (j) = sK (σ.2.2 j) := q10 j hj
    rw [z11]
    refine r_cS h k_X4_124 (As := [.int (sK (σ.2.2 j))]) (rest := [.ref (G.1 33)]) (c_X4_hasCheck h.i h.t (sK (σ.2.2 j))) rfl rfl (Nat.le_of_ble_eq_true rfl) ⟨by decide, by decide, by decide, by decide⟩ dX4_check_15 (fun _ z => z.elim) (fun v12 c13 p14 => ?_)
    obtain ⟨r, rfl, rfl, rfl⟩ := p14
    refine rb_if_ne h 25 dX4_check_18 (by decide) (fun hb15 => ?_) (fun hb15 => ?_)
    · refine r_iconst h (v := nI 0) (by decide) dX4_check_25 ?_
      refine r_iconst h (v := nI 2) (by decide) dX4_check_26 ?_
      refine r_cV h k_X4_59 (i := 33) (As := [.int (nI 0), .int (nI 2)]) (rest := []) (c_X4_isThrown h.i h.t hm7 (nI 0) (nI 2) (nI 0) (by decide) (by decide)) (by omega) hm7.o rfl rfl rfl (Nat.le_of_ble_eq_true rfl) ⟨by decide, by decide, by decide, by decide⟩ dX4_check_27 (fun _ z => z.elim) (fun v25 c22 p26 => ?_)
      obtain ⟨r, rfl, rfl, hm23, k24⟩ := p26
      refine rn_if_eq h (a := 0) (by omega) 37 dX4_check_30 (by decide) (fun u27 => ?_) (fun u27 => ?_)
      · have hop : ¬ sK (σ.2.2 j) = -1 := fun z => by rw [z] at hb15; exact absurd hb15 (by decide)
        refine r_ldc2 h K_X4_92 dX4_check_37 ?_
        refine r_aload_n h 0 rfl rfl dX4_check_40 ?_
        refine r_getf h F_X4_37 (i := 33) (by omega) hm23.o rfl dX4_check_41 ?_
        refine r_iload_n h 1 rfl rfl dX4_check_44 ?_
        obtain ⟨f28, e29, q30⟩ := hm23.a43
        refine r_lald h (i := 43) (by omega) e29 (x := j) (by omega) (by decide) dX4_check_45 ?_
        have z31 : f28 (j) = sG (σ.2.2 j) := q30 j hj
        rw [z31]
        refine r_lsub h rfl dX4_check_46 ?_
        exact r_lret h hQ hr dX4_check_47 ⟨by decide, by decide⟩ ⟨_, rfl, mQ.of (show f_check σ (nI j) = (0, 4294967295 - sG (σ.2.2 j), σ) by simp [f_check, opn, ixB_yes hj, ixN_nI hj, hb15, hop]) (fun _ => rfl) (hm23) (hM) (fun y hy => ((k24 y (by omega)).trans (k3 y (by omega))))⟩
      · exact absurd u27 (by decide)
    · refine r_iconst h (v := nI 1) (by decide) dX4_check_21 ?_
      refine r_goto h 26 dX4_check_22 (by decide) ?_
      refine r_iconst h (v := nI 2) (by decide) dX4_check_26 ?_
      refine r_cV h k_X4_59 (i := 33) (As := [.int (nI 1), .int (nI 2)]) (rest := []) (c_X4_isThrown h.i h.t hm7 (nI 1) (nI 2) (nI 2) (by decide) (by decide)) (by omega) hm7.o rfl rfl rfl (Nat.le_of_ble_eq_true rfl) ⟨by decide, by decide, by decide, by decide⟩ dX4_check_27 (fun _ z => z.elim) (fun v19 c16 p20 => ?_)
      obtain ⟨r, rfl, rfl, hm17, k18⟩ := p20
      refine rn_if_eq h (a := 1) (by omega) 37 dX4_check_30 (by decide) (fun u21 => ?_) (fun u21 => ?_)
      · exact absurd u21 (by decide)
      · refine r_lconst h (v := 0) (by decide) dX4_check_33 ?_
        refine r_goto h 47 dX4_check_34 (by decide) ?_
        exact r_lret h hQ hr dX4_check_47 ⟨by decide, by decide⟩ ⟨_, rfl, mQ.of (show f_check σ (nI j) = (2, 0, σ) by simp [f_check, opn, ixB_yes hj, ixN_nI hj, hb15]) (fun z => absurd z (by decide)) (hm17) (hM) (fun y hy => ((k18 y (by omega)).trans (k3 y (by omega))))⟩
set_option maxRecDepth 100000 in
set_option maxHeartbeats 4000000 in
/-- X4_checkAnew -/
theorem c_X4_checkAnew {G : GG} {l : Launch} {c : CC} (hG : InjG G) (hl0 : l.stackTraces = false) {σ : St} {th : Int32} (hm : Mdl G c σ th) (hB : Bnd σ) (hM : okM σ) (x : Int32) : MC G l yX4_checkAnew (.code yX4_checkAnew cX4_checkAnew 4 (some .long) :: gws) (rmF 2 0 0 43) [.ref (G.1 33), .int x] c (pL (mQ G c (f_checkAnew σ x))) (pF) := by
  refine MC.of (by decide) hl0 hG (Nat.le_of_ble_eq_true rfl) (fun X hX h hN hQ hr => ?_)
  subst hX
  refine r_aload_n h 0 rfl rfl dX4_checkAnew_0 ?_
  refine r_iload_n h 1 rfl rfl dX4_checkAnew_1 ?_
  refine r_cV h k_X4_63 (i := 33) (As := [.int x]) (rest := []) (c_X4_isNo h.i h.t hm x) (by omega) hm.o rfl rfl rfl (Nat.le_of_ble_eq_true rfl) ⟨by decide, by decide, by decide, by decide⟩ dX4_checkAnew_2 (fun _ z => z.elim) (fun v4 c1 p5 => ?_)
  obtain ⟨r, rfl, rfl, hm2, k3⟩ := p5
  refine rb_if_ne h 33 dX4_checkAnew_5 (by decide) (fun u6 => ?_) (fun u6 => ?_)
  · have hm7 : Mdl G c1 σ (nI 1) := by rw [if_pos u6] at hm2; exact hm2
    refine r_lconst h (v := 0) (by decide) dX4_checkAnew_33 ?_
    exact r_lret h hQ hr dX4_checkAnew_34 ⟨by decide, by decide⟩ ⟨_, rfl, mQ.of (show f_checkAnew σ x = (1, 0, σ) by simp [f_checkAnew, opn, u6]) (fun z => absurd z (by decide)) (hm7) (hM) (fun y hy => (k3 y (by omega)))⟩
  · have hm7 : Mdl G c1 σ (nI 0) := by rw [if_neg u6] at hm2; exact hm2
    obtain ⟨j, hj, rfl⟩ := ixB_ix u6
    refine r_aload_n h 0 rfl rfl dX4_checkAnew_8 ?_
    refine r_aload_n h 0 rfl rfl dX4_checkAnew_9 ?_
    refine r_getf h F_X4_19 (i := 33) (by omega) hm7.o rfl dX4_checkAnew_10 ?_
    refine r_iload_n h 1 rfl rfl dX4_checkAnew_13 ?_
    obtain ⟨f8, e9, q10⟩ := hm7.a37
    refine r_iald h (i := 37) (by omega) e9 (x := j) (by omega) (by decide) dX4_checkAnew_14 ?_
    have z11 : f8 (j) = sK (σ.2.2 j) := q10 j hj
    rw [z11]
    refine r_cS h k_X4_124 (As := [.int (sK (σ.2.2 j))]) (rest := [.ref (G.1 33)]) (c_X4_hasCheck h.i h.t (sK (σ.2.2 j))) rfl rfl (Nat.le_of_ble_eq_true rfl) ⟨by decide, by decide, by decide, by decide⟩ dX4_checkAnew_15 (fun _ z => z.elim) (fun v12 c13 p14 => ?_)
    obtain ⟨r, rfl, rfl, rfl⟩ := p14
    refine rb_if_ne h 25 dX4_checkAnew_18 (by decide) (fun hb15 => ?_) (fun hb15 => ?_)
    · refine r_iconst h (v := nI 0) (by decide) dX4_checkAnew_25 ?_
      refine r_iconst h (v := nI 2) (by decide) dX4_checkAnew_26 ?_
      refine r_cV h k_X4_59 (i := 33) (As := [.int (nI 0), .int (nI 2)]) (rest := []) (c_X4_isThrown h.i h.t hm7 (nI 0) (nI 2) (nI 0) (by decide) (by decide)) (by omega) hm7.o rfl rfl rfl (Nat.le_of_ble_eq_true rfl) ⟨by decide, by decide, by decide, by decide⟩ dX4_checkAnew_27 (fun _ z => z.elim) (fun v25 c22 p26 => ?_)
      obtain ⟨r, rfl, rfl, hm23, k24⟩ := p26
      refine rn_if_eq h (a := 0) (by omega) 35 dX4_checkAnew_30 (by decide) (fun u27 => ?_) (fun u27 => ?_)
      · have hop : ¬ sK (σ.2.2 j) = -1 := fun z => by rw [z] at hb15; exact absurd hb15 (by decide)
        refine r_ldc2 h K_X4_92 dX4_checkAnew_35 ?_
        refine r_aload_n h 0 rfl rfl dX4_checkAnew_38 ?_
        refine r_getf h F_X4_37 (i := 33) (by omega) hm23.o rfl dX4_checkAnew_39 ?_
        refine r_iload_n h 1 rfl rfl dX4_checkAnew_42 ?_
        obtain ⟨f28, e29, q30⟩ := hm23.a43
        refine r_lald h (i := 43) (by omega) e29 (x := j) (by omega) (by decide) dX4_checkAnew_43 ?_
        have z31 : f28 (j) = sG (σ.2.2 j) := q30 j hj
        rw [z31]
        refine r_lsub h rfl dX4_checkAnew_44 ?_
        refine r_lstore_n h ([(2, .long ((4294967295) - (sG (σ.2.2 j)))), (0, .ref (G.1 33)), (1, .int (nI j))]) rfl dX4_checkAnew_45 (by decide) rfl ?_
        refine r_aload_n h 1 rfl rfl dX4_checkAnew_46 ?_
        refine r_getf h F_X4_37 (i := 33) (by omega) hm23.o rfl dX4_checkAnew_47 ?_
        refine r_iload_n h 2 rfl rfl dX4_checkAnew_50 ?_
        refine r_ldc2 h K_X4_92 dX4_checkAnew_51 ?_
        have hm23 := hm23.inT j
        obtain ⟨f32, e33, q34⟩ := hm23.a43
        refine r_last h (i := 43) (by omega) e33 (x := j) (by omega) (by decide) dX4_checkAnew_54 (fun c35 h36 k37 => ?_)
        have hm38 : Mdl G c35 (stT σ j (tG (σ.2.2 j) 4294967295)) ((nI 0)) := hm23.uG hj q34 h36 k37
        refine r_lload_n h 0 rfl rfl dX4_checkAnew_55 ?_
        exact r_lret h hQ hr dX4_checkAnew_56 ⟨by decide, by decide⟩ ⟨_, rfl, mQ.of (show f_checkAnew σ (nI j) = (0, 4294967295 - sG (σ.2.2 j), stT σ j (pCa (σ.2.2 j))) by simp [f_checkAnew, opn, ixB_yes hj, ixN_nI hj, hb15, hop]) (fun _ => rfl) (hm38) (hM.set (fun z => z)) (fun y hy => (((k37 y (by omega)).trans (k24 y (by omega))).trans (k3 y (by omega))))⟩
      · exact absurd u27 (by decide)
    · refine r_iconst h (v := nI 1) (by decide) dX4_checkAnew_21 ?_
      refine r_goto h 26 dX4_checkAnew_22 (by decide) ?_
      refine r_iconst h (v := nI 2) (by decide) dX4_checkAnew_26 ?_
      refine r_cV h k_X4_59 (i := 33) (As := [.int (nI 1), .int (nI 2)]) (rest := []) (c_X4_isThrown h.i h.t hm7 (nI 1) (nI 2) (nI 2) (by decide) (by decide)) (by omega) hm7.o rfl rfl rfl (Nat.le_of_ble_eq_true rfl) ⟨by decide, by decide, by decide, by decide⟩ dX4_checkAnew_27 (fun _ z => z.elim) (fun v19 c16 p20 => ?_)
      obtain ⟨r, rfl, rfl, hm17, k18⟩ := p20
      refine rn_if_eq h (a := 1) (by omega) 35 dX4_checkAnew_30 (by decide) (fun u21 => ?_) (fun u21 => ?_)
      · exact absurd u21 (by decide)
      · refine r_lconst h (v := 0) (by decide) dX4_checkAnew_33 ?_
        exact r_lret h hQ hr dX4_checkAnew_34 ⟨by decide, by decide⟩ ⟨_, rfl, mQ.of (show f_checkAnew σ (nI j) = (2, 0, σ) by simp [f_checkAnew, opn, ixB_yes hj, ixN_nI hj, hb15]) (fun z => absurd z (by decide)) (hm17) (hM) (fun y hy => ((k18 y (by omega)).trans (k3 y (by omega))))⟩
set_option maxRecDepth 100000 in
set_option maxHeartbeats 4000000 in
/-- X4_checkOf -/
theorem c_X4_checkOf {G : GG} {l : Launch} {c : CC} (hG : InjG G) (hl0 : l.stackTraces = false) {σ : St} {th : Int32} (hm : Mdl G c σ th) (hB : Bnd σ) (hM : okM σ) (x : Int32) : MC G l yX4_checkOf (.code yX4_checkOf cX4_checkOf 5 (some .long) :: gws) (rmF 2 0 0 43) [.ref (G.1 33), .int x] c (pL (mQ G c (f_checkOf σ x))) (pF) := by
  refine MC.of (by decide) hl0 hG (Nat.le_of_ble_eq_true rfl) (fun X hX h hN hQ hr => ?_)
  subst hX
  refine r_aload_n h 0 rfl rfl dX4_checkOf_0 ?_
  refine r_iload_n h 1 rfl rfl dX4_checkOf_1 ?_
  refine r_cV h k_X4_63 (i := 33) (As := [.int x]) (rest := []) (c_X4_isNo h.i h.t hm x) (by omega) hm.o rfl rfl rfl (Nat.le_of_ble_eq_true rfl) ⟨by decide, by decide, by decide, by decide⟩ dX4_checkOf_2 (fun _ z => z.elim) (fun v4 c1 p5 => ?_)
  obtain ⟨r, rfl, rfl, hm2, k3⟩ := p5
  refine rb_if_eq h 10 dX4_checkOf_5 (by decide) (fun u6 => ?_) (fun u6 => ?_)
  · have hm7 : Mdl G c1 σ (nI 0) := by rw [if_neg u6] at hm2; exact hm2
    obtain ⟨j, hj, rfl⟩ := ixB_ix u6
    have hLj := hB.1 j hj
    have hl := hLj.1
    refine r_ldc2 h K_X4_92 dX4_checkOf_10 ?_
    refine r_lstore_n h ([(2, .long (4294967295)), (0, .ref (G.1 33)), (1, .int (nI j))]) rfl dX4_checkOf_13 (by decide) rfl ?_
    refine r_iconst h (v := nI 0) (by decide) dX4_checkOf_14 ?_
    refine r_istore h ([(4, .int (nI 0)), (2, .long (4294967295)), (0, .ref (G.1 33)), (1, .int (nI j))]) dX4_checkOf_15 (by decide) rfl ?_
    have loop : ∀ (n i : Nat) (g : Int64), (σ.1 j).length + 1 ≤ i + n → i ≤ (σ.1 j).length → okR g → g = crT (σ.1 j) i → V G X c1 [(0, .ref (G.1 33)), (1, .int (nI j)), (2, .long (g)), (4, .int (nI i))] (0) (0) 17 [] := by
      intro n
      induction n with
      | zero => intro i g a1 a2; exact absurd a1 (by omega)
      | succ n ih =>
        intro i g a1 a2 a4 a3
        refine r_iload h 3 rfl dX4_checkOf_17 ?_
        refine r_aload_n h 0 rfl rfl dX4_checkOf_19 ?_
        refine r_getf h F_X4_13 (i := 33) (by omega) hm7.o rfl dX4_checkOf_20 ?_
        refine r_iload_n h 1 rfl rfl dX4_checkOf_23 ?_
        obtain ⟨f8, e9, q10⟩ := hm7.a35
        refine r_iald h (i := 35) (by omega) e9 (x := j) (by omega) (by decide) dX4_checkOf_24 ?_
        have z11 : f8 (j) = (nI ((σ.1 j).length)) := q10 j hj
        rw [z11]
        refine rn_icmp_ge h (a := i) (b := (σ.1 j).length) (by omega) (by omega) 46 dX4_checkOf_25 (by decide) (fun z12 => ?_) (fun z12 => ?_)
        · refine r_ldc2 h K_X4_92 dX4_checkOf_46 ?_
          refine r_lload_n h 2 rfl rfl dX4_checkOf_49 ?_
          refine r_lsub h rfl dX4_checkOf_50 ?_
          exact r_lret h hQ hr dX4_checkOf_51 ⟨by decide, by decide⟩ ⟨_, rfl, mQ.of (show f_checkOf σ (nI j) = (0, 4294967295 - crT (σ.1 j) (σ.1 j).length, σ) by simp [f_checkOf, opn, ixB_yes hj, ixN_nI hj]) (fun _ => by rw [a3, show i = (σ.1 j).length by omega]) (hm7) (hM) (fun y hy => (k3 y (by omega)))⟩
        · refine r_lload_n h 2 rfl rfl dX4_checkOf_28 ?_
          refine r_aload_n h 0 rfl rfl dX4_checkOf_29 ?_
          refine r_iload_n h 1 rfl rfl dX4_checkOf_30 ?_
          refine r_iload h 3 rfl dX4_checkOf_31 ?_
          refine r_cV h k_X4_71 (i := 33) (As := [.int (nI j), .int (nI i)]) (rest := [.long (g)]) (c_X4_at h.i h.t hm7 (k := i) hj rfl z12) (by omega) hm7.o rfl rfl rfl (Nat.le_of_ble_eq_true rfl) ⟨by decide, by decide, by decide, by decide⟩ dX4_checkOf_33 (fun _ z => z.elim) (fun v13 c14 p15 => ?_)
          obtain ⟨r, rfl, rfl, rfl⟩ := p15
          refine r_cS h k_X4_104 (As := [.long (g), .int ((σ.1 j).getD i 0)]) (rest := []) (c_X4_mixed h.i h.t a4 (hLj.2 i z12)) rfl rfl (Nat.le_of_ble_eq_true rfl) ⟨by decide, by decide, by decide, by decide⟩ dX4_checkOf_36 (fun _ z => z.elim) (fun v16 c17 p18 => ?_)
          obtain ⟨r, rfl, rfl, rfl⟩ := p18
          refine r_lstore_n h ([(2, .long (wb g ((σ.1 j).getD i 0))), (0, .ref (G.1 33)), (1, .int (nI j)), (4, .int (nI i))]) rfl dX4_checkOf_39 (by decide) rfl ?_
          refine r_iinc h 3 ([(4, .int (nI (i + 1))), (2, .long (wb g ((σ.1 j).getD i 0))), (0, .ref (G.1 33)), (1, .int (nI j))]) rfl (inc_1 (i)) dX4_checkOf_40 (by decide) rfl ?_
          refine r_goto h 17 dX4_checkOf_43 (by decide) ?_
          refine V_lv [2, 3, 1, 0] rfl ?_
          exact ih (i + 1) _ (by omega) (by omega) (wb_ok a4 (hLj.2 i z12)) (by rw [a3]; rfl)
    refine V_lv [2, 3, 1, 0] rfl ?_
    exact loop ((σ.1 j).length + 1) 0 _ (by omega) (by omega) okR_0 rfl
  · have hm7 : Mdl G c1 σ (nI 1) := by rw [if_pos u6] at hm2; exact hm2
    refine r_lconst h (v := 0) (by decide) dX4_checkOf_8 ?_
    exact r_lret h hQ hr dX4_checkOf_9 ⟨by decide, by decide⟩ ⟨_, rfl, mQ.of (show f_checkOf σ x = (1, 0, σ) by simp [f_checkOf, opn, u6]) (fun z => absurd z (by decide)) (hm7) (hM) (fun y hy => (k3 y (by omega)))⟩
set_option maxRecDepth 100000 in
set_option maxHeartbeats 4000000 in
/-- X4_share -/
theorem c_X4_share {G : GG} {l : Launch} {c : CC} (hG : InjG G) (hl0 : l.stackTraces = false) {σ : St} {th : Int32} (hm : Mdl G c σ th) (hB : Bnd σ) (hM : okM σ) (x : Int32) : MC G l yX4_share (.code yX4_share cX4_share 2 (some .float) :: gws) (rmF 2 0 0 46) [.ref (G.1 33), .int x] c (pFl (mQ G c (f_share σ x))) (pF) := by
  refine MC.of (by decide) hl0 hG (Nat.le_of_ble_eq_true rfl) (fun X hX h hN hQ hr => ?_)
  subst hX
  refine r_aload_n h 0 rfl rfl dX4_share_0 ?_
  refine r_iload_n h 1 rfl rfl dX4_share_1 ?_
  refine r_cV h k_X4_63 (i := 33) (As := [.int x]) (rest := []) (c_X4_isNo h.i h.t hm x) (by omega) hm.o rfl rfl rfl (Nat.le_of_ble_eq_true rfl) ⟨by decide, by decide, by decide, by decide⟩ dX4_share_2 (fun _ z => z.elim) (fun v4 c1 p5 => ?_)
  obtain ⟨r, rfl, rfl, hm2, k3⟩ := p5
  refine rb_if_ne h 30 dX4_share_5 (by decide) (fun u6 => ?_) (fun u6 => ?_)
  · have hm7 : Mdl G c1 σ (nI 1) := by rw [if_pos u6] at hm2; exact hm2
    refine r_fconst0 h dX4_share_30 ?_
    exact r_fret h hQ hr dX4_share_31 ⟨by decide, by decide⟩ ⟨_, rfl, mQ.of (show f_share σ x = (1, 0, σ) by simp [f_share, opn, u6]) (fun z => absurd z (by decide)) (hm7) (hM) (fun y hy => (k3 y (by omega)))⟩
  · have hm7 : Mdl G c1 σ (nI 0) := by rw [if_neg u6] at hm2; exact hm2
    obtain ⟨j, hj, rfl⟩ := ixB_ix u6
    have hl := (hB.1 j hj).1
    refine r_aload_n h 0 rfl rfl dX4_share_8 ?_
    refine r_aload_n h 0 rfl rfl dX4_share_9 ?_
    refine r_getf h F_X4_13 (i := 33) (by omega) hm7.o rfl dX4_share_10 ?_
    refine r_iload_n h 1 rfl rfl dX4_share_13 ?_
    obtain ⟨f8, e9, q10⟩ := hm7.a35
    refine r_iald h (i := 35) (by omega) e9 (x := j) (by omega) (by decide) dX4_share_14 ?_
    have z11 : f8 (j) = (nI ((σ.1 j).length)) := q10 j hj
    rw [z11]
    refine rn_if_ne h (a := (σ.1 j).length) (by omega) 22 dX4_share_15 (by decide) (fun z12 => ?_) (fun z12 => ?_)
    · have hpos : 0 < (σ.1 j).length := by omega
      refine r_iconst h (v := nI 0) (by decide) dX4_share_22 ?_
      refine r_iconst h (v := nI 2) (by decide) dX4_share_23 ?_
      refine r_cV h k_X4_59 (i := 33) (As := [.int (nI 0), .int (nI 2)]) (rest := []) (c_X4_isThrown h.i h.t hm7 (nI 0) (nI 2) (nI 0) (by decide) (by decide)) (by omega) hm7.o rfl rfl rfl (Nat.le_of_ble_eq_true rfl) ⟨by decide, by decide, by decide, by decide⟩ dX4_share_24 (fun _ z => z.elim) (fun v22 c19 p23 => ?_)
      obtain ⟨r, rfl, rfl, hm20, k21⟩ := p23
      refine rn_if_eq h (a := 0) (by omega) 32 dX4_share_27 (by decide) (fun u24 => ?_) (fun u24 => ?_)
      · refine r_aload_n h 0 rfl rfl dX4_share_32 ?_
        refine r_iload_n h 1 rfl rfl dX4_share_33 ?_
        refine r_cV h k_X4_75 (i := 33) (As := [.int (nI j)]) (rest := []) (c_X4_endsOf h.i h.t hm20 hj) (by omega) hm20.o rfl rfl rfl (Nat.le_of_ble_eq_true rfl) ⟨by decide, by decide, by decide, by decide⟩ dX4_share_34 (fun _ z => z.elim) (fun v25 c26 p27 => ?_)
        obtain ⟨r, rfl, rfl, rfl⟩ := p27
        refine r_i2f h dX4_share_37 ?_
        refine r_aload_n h 0 rfl rfl dX4_share_38 ?_
        refine r_getf h F_X4_13 (i := 33) (by omega) hm20.o rfl dX4_share_39 ?_
        refine r_iload_n h 1 rfl rfl dX4_share_42 ?_
        obtain ⟨f28, e29, q30⟩ := hm20.a35
        refine r_iald h (i := 35) (by omega) e29 (x := j) (by omega) (by decide) dX4_share_43 ?_
        have z31 : f28 (j) = (nI ((σ.1 j).length)) := q30 j hj
        rw [z31]
        refine r_i2f h dX4_share_44 ?_
        refine r_fdiv h (n32_of (fdiv_ok _ hpos (by omega))) dX4_share_45 ?_
        exact r_fret h hQ hr dX4_share_46 ⟨by decide, by decide⟩ ⟨_, rfl, mQ.of (show f_share σ (nI j) = (0, FP.fdiv (FP.i2f (nI (ecT (σ.1 j) (σ.1 j).length))) (FP.i2f (nI (σ.1 j).length)), σ) by simp [f_share, opn, ixB_yes hj, ixN_nI hj, hpos]) (fun _ => rfl) (hm20) (hM) (fun y hy => ((k21 y (by omega)).trans (k3 y (by omega))))⟩
      · exact absurd u24 (by decide)
    · refine r_iconst h (v := nI 1) (by decide) dX4_share_18 ?_
      refine r_goto h 23 dX4_share_19 (by decide) ?_
      refine r_iconst h (v := nI 2) (by decide) dX4_share_23 ?_
      refine r_cV h k_X4_59 (i := 33) (As := [.int (nI 1), .int (nI 2)]) (rest := []) (c_X4_isThrown h.i h.t hm7 (nI 1) (nI 2) (nI 2) (by decide) (by decide)) (by omega) hm7.o rfl rfl rfl (Nat.le_of_ble_eq_true rfl) ⟨by decide, by decide, by decide, by decide⟩ dX4_share_24 (fun _ z => z.elim) (fun v16 c13 p17 => ?_)
      obtain ⟨r, rfl, rfl, hm14, k15⟩ := p17
      refine rn_if_eq h (a := 1) (by omega) 32 dX4_share_27 (by decide) (fun u18 => ?_) (fun u18 => ?_)
      · exact absurd u18 (by decide)
      · refine r_fconst0 h dX4_share_30 ?_
        exact r_fret h hQ hr dX4_share_31 ⟨by decide, by decide⟩ ⟨_, rfl, mQ.of (show f_share σ (nI j) = (2, 0, σ) by simp [f_share, opn, ixB_yes hj, ixN_nI hj, z12]) (fun z => absurd z (by decide)) (hm14) (hM) (fun y hy => ((k15 y (by omega)).trans (k3 y (by omega))))⟩
set_option maxRecDepth 100000 in
set_option maxHeartbeats 4000000 in
/-- X4_meanLine -/
theorem c_X4_meanLine {G : GG} {l : Launch} {c : CC} (hG : InjG G) (hl0 : l.stackTraces = false) {σ : St} {th : Int32} (hm : Mdl G c σ th) (hB : Bnd σ) (hM : okM σ) : MC G l yX4_meanLine (.code yX4_meanLine cX4_meanLine 5 (some .double) :: gws) (rmF 1 0 0 22) [.ref (G.1 33)] c (pD (mQ G c (f_meanLine σ))) (pF) := by
  refine MC.of (by decide) hl0 hG (Nat.le_of_ble_eq_true rfl) (fun X hX h hN hQ hr => ?_)
  subst hX
  refine r_lconst h (v := 0) (by decide) dX4_meanLine_0 ?_
  refine r_lstore_n h ([(1, .long (0)), (0, .ref (G.1 33))]) rfl dX4_meanLine_1 (by decide) rfl ?_
  refine r_iconst h (v := nI 0) (by decide) dX4_meanLine_2 ?_
  refine r_istore_n h ([(3, .int (nI 0)), (1, .long (0)), (0, .ref (G.1 33))]) rfl dX4_meanLine_3 (by decide) rfl ?_
  refine r_iconst h (v := nI 0) (by decide) dX4_meanLine_4 ?_
  refine r_istore h ([(4, .int (nI 0)), (3, .int (nI 0)), (1, .long (0)), (0, .ref (G.1 33))]) dX4_meanLine_5 (by decide) rfl ?_
  have loop : ∀ (n i m : Nat) (s : Int64), 5 ≤ i + n → i ≤ 4 → s = mlS σ.2.2 i → m = mlC σ.2.2 i → m ≤ i → V G X c [(0, .ref (G.1 33)), (1, .long (s)), (3, .int (nI m)), (4, .int (nI i))] 0 0 7 [] := by
    intro n
    induction n with
    | zero => intro i m s a1 a2; exact absurd a1 (by omega)
    | succ n ih =>
      intro i m s a1 a2 a3 a4 a5
      refine r_iload h 3 rfl dX4_meanLine_7 ?_
      refine r_iconst h (v := nI 4) (by decide) dX4_meanLine_9 ?_
      refine rn_icmp_ge h (a := i) (b := 4) (by omega) (by omega) 46 dX4_meanLine_10 (by decide) (fun q1 => ?_) (fun q1 => ?_)
      · have hi : i = 4 := by omega
        subst hi
        refine r_aload_n h 0 rfl rfl dX4_meanLine_46 ?_
        refine r_iload_n h 2 rfl rfl dX4_meanLine_47 ?_
        refine rn_if_ne h (a := m) (by omega) 55 dX4_meanLine_48 (by decide) (fun z2 => ?_) (fun z2 => ?_)
        · refine r_iconst h (v := nI 0) (by decide) dX4_meanLine_55 ?_
          refine r_iconst h (v := nI 1) (by decide) dX4_meanLine_56 ?_
          refine r_cV h k_X4_59 (i := 33) (As := [.int (nI 0), .int (nI 1)]) (rest := []) (c_X4_isThrown h.i h.t hm (nI 0) (nI 1) (nI 0) (by decide) (by decide)) (by omega) hm.o rfl rfl rfl (Nat.le_of_ble_eq_true rfl) ⟨by decide, by decide, by decide, by decide⟩ dX4_meanLine_57 (fun _ z => z.elim) (fun v12 c9 p13 => ?_)
          obtain ⟨r, rfl, rfl, hm10, k11⟩ := p13
          refine rn_if_eq h (a := 0) (by omega) 67 dX4_meanLine_60 (by decide) (fun u14 => ?_) (fun u14 => ?_)
          · refine r_lload_n h 1 rfl rfl dX4_meanLine_67 ?_
            refine r_l2d h dX4_meanLine_68 ?_
            refine r_iload_n h 2 rfl rfl dX4_meanLine_69 ?_
            refine r_i2d h dX4_meanLine_70 ?_
            refine r_ddiv h (n64_of (ddiv_ok _ (Nat.pos_of_ne_zero z2) (by omega))) dX4_meanLine_71 ?_
            exact r_dret h hQ hr dX4_meanLine_72 ⟨by decide, by decide⟩ ⟨_, rfl, mQ.of (show f_meanLine σ = (0, FP.ddiv (FP.l2d s) (FP.i2d (nI m)), σ) by simp [f_meanLine, opn, ← a4, ← a3, z2]) (fun _ => rfl) (hm10) (hM) (fun y hy => (k11 y (by omega)))⟩
          · exact absurd u14 (by decide)
        · refine r_iconst h (v := nI 1) (by decide) dX4_meanLine_51 ?_
          refine r_goto h 56 dX4_meanLine_52 (by decide) ?_
          refine r_iconst h (v := nI 1) (by decide) dX4_meanLine_56 ?_
          refine r_cV h k_X4_59 (i := 33) (As := [.int (nI 1), .int (nI 1)]) (rest := []) (c_X4_isThrown h.i h.t hm (nI 1) (nI 1) (nI 1) (by decide) (by decide)) (by omega) hm.o rfl rfl rfl (Nat.le_of_ble_eq_true rfl) ⟨by decide, by decide, by decide, by decide⟩ dX4_meanLine_57 (fun _ z => z.elim) (fun v6 c3 p7 => ?_)
          obtain ⟨r, rfl, rfl, hm4, k5⟩ := p7
          refine rn_if_eq h (a := 1) (by omega) 67 dX4_meanLine_60 (by decide) (fun u8 => ?_) (fun u8 => ?_)
          · exact absurd u8 (by decide)
          · refine r_dconst0 h dX4_meanLine_63 ?_
            refine r_goto h 72 dX4_meanLine_64 (by decide) ?_
            exact r_dret h hQ hr dX4_meanLine_72 ⟨by decide, by decide⟩ ⟨_, rfl, mQ.of (show f_meanLine σ = (1, 0, σ) by simp [f_meanLine, opn, ← a4, z2]) (fun z => absurd z (by decide)) (hm4) (hM) (fun y hy => (k5 y (by omega)))⟩
      · have hi : i < 4 := by omega
        refine r_aload_n h 0 rfl rfl dX4_meanLine_13 ?_
        refine r_getf h F_X4_19 (i := 33) (by omega) hm.o rfl dX4_meanLine_14 ?_
        refine r_iload h 3 rfl dX4_meanLine_17 ?_
        obtain ⟨f15, e16, q17⟩ := hm.a37
        refine r_iald h (i := 37) (by omega) e16 (x := i) (by omega) (by decide) dX4_meanLine_19 ?_
        have z18 : f15 (i) = sK (σ.2.2 i) := q17 i hi
        rw [z18]
        refine r_cS h k_X4_82 (As := [.int (sK (σ.2.2 i))]) (rest := []) (c_X4_hasLine h.i h.t (sK (σ.2.2 i))) rfl rfl (Nat.le_of_ble_eq_true rfl) ⟨by decide, by decide, by decide, by decide⟩ dX4_meanLine_20 (fun _ z => z.elim) (fun v19 c20 p21 => ?_)
        obtain ⟨r, rfl, rfl, rfl⟩ := p21
        refine rb_if_eq h 40 dX4_meanLine_23 (by decide) (fun u22 => ?_) (fun u22 => ?_)
        · refine r_iinc h 3 ([(4, .int (nI (i + 1))), (0, .ref (G.1 33)), (1, .long (s)), (3, .int (nI m))]) rfl (inc_1 (i)) dX4_meanLine_40 (by decide) rfl ?_
          refine r_goto h 7 dX4_meanLine_43 (by decide) ?_
          refine V_lv [1, 2, 3, 0] rfl ?_
          exact ih (i + 1) m s (by omega) (by omega) (by rw [a3]; exact (if_neg u22).symm) (by rw [a4]; exact (if_neg u22).symm) (by omega)
        · refine r_lload_n h 1 rfl rfl dX4_meanLine_26 ?_
          refine r_aload_n h 0 rfl rfl dX4_meanLine_27 ?_
          refine r_getf h F_X4_34 (i := 33) (by omega) hm.o rfl dX4_meanLine_28 ?_
          refine r_iload h 3 rfl dX4_meanLine_31 ?_
          obtain ⟨f23, e24, q25⟩ := hm.a42
          refine r_iald h (i := 42) (by omega) e24 (x := i) (by omega) (by decide) dX4_meanLine_33 ?_
          have z26 : f23 (i) = sN (σ.2.2 i) := q25 i hi
          rw [z26]
          refine r_i2l h rfl dX4_meanLine_34 ?_
          refine r_ladd h rfl dX4_meanLine_35 ?_
          refine r_lstore_n h ([(1, .long ((s) + ((sN (σ.2.2 i)).toInt64))), (0, .ref (G.1 33)), (3, .int (nI m)), (4, .int (nI i))]) rfl dX4_meanLine_36 (by decide) rfl ?_
          refine r_iinc h 2 ([(3, .int (nI (m + 1))), (1, .long ((s) + ((sN (σ.2.2 i)).toInt64))), (0, .ref (G.1 33)), (4, .int (nI i))]) rfl (inc_1 (m)) dX4_meanLine_37 (by decide) rfl ?_
          refine r_iinc h 3 ([(4, .int (nI (i + 1))), (3, .int (nI (m + 1))), (1, .long ((s) + ((sN (σ.2.2 i)).toInt64))), (0, .ref (G.1 33))]) rfl (inc_1 (i)) dX4_meanLine_40 (by decide) rfl ?_
          refine r_goto h 7 dX4_meanLine_43 (by decide) ?_
          refine V_lv [3, 2, 1, 0] rfl ?_
          exact ih (i + 1) (m + 1) _ (by omega) (by omega) (by rw [a3]; exact (if_pos u22).symm) (by rw [a4]; exact (if_pos u22).symm) (by omega)
  refine V_lv [3, 2, 1, 0] rfl ?_
  exact loop 5 0 0 0 (by omega) (by omega) rfl rfl (Nat.le_refl 0)
