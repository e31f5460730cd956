/-! THE FACE of the class, two: streams -/
set_option maxRecDepth 100000 in
set_option maxHeartbeats 4000000 in
/-- X3_open -/
theorem c_X3_open {G : GG} {l : Launch} {c : CC} (hG : InjG G) (hl0 : l.stackTraces = false) {σ : St} (hc : Cls G c σ) (x kd sa sb : Int32) : MC G l yX3_open (.code yX3_open cX3_open 8 (some .int) :: gws) (rmF 7 8 48 117) [.ref (G.1 0), .int x, .int kd, .int sa, .int sb] c (pI (fQ G c (f_open σ x kd sa sb))) (pxE (f_open σ x kd sa sb) [eIO, eIA]) := by
  refine MC.of (by decide) hl0 hG (Nat.le_of_ble_eq_true rfl) (fun X hX h hN hQ hr => ?_)
  subst hX
  refine r_aload_n h 0 rfl rfl dX3_open_0 ?_
  refine r_iload_n h 1 rfl rfl dX3_open_1 ?_
  refine r_cV h k_X3_80 (i := 0) (As := [.int x]) (rest := []) (c_X3_streamAt h.i h.t hc x) (by omega) hc.o rfl rfl rfl (Nat.le_of_ble_eq_true rfl) ⟨by decide, by decide, by decide, by decide⟩ dX3_open_2 (fun E hE => VX.out h hN hQ ⟨by decide, by decide⟩ (by obtain ⟨rfl, hE⟩ := hE; exact pxE.mk 0 (by simp [f_open, opn, hE]) rfl)) (fun v1 c2 p3 => ?_)
  obtain ⟨r, rfl, j, hj, rfl, rfl, rfl⟩ := p3
  refine r_astore h ([(5, .ref (G.1 (13 + 3 * j))), (0, .ref (G.1 0)), (1, .int (nI j)), (2, .int kd), (3, .int sa), (4, .int sb)]) dX3_open_5 (by decide) rfl ?_
  refine r_aload_n h 1 rfl rfl dX3_open_7 ?_
  refine r_iload_n h 4 rfl rfl dX3_open_8 ?_
  refine r_cV h k_X3_34 (i := 0) (As := [.int sa]) (rest := []) (c_X3_sourceAt h.i h.t hc sa) (by omega) hc.o rfl rfl rfl (Nat.le_of_ble_eq_true rfl) ⟨by decide, by decide, by decide, by decide⟩ dX3_open_9 (fun E hE => VX.out h hN hQ ⟨by decide, by decide⟩ (by obtain ⟨rfl, hE⟩ := hE; exact pxE.mk 0 (by simp [f_open, opn, hE, ixB_yes hj, ixN_nI hj]) rfl)) (fun v4 c5 p6 => ?_)
  obtain ⟨r, rfl, a, ha, rfl, rfl, rfl⟩ := p6
  have hLa := hc.rl ha
  have hLla := hLa.1
  refine r_astore h ([(6, .ref (G.1 (3 + 2 * a))), (5, .ref (G.1 (13 + 3 * j))), (0, .ref (G.1 0)), (1, .int (nI j)), (2, .int kd), (3, .int (nI a)), (4, .int sb)]) dX3_open_12 (by decide) rfl ?_
  refine r_aload_n h 2 rfl rfl dX3_open_14 ?_
  refine r_iload h 6 rfl dX3_open_15 ?_
  refine r_cV h k_X3_34 (i := 0) (As := [.int sb]) (rest := []) (c_X3_sourceAt h.i h.t hc sb) (by omega) hc.o rfl rfl rfl (Nat.le_of_ble_eq_true rfl) ⟨by decide, by decide, by decide, by decide⟩ dX3_open_17 (fun E hE => VX.out h hN hQ ⟨by decide, by decide⟩ (by obtain ⟨rfl, hE⟩ := hE; exact pxE.mk 0 (by simp [f_open, opn, hE, ixB_yes hj, ixN_nI hj, ixB_yes ha, ixN_nI ha]) rfl)) (fun v7 c8 p9 => ?_)
  obtain ⟨r, rfl, b, hb, rfl, rfl, rfl⟩ := p9
  have hLb := hc.rl hb
  have hLlb := hLb.1
  refine r_astore h ([(7, .ref (G.1 (3 + 2 * b))), (6, .ref (G.1 (3 + 2 * a))), (5, .ref (G.1 (13 + 3 * j))), (0, .ref (G.1 0)), (1, .int (nI j)), (2, .int kd), (3, .int (nI a)), (4, .int (nI b))]) dX3_open_20 (by decide) rfl ?_
  refine r_iload_n h 5 rfl rfl dX3_open_22 ?_
  refine r_iconst h (v := nI 0) (by decide) dX3_open_23 ?_
  refine r_bipush h (v := nI 7) (by decide) dX3_open_24 ?_
  refine r_cS h k_X3_52 (As := [.int kd, .int (nI 0), .int (nI 7)]) (rest := []) (c_X3_requireBetween h.i h.t kd (nI (0)) (nI (7))) rfl rfl (Nat.le_of_ble_eq_true rfl) ⟨by decide, by decide, by decide, by decide⟩ dX3_open_26 (fun E hE => VX.out h hN hQ ⟨by decide, by decide⟩ (by obtain ⟨rfl, hE⟩ := hE; exact pxE.mk 1 (by simp [f_open, opn, hE, ixB_yes hj, ixN_nI hj, ixB_yes ha, ixN_nI ha, ixB_yes hb, ixN_nI hb]) rfl)) (fun v10 c11 p12 => ?_)
  obtain ⟨rfl, rfl, hbt⟩ := p12
  obtain ⟨m, mlo, mhi, rfl⟩ := btB_nat hbt (by decide) (by decide)
  refine r_aload h 2 rfl dX3_open_29 ?_
  refine r_iload_n h 5 rfl rfl dX3_open_31 ?_
  refine r_aload h 1 rfl dX3_open_32 ?_
  refine r_aload h 0 rfl dX3_open_34 ?_
  obtain ⟨hok, hrow, rg, mp, ml, h0, hrg, hmk⟩ := id (hc.str hj)
  have hP : sP (σ.2.2 j) ≤ (sO (σ.2.2 j)).length := hok.1
  have hle : (sO (σ.2.2 j)).length ≤ 240 := hrow.le
  have hrow2 : RowAt G c (13 + 3 * j + 1) (sO (σ.2.2 j)) := hrow
  refine r_cV h k_X3_84 (i := 13 + 3 * j) (As := [.int (nI m), .ref (G.1 (3 + 2 * a)), .ref (G.1 (3 + 2 * b))]) (rest := []) (c_X1_begin h.i h.t (by omega) h0 hrow2 (by omega) (by omega) (hc.row ha) (hc.row hb) (by omega) (by omega) (by omega) (nI m) hLa.2 hLb.2) (by omega) h0 rfl rfl rfl (Nat.le_of_ble_eq_true rfl) ⟨by decide, by decide, by decide, by decide⟩ dX3_open_36 (fun _ z => z.elim) (fun v16 c13 p17 => ?_)
  obtain ⟨rfl, w14, k15⟩ := p17
  have g18 := (hc.row ha).mono (k15 (3 + 2 * a) (by omega) (by omega) (by omega)) (k15 (3 + 2 * a + 1) (by omega) (by omega) (by omega))
  have g19 := (hc.row hb).mono (k15 (3 + 2 * b) (by omega) (by omega) (by omega)) (k15 (3 + 2 * b + 1) (by omega) (by omega) (by omega))
  refine r_iload_n h 5 rfl rfl dX3_open_39 ?_
  refine r_cS h k_X3_88 (As := [.int (nI m)]) (rest := []) (c_X3_hasTwoSources h.i h.t (nI m)) rfl rfl (Nat.le_of_ble_eq_true rfl) ⟨by decide, by decide, by decide, by decide⟩ dX3_open_40 (fun _ z => z.elim) (fun v20 c21 p22 => ?_)
  obtain ⟨r, rfl, rfl, rfl⟩ := p22
  refine rb_if_eq h 60 dX3_open_43 (by decide) (fun u => ?_) (fun u => ?_)
  · refine r_aload h 1 rfl dX3_open_60 ?_
    refine r_cV h k_X3_42 (i := 3 + 2 * a) (As := []) (rest := []) (c_X0_size h.i h.t (by omega) g18) (by omega) g18.1 rfl rfl rfl (Nat.le_of_ble_eq_true rfl) ⟨by decide, by decide, by decide, by decide⟩ dX3_open_62 (fun _ z => z.elim) (fun v23 c24 p25 => ?_)
    obtain ⟨r, rfl, rfl, rfl⟩ := p25
    exact r_iret h hQ hr dX3_open_65 ⟨by decide, by decide⟩ ⟨_, rfl, fQ.of (show f_open σ (nI j) (nI m) (nI a) (nI b) = (0, nI (if isTw (nI m) = true then (σ.1 a).length + (σ.1 b).length else (σ.1 a).length), stT σ j (pOp (nI m) (σ.1 a) (σ.1 b))) by simp [f_open, opn, ixB_yes hj, ixN_nI hj, ixB_yes ha, ixN_nI ha, ixB_yes hb, ixN_nI hb, hbt, ixN_n (show m < 2147483648 by omega), u]) (by rw [if_neg u]) (hc.setStr hj k15 w14 (Or.inr ⟨m, by omega, rfl⟩)) (fun y hy => (k15 y (by omega) (by omega) (by omega)))⟩
  · refine r_aload h 1 rfl dX3_open_46 ?_
    refine r_cV h k_X3_42 (i := 3 + 2 * a) (As := []) (rest := []) (c_X0_size h.i h.t (by omega) g18) (by omega) g18.1 rfl rfl rfl (Nat.le_of_ble_eq_true rfl) ⟨by decide, by decide, by decide, by decide⟩ dX3_open_48 (fun _ z => z.elim) (fun v26 c27 p28 => ?_)
    obtain ⟨r, rfl, rfl, rfl⟩ := p28
    refine r_aload h 0 rfl dX3_open_51 ?_
    refine r_cV h k_X3_42 (i := 3 + 2 * b) (As := []) (rest := [.int (nI ((σ.1 a).length))]) (c_X0_size h.i h.t (by omega) g19) (by omega) g19.1 rfl rfl rfl (Nat.le_of_ble_eq_true rfl) ⟨by decide, by decide, by decide, by decide⟩ dX3_open_53 (fun _ z => z.elim) (fun v29 c30 p31 => ?_)
    obtain ⟨r, rfl, rfl, rfl⟩ := p31
    refine r_iadd h (nI_add ((σ.1 a).length) ((σ.1 b).length)) dX3_open_56 ?_
    refine r_goto h 65 dX3_open_57 (by decide) ?_
    exact r_iret h hQ hr dX3_open_65 ⟨by decide, by decide⟩ ⟨_, rfl, fQ.of (show f_open σ (nI j) (nI m) (nI a) (nI b) = (0, nI (if isTw (nI m) = true then (σ.1 a).length + (σ.1 b).length else (σ.1 a).length), stT σ j (pOp (nI m) (σ.1 a) (σ.1 b))) by simp [f_open, opn, ixB_yes hj, ixN_nI hj, ixB_yes ha, ixN_nI ha, ixB_yes hb, ixN_nI hb, hbt, ixN_n (show m < 2147483648 by omega), u]) (by rw [if_pos u]) (hc.setStr hj k15 w14 (Or.inr ⟨m, by omega, rfl⟩)) (fun y hy => (k15 y (by omega) (by omega) (by omega)))⟩
set_option maxRecDepth 100000 in
set_option maxHeartbeats 4000000 in
/-- X3_kind -/
theorem c_X3_kind {G : GG} {l : Launch} {c : CC} (hG : InjG G) (hl0 : l.stackTraces = false) {σ : St} (hc : Cls G c σ) (x : Int32) : MC G l yX3_kind (.code yX3_kind cX3_kind 2 (some .int) :: gws) (rmF 7 8 48 116) [.ref (G.1 0), .int x] c (pI (fQ G c (f_kind σ x))) (pxE (f_kind σ x) [eIO]) := by
  refine MC.of (by decide) hl0 hG (Nat.le_of_ble_eq_true rfl) (fun X hX h hN hQ hr => ?_)
  subst hX
  refine r_aload_n h 0 rfl rfl dX3_kind_0 ?_
  refine r_iload_n h 1 rfl rfl dX3_kind_1 ?_
  refine r_cV h k_X3_80 (i := 0) (As := [.int x]) (rest := []) (c_X3_streamAt h.i h.t hc x) (by omega) hc.o rfl rfl rfl (Nat.le_of_ble_eq_true rfl) ⟨by decide, by decide, by decide, by decide⟩ dX3_kind_2 (fun E hE => VX.out h hN hQ ⟨by decide, by decide⟩ (by obtain ⟨rfl, hE⟩ := hE; exact pxE.mk 0 (by simp [f_kind, opn, hE]) rfl)) (fun v1 c2 p3 => ?_)
  obtain ⟨r, rfl, j, hj, rfl, rfl, rfl⟩ := p3
  obtain ⟨hok, hrow, rg, mp, ml, h0, hrg, hmk⟩ := id (hc.str hj)
  have hP : sP (σ.2.2 j) ≤ (sO (σ.2.2 j)).length := hok.1
  have hle : (sO (σ.2.2 j)).length ≤ 240 := hrow.le
  refine r_getN h F_X3_92 (i := 13 + 3 * j) (by omega) h0 rfl dX3_kind_5 ?_
  exact r_iret h hQ hr dX3_kind_8 ⟨by decide, by decide⟩ ⟨_, rfl, fQ.of (show f_kind σ (nI j) = (0, sK (σ.2.2 j), σ) by simp [f_kind, opn, ixB_yes hj, ixN_nI hj]) (rfl) (hc) (fun _ _ => rfl)⟩
set_option maxRecDepth 100000 in
set_option maxHeartbeats 4000000 in
/-- X3_read -/
theorem c_X3_read {G : GG} {l : Launch} {c : CC} (hG : InjG G) (hl0 : l.stackTraces = false) {σ : St} (hc : Cls G c σ) (x : Int32) : MC G l yX3_read (.code yX3_read cX3_read 2 (some .int) :: gws) (rmF 8 8 48 138) [.ref (G.1 0), .int x] c (pI (fQ G c (f_read σ x))) (pxE (f_read σ x) [eIO, eUO]) := by
  refine MC.of (by decide) hl0 hG (Nat.le_of_ble_eq_true rfl) (fun X hX h hN hQ hr => ?_)
  subst hX
  refine r_aload_n h 0 rfl rfl dX3_read_0 ?_
  refine r_iload_n h 1 rfl rfl dX3_read_1 ?_
  refine r_cV h k_X3_96 (i := 0) (As := [.int x]) (rest := []) (c_X3_openStreamAt h.i h.t hc x) (by omega) hc.o rfl rfl rfl (Nat.le_of_ble_eq_true rfl) ⟨by decide, by decide, by decide, by decide⟩ dX3_read_2 (fun E hE => VX.out h hN hQ ⟨by decide, by decide⟩ (hE.elim (fun hF => by obtain ⟨rfl, hF⟩ := hF; exact pxE.mk 0 (by simp [f_read, opn, hF]) rfl) (fun hF => by obtain ⟨rfl, hF, hF2⟩ := hF; exact pxE.mk 1 (by simp [f_read, opn, hF, hF2]) rfl))) (fun v1 c2 p3 => ?_)
  obtain ⟨r, rfl, j, hj, rfl, rfl, rfl, hop⟩ := p3
  obtain ⟨_, o4⟩ := (hc.str hj).obj
  refine r_cV h k_X3_99 (i := 13 + 3 * j) (As := []) (rest := []) (c_X1_next h.i h.t (by omega) (hc.str hj)) (by omega) o4 rfl rfl rfl (Nat.le_of_ble_eq_true rfl) ⟨by decide, by decide, by decide, by decide⟩ dX3_read_5 (fun _ z => z.elim) (fun v8 c5 p9 => ?_)
  obtain ⟨r, rfl, w6, rfl, k7⟩ := p9
  exact r_iret h hQ hr dX3_read_8 ⟨by decide, by decide⟩ ⟨_, rfl, fQ.of (show f_read σ (nI j) = (0, nxA (σ.2.2 j), stT σ j (pNx (σ.2.2 j))) by simp [f_read, opn, ixB_yes hj, ixN_nI hj, hop]) (rfl) (hc.setStr hj (fun y a _ _ => k7 y a) w6 (by rw [pNx_K]; exact hc.sk hj)) (fun y hy => (k7 y (by omega)))⟩
set_option maxRecDepth 100000 in
set_option maxHeartbeats 4000000 in
/-- X3_readPart -/
theorem c_X3_readPart {G : GG} {l : Launch} {c : CC} (hG : InjG G) (hl0 : l.stackTraces = false) {σ : St} (hc : Cls G c σ) (x m0 : Int32) : MC G l yX3_readPart (.code yX3_readPart cX3_readPart 4 (some .int) :: gws) (rmF 7 8 48 117) [.ref (G.1 0), .int x, .int m0] c (pI (fQ G c (f_readPart σ x m0))) (pxE (f_readPart σ x m0) [eIO, eIA, eUO]) := by
  refine MC.of (by decide) hl0 hG (Nat.le_of_ble_eq_true rfl) (fun X hX h hN hQ hr => ?_)
  subst hX
  refine r_aload_n h 0 rfl rfl dX3_readPart_0 ?_
  refine r_iload_n h 1 rfl rfl dX3_readPart_1 ?_
  refine r_cV h k_X3_80 (i := 0) (As := [.int x]) (rest := []) (c_X3_streamAt h.i h.t hc x) (by omega) hc.o rfl rfl rfl (Nat.le_of_ble_eq_true rfl) ⟨by decide, by decide, by decide, by decide⟩ dX3_readPart_2 (fun E hE => VX.out h hN hQ ⟨by decide, by decide⟩ (by obtain ⟨rfl, hE⟩ := hE; exact pxE.mk 0 (by simp [f_readPart, opn, hE]) rfl)) (fun v1 c2 p3 => ?_)
  obtain ⟨r, rfl, j, hj, rfl, rfl, rfl⟩ := p3
  refine r_astore_n h ([(3, .ref (G.1 (13 + 3 * j))), (0, .ref (G.1 0)), (1, .int (nI j)), (2, .int m0)]) rfl dX3_readPart_5 (by decide) rfl ?_
  refine r_iload_n h 3 rfl rfl dX3_readPart_6 ?_
  refine r_iconst h (v := nI 1) (by decide) dX3_readPart_7 ?_
  refine r_bipush h (v := nI 64) (by decide) dX3_readPart_8 ?_
  refine r_cS h k_X3_52 (As := [.int m0, .int (nI 1), .int (nI 64)]) (rest := []) (c_X3_requireBetween h.i h.t m0 (nI (1)) (nI (64))) rfl rfl (Nat.le_of_ble_eq_true rfl) ⟨by decide, by decide, by decide, by decide⟩ dX3_readPart_10 (fun E hE => VX.out h hN hQ ⟨by decide, by decide⟩ (by obtain ⟨rfl, hE⟩ := hE; exact pxE.mk 1 (by simp [f_readPart, opn, hE, ixB_yes hj, ixN_nI hj]) rfl)) (fun v4 c5 p6 => ?_)
  obtain ⟨rfl, rfl, hbt⟩ := p6
  obtain ⟨m, mlo, mhi, rfl⟩ := btB_nat hbt (by decide) (by decide)
  refine r_aload_n h 0 rfl rfl dX3_readPart_13 ?_
  refine r_cS h k_X3_102 (As := [.ref (G.1 (13 + 3 * j))]) (rest := []) (c_X3_requireOpen h.i h.t (by omega) (hc.str hj)) rfl rfl (Nat.le_of_ble_eq_true rfl) ⟨by decide, by decide, by decide, by decide⟩ dX3_readPart_14 (fun E hE => VX.out h hN hQ ⟨by decide, by decide⟩ (by obtain ⟨rfl, hE⟩ := hE; exact pxE.mk 2 (by simp [f_readPart, opn, hE, ixB_yes hj, ixN_nI hj, hbt, ixN_n (show m < 2147483648 by omega)]) rfl)) (fun v7 c8 p9 => ?_)
  obtain ⟨rfl, rfl, hop⟩ := p9
  refine r_aload_n h 0 rfl rfl dX3_readPart_17 ?_
  refine r_iload_n h 3 rfl rfl dX3_readPart_18 ?_
  refine r_aload_n h 1 rfl rfl dX3_readPart_19 ?_
  refine r_getf h F_X3_22 (i := 0) (by omega) hc.o rfl dX3_readPart_20 ?_
  obtain ⟨_, hoj⟩ := (hc.str hj).obj
  refine r_cV h k_X3_106 (i := 13 + 3 * j) (As := [.int (nI m), .ref (G.1 11)]) (rest := []) (c_X1_takePart h.i h.t (by omega) (hc.str hj) m (by omega) (k := 11) (by omega) hc.part (by omega)) (by omega) hoj rfl rfl rfl (Nat.le_of_ble_eq_true rfl) ⟨by decide, by decide, by decide, by decide⟩ dX3_readPart_23 (fun _ z => z.elim) (fun v14 c10 p15 => ?_)
  obtain ⟨r, rfl, w11, w12, hr2, k13⟩ := p15
  have htk : pTk m (σ.2.2 j) ≤ 64 := Nat.le_trans (Nat.min_le_left _ _) mhi
  exact r_iret h hQ hr dX3_readPart_26 ⟨by decide, by decide⟩ ⟨_, rfl, fQ.of (show f_readPart σ (nI j) (nI m) = (0, (if pTk m (σ.2.2 j) = 0 then -1 else nI (pTk m (σ.2.2 j))), stT (stP σ (if pTk m (σ.2.2 j) = 0 then σ.2.1 else ((sO (σ.2.2 j)).drop (sP (σ.2.2 j))).take (pTk m (σ.2.2 j)))) j (pPn (pTk m (σ.2.2 j)) (σ.2.2 j))) by simp [f_readPart, opn, ixB_yes hj, ixN_nI hj, hbt, ixN_n (show m < 2147483648 by omega), hop]) (hr2) (hc.setPS hj k13 w12 (okL_ite hc.pl (okL_take (hc.str hj).1 htk)) w11 (by rw [pPn_K]; exact hc.sk hj)) (fun y hy => (k13 y (by omega) (by omega) (by omega)))⟩
set_option maxRecDepth 100000 in
set_option maxHeartbeats 4000000 in
/-- X3_partLength -/
theorem c_X3_partLength {G : GG} {l : Launch} {c : CC} (hG : InjG G) (hl0 : l.stackTraces = false) {σ : St} (hc : Cls G c σ) : MC G l yX3_partLength (.code yX3_partLength cX3_partLength 1 (some .int) :: gws) (rmF 1 0 0 20) [.ref (G.1 0)] c (pI (fun r c' => nI σ.2.1.length = r ∧ c = c')) (pF) := by
  refine MC.of (by decide) hl0 hG (Nat.le_of_ble_eq_true rfl) (fun X hX h hN hQ hr => ?_)
  subst hX
  refine r_aload_n h 0 rfl rfl dX3_partLength_0 ?_
  refine r_getf h F_X3_22 (i := 0) (by omega) hc.o rfl dX3_partLength_1 ?_
  refine r_cV h k_X3_42 (i := 11) (As := []) (rest := []) (c_X0_size h.i h.t (by omega) hc.part) (by omega) hc.part.1 rfl rfl rfl (Nat.le_of_ble_eq_true rfl) ⟨by decide, by decide, by decide, by decide⟩ dX3_partLength_4 (fun _ z => z.elim) (fun v1 c2 p3 => ?_)
  obtain ⟨r, rfl, rfl, rfl⟩ := p3
  exact r_iret h hQ hr dX3_partLength_7 ⟨by decide, by decide⟩ ⟨_, rfl, rfl, rfl⟩
set_option maxRecDepth 100000 in
set_option maxHeartbeats 4000000 in
/-- X3_partAt -/
theorem c_X3_partAt {G : GG} {l : Launch} {c : CC} (hG : InjG G) (hl0 : l.stackTraces = false) {σ : St} (hc : Cls G c σ) (y : Int32) : MC G l yX3_partAt (.code yX3_partAt cX3_partAt 2 (some .int) :: gws) (rmF 7 8 48 116) [.ref (G.1 0), .int y] c (pI (fQ G c (f_partAt σ y))) (pxE (f_partAt σ y) [eIO]) := by
  refine MC.of (by decide) hl0 hG (Nat.le_of_ble_eq_true rfl) (fun X hX h hN hQ hr => ?_)
  subst hX
  have hPl := hc.pl.1
  refine r_aload_n h 0 rfl rfl dX3_partAt_0 ?_
  refine r_getf h F_X3_22 (i := 0) (by omega) hc.o rfl dX3_partAt_1 ?_
  refine r_iload_n h 1 rfl rfl dX3_partAt_4 ?_
  refine r_cS h k_X3_69 (As := [.ref (G.1 11), .int y]) (rest := []) (c_X3_requirePlace h.i h.t (by omega) hc.part y) rfl rfl (Nat.le_of_ble_eq_true rfl) ⟨by decide, by decide, by decide, by decide⟩ dX3_partAt_5 (fun E hE => VX.out h hN hQ ⟨by decide, by decide⟩ (by obtain ⟨rfl, hE⟩ := hE; exact pxE.mk 0 (by simp [f_partAt, opn, hE]) rfl)) (fun v1 c2 p3 => ?_)
  obtain ⟨rfl, rfl, p, hp, rfl⟩ := p3
  refine r_aload_n h 0 rfl rfl dX3_partAt_8 ?_
  refine r_getf h F_X3_22 (i := 0) (by omega) hc.o rfl dX3_partAt_9 ?_
  refine r_iload_n h 1 rfl rfl dX3_partAt_12 ?_
  refine r_cV h k_X3_73 (i := 11) (As := [.int (nI p)]) (rest := []) (c_X0_at h.i h.t (by omega) hc.part (nI (p))) (by omega) hc.part.1 rfl rfl rfl (Nat.le_of_ble_eq_true rfl) ⟨by decide, by decide, by decide, by decide⟩ dX3_partAt_13 (fun _ z => z.elim) (fun v4 c5 p6 => ?_)
  obtain ⟨r, rfl, rfl, rfl⟩ := p6
  rw [atP_nI hp (by omega)]
  exact r_iret h hQ hr dX3_partAt_16 ⟨by decide, by decide⟩ ⟨_, rfl, fQ.of (show f_partAt σ (nI p) = (0, σ.2.1.getD p 0, σ) by simp [f_partAt, opn, plB_yes hp (by omega), ixN_n (show p < 2147483648 by omega)]) (rfl) (hc) (fun _ _ => rfl)⟩
set_option maxRecDepth 100000 in
set_option maxHeartbeats 4000000 in
/-- X3_skip -/
theorem c_X3_skip {G : GG} {l : Launch} {c : CC} (hG : InjG G) (hl0 : l.stackTraces = false) {σ : St} (hc : Cls G c σ) (x m0 : Int32) : MC G l yX3_skip (.code yX3_skip cX3_skip 4 (some .int) :: gws) (rmF 7 8 48 117) [.ref (G.1 0), .int x, .int m0] c (pI (fQ G c (f_skip σ x m0))) (pxE (f_skip σ x m0) [eIO, eIA, eUO]) := by
  refine MC.of (by decide) hl0 hG (Nat.le_of_ble_eq_true rfl) (fun X hX h hN hQ hr => ?_)
  subst hX
  refine r_aload_n h 0 rfl rfl dX3_skip_0 ?_
  refine r_iload_n h 1 rfl rfl dX3_skip_1 ?_
  refine r_cV h k_X3_80 (i := 0) (As := [.int x]) (rest := []) (c_X3_streamAt h.i h.t hc x) (by omega) hc.o rfl rfl rfl (Nat.le_of_ble_eq_true rfl) ⟨by decide, by decide, by decide, by decide⟩ dX3_skip_2 (fun E hE => VX.out h hN hQ ⟨by decide, by decide⟩ (by obtain ⟨rfl, hE⟩ := hE; exact pxE.mk 0 (by simp [f_skip, opn, hE]) rfl)) (fun v1 c2 p3 => ?_)
  obtain ⟨r, rfl, j, hj, rfl, rfl, rfl⟩ := p3
  refine r_astore_n h ([(3, .ref (G.1 (13 + 3 * j))), (0, .ref (G.1 0)), (1, .int (nI j)), (2, .int m0)]) rfl dX3_skip_5 (by decide) rfl ?_
  refine r_iload_n h 3 rfl rfl dX3_skip_6 ?_
  refine r_iconst h (v := nI 0) (by decide) dX3_skip_7 ?_
  refine r_sipush h (v := nI 200) (by decide) dX3_skip_8 ?_
  refine r_cS h k_X3_52 (As := [.int m0, .int (nI 0), .int (nI 200)]) (rest := []) (c_X3_requireBetween h.i h.t m0 (nI (0)) (nI (200))) rfl rfl (Nat.le_of_ble_eq_true rfl) ⟨by decide, by decide, by decide, by decide⟩ dX3_skip_11 (fun E hE => VX.out h hN hQ ⟨by decide, by decide⟩ (by obtain ⟨rfl, hE⟩ := hE; exact pxE.mk 1 (by simp [f_skip, opn, hE, ixB_yes hj, ixN_nI hj]) rfl)) (fun v4 c5 p6 => ?_)
  obtain ⟨rfl, rfl, hbt⟩ := p6
  obtain ⟨m, mlo, mhi, rfl⟩ := btB_nat hbt (by decide) (by decide)
  refine r_aload_n h 0 rfl rfl dX3_skip_14 ?_
  refine r_cS h k_X3_102 (As := [.ref (G.1 (13 + 3 * j))]) (rest := []) (c_X3_requireOpen h.i h.t (by omega) (hc.str hj)) rfl rfl (Nat.le_of_ble_eq_true rfl) ⟨by decide, by decide, by decide, by decide⟩ dX3_skip_15 (fun E hE => VX.out h hN hQ ⟨by decide, by decide⟩ (by obtain ⟨rfl, hE⟩ := hE; exact pxE.mk 2 (by simp [f_skip, opn, hE, ixB_yes hj, ixN_nI hj, hbt, ixN_n (show m < 2147483648 by omega)]) rfl)) (fun v7 c8 p9 => ?_)
  obtain ⟨rfl, rfl, hop⟩ := p9
  refine r_aload_n h 0 rfl rfl dX3_skip_18 ?_
  refine r_iload_n h 3 rfl rfl dX3_skip_19 ?_
  obtain ⟨_, hoj⟩ := (hc.str hj).obj
  refine r_cV h k_X3_110 (i := 13 + 3 * j) (As := [.int (nI m)]) (rest := []) (c_X1_pass h.i h.t (by omega) (hc.str hj) m (by omega)) (by omega) hoj rfl rfl rfl (Nat.le_of_ble_eq_true rfl) ⟨by decide, by decide, by decide, by decide⟩ dX3_skip_20 (fun _ z => z.elim) (fun v13 c10 p14 => ?_)
  obtain ⟨r, rfl, w11, hr2, k12⟩ := p14
  exact r_iret h hQ hr dX3_skip_23 ⟨by decide, by decide⟩ ⟨_, rfl, fQ.of (show f_skip σ (nI j) (nI m) = (0, nI (min m ((sO (σ.2.2 j)).length - sP (σ.2.2 j))), stT σ j (pPn (min m ((sO (σ.2.2 j)).length - sP (σ.2.2 j))) (σ.2.2 j))) by simp [f_skip, opn, ixB_yes hj, ixN_nI hj, hbt, ixN_n (show m < 2147483648 by omega), hop]) (hr2) (hc.setStr hj (fun y a _ _ => k12 y a) w11 (by rw [pPn_K]; exact hc.sk hj)) (fun y hy => (k12 y (by omega)))⟩
set_option maxRecDepth 100000 in
set_option maxHeartbeats 4000000 in
/-- X3_readLine -/
theorem c_X3_readLine {G : GG} {l : Launch} {c : CC} (hG : InjG G) (hl0 : l.stackTraces = false) {σ : St} (hc : Cls G c σ) (x y : Int32) : MC G l yX3_readLine (.code yX3_readLine cX3_readLine 6 (some .int) :: gws) (rmF 7 8 48 116) [.ref (G.1 0), .int x, .int y] c (pI (fQ G c (f_readLine σ x y))) (pxE (f_readLine σ x y) [eIO, eUO, eIS]) := by
  refine MC.of (by decide) hl0 hG (Nat.le_of_ble_eq_true rfl) (fun X hX h hN hQ hr => ?_)
  subst hX
  refine r_aload_n h 0 rfl rfl dX3_readLine_0 ?_
  refine r_iload_n h 1 rfl rfl dX3_readLine_1 ?_
  refine r_cV h k_X3_80 (i := 0) (As := [.int x]) (rest := []) (c_X3_streamAt h.i h.t hc x) (by omega) hc.o rfl rfl rfl (Nat.le_of_ble_eq_true rfl) ⟨by decide, by decide, by decide, by decide⟩ dX3_readLine_2 (fun E hE => VX.out h hN hQ ⟨by decide, by decide⟩ (by obtain ⟨rfl, hE⟩ := hE; exact pxE.mk 0 (by simp [f_readLine, opn, hE]) rfl)) (fun v1 c2 p3 => ?_)
  obtain ⟨r, rfl, j, hj, rfl, rfl, rfl⟩ := p3
  refine r_astore_n h ([(3, .ref (G.1 (13 + 3 * j))), (0, .ref (G.1 0)), (1, .int (nI j)), (2, .int y)]) rfl dX3_readLine_5 (by decide) rfl ?_
  refine r_aload_n h 1 rfl rfl dX3_readLine_6 ?_
  refine r_iload_n h 3 rfl rfl dX3_readLine_7 ?_
  refine r_cV h k_X3_34 (i := 0) (As := [.int y]) (rest := []) (c_X3_sourceAt h.i h.t hc y) (by omega) hc.o rfl rfl rfl (Nat.le_of_ble_eq_true rfl) ⟨by decide, by decide, by decide, by decide⟩ dX3_readLine_8 (fun E hE => VX.out h hN hQ ⟨by decide, by decide⟩ (by obtain ⟨rfl, hE⟩ := hE; exact pxE.mk 0 (by simp [f_readLine, opn, hE, ixB_yes hj, ixN_nI hj]) rfl)) (fun v4 c5 p6 => ?_)
  obtain ⟨r, rfl, i, hi, rfl, rfl, rfl⟩ := p6
  have hLi := hc.rl hi
  have hLli := hLi.1
  refine r_astore h ([(4, .ref (G.1 (3 + 2 * i))), (3, .ref (G.1 (13 + 3 * j))), (0, .ref (G.1 0)), (1, .int (nI j)), (2, .int (nI i))]) dX3_readLine_11 (by decide) rfl ?_
  refine r_aload_n h 1 rfl rfl dX3_readLine_13 ?_
  refine r_cS h k_X3_102 (As := [.ref (G.1 (13 + 3 * j))]) (rest := []) (c_X3_requireOpen h.i h.t (by omega) (hc.str hj)) rfl rfl (Nat.le_of_ble_eq_true rfl) ⟨by decide, by decide, by decide, by decide⟩ dX3_readLine_14 (fun E hE => VX.out h hN hQ ⟨by decide, by decide⟩ (by obtain ⟨rfl, hE⟩ := hE; exact pxE.mk 1 (by simp [f_readLine, opn, hE, ixB_yes hj, ixN_nI hj, ixB_yes hi, ixN_nI hi]) rfl)) (fun v7 c8 p9 => ?_)
  obtain ⟨rfl, rfl, hop⟩ := p9
  refine r_aload_n h 1 rfl rfl dX3_readLine_17 ?_
  have hle := (hc.str hj).2.1.le
  have hPP := (hc.str hj).1.1
  obtain ⟨_, o10⟩ := (hc.str hj).obj
  refine r_cV h k_X3_113 (i := 13 + 3 * j) (As := []) (rest := []) (c_X1_rest h.i h.t (by omega) (hc.str hj)) (by omega) o10 rfl rfl rfl (Nat.le_of_ble_eq_true rfl) ⟨by decide, by decide, by decide, by decide⟩ dX3_readLine_18 (fun _ z => z.elim) (fun v11 c12 p13 => ?_)
  obtain ⟨r, rfl, rfl, rfl⟩ := p13
  refine rn_if_ne h (a := (sO (σ.2.2 j)).length - sP (σ.2.2 j)) (by omega) 26 dX3_readLine_21 (by decide) (fun z => ?_) (fun z => ?_)
  · refine r_aload_n h 1 rfl rfl dX3_readLine_26 ?_
    obtain ⟨_, hoj⟩ := (hc.str hj).obj
    have hnl := nl_le ((sO (σ.2.2 j)).drop (sP (σ.2.2 j)))
    rw [List.length_drop] at hnl
    refine r_cV h k_X3_116 (i := 13 + 3 * j) (As := []) (rest := []) (c_X1_restOfLine h.i h.t (by omega) (hc.str hj)) (by omega) hoj rfl rfl rfl (Nat.le_of_ble_eq_true rfl) ⟨by decide, by decide, by decide, by decide⟩ dX3_readLine_27 (fun _ z => z.elim) (fun v14 c15 p16 => ?_)
    obtain ⟨r, rfl, rfl, rfl⟩ := p16
    refine r_istore h ([(5, .int (nI (nl ((sO (σ.2.2 j)).drop (sP (σ.2.2 j)))))), (4, .ref (G.1 (3 + 2 * i))), (3, .ref (G.1 (13 + 3 * j))), (0, .ref (G.1 0)), (1, .int (nI j)), (2, .int (nI i))]) dX3_readLine_30 (by decide) rfl ?_
    refine r_iload h 0 rfl dX3_readLine_32 ?_
    refine r_cS h k_X3_46 (As := [.int (nI (nl ((sO (σ.2.2 j)).drop (sP (σ.2.2 j)))))]) (rest := []) (c_X3_requireRoom h.i h.t (nl ((sO (σ.2.2 j)).drop (sP (σ.2.2 j)))) (by omega)) rfl rfl (Nat.le_of_ble_eq_true rfl) ⟨by decide, by decide, by decide, by decide⟩ dX3_readLine_34 (fun E hE => VX.out h hN hQ ⟨by decide, by decide⟩ (by obtain ⟨rfl, hE⟩ := hE; exact pxE.mk 2 (by simp [f_readLine, opn, hE, ixB_yes hj, ixN_nI hj, ixB_yes hi, ixN_nI hi, hop, z]) rfl)) (fun v17 c18 p19 => ?_)
    obtain ⟨rfl, rfl, hroom⟩ := p19
    refine r_aload_n h 2 rfl rfl dX3_readLine_37 ?_
    refine r_iload h 0 rfl dX3_readLine_38 ?_
    refine r_aload h 1 rfl dX3_readLine_40 ?_
    refine r_cV h k_X3_119 (i := 13 + 3 * j) (As := [.int (nI (nl ((sO (σ.2.2 j)).drop (sP (σ.2.2 j))))), .ref (G.1 (3 + 2 * i))]) (rest := []) (c_X1_move h.i h.t (by omega) (hc.str hj) (nl ((sO (σ.2.2 j)).drop (sP (σ.2.2 j)))) (by omega) (k := 3 + 2 * i) (by omega) (hc.row hi) (by omega)) (by omega) hoj rfl rfl rfl (Nat.le_of_ble_eq_true rfl) ⟨by decide, by decide, by decide, by decide⟩ dX3_readLine_42 (fun _ z => z.elim) (fun v24 c20 p25 => ?_)
    obtain ⟨rfl, w21, w22, k23⟩ := p25
    refine r_aload_n h 2 rfl rfl dX3_readLine_45 ?_
    obtain ⟨_, o26⟩ := w21.obj
    refine r_cV h k_X3_99 (i := 13 + 3 * j) (As := []) (rest := []) (c_X1_next h.i h.t (by omega) w21) (by omega) o26 rfl rfl rfl (Nat.le_of_ble_eq_true rfl) ⟨by decide, by decide, by decide, by decide⟩ dX3_readLine_46 (fun _ z => z.elim) (fun v30 c27 p31 => ?_)
    obtain ⟨r, rfl, w28, rfl, k29⟩ := p31
    refine r_pop h rfl dX3_readLine_49 ?_
    refine r_iload h 0 rfl dX3_readLine_50 ?_
    exact r_iret h hQ hr dX3_readLine_52 ⟨by decide, by decide⟩ ⟨_, rfl, fQ.of (show f_readLine σ (nI j) (nI i) = (0, nI (nl ((sO (σ.2.2 j)).drop (sP (σ.2.2 j)))), stT (stS σ i (((sO (σ.2.2 j)).drop (sP (σ.2.2 j))).take (nl ((sO (σ.2.2 j)).drop (sP (σ.2.2 j)))))) j (pNx (pPn (nl ((sO (σ.2.2 j)).drop (sP (σ.2.2 j)))) (σ.2.2 j)))) by simp [f_readLine, opn, ixB_yes hj, ixN_nI hj, ixB_yes hi, ixN_nI hi, hop, z, hroom]) (rfl) (hc.setRS hj hi (fun y a b d => (k29 y a).trans (k23 y a b d)) (w22.mono (k29 _ (by omega)) (k29 _ (by omega))) (okL_take (hc.str hj).1 hroom) w28 (by rw [pNx_K, pPn_K]; exact hc.sk hj)) (fun y hy => ((k29 y (by omega)).trans (k23 y (by omega) (by omega) (by omega))))⟩
  · refine r_iconst h (v := -1) (by decide) dX3_readLine_24 ?_
    exact r_iret h hQ hr dX3_readLine_25 ⟨by decide, by decide⟩ ⟨_, rfl, fQ.of (show f_readLine σ (nI j) (nI i) = (0, -1, σ) by simp [f_readLine, opn, ixB_yes hj, ixN_nI hj, ixB_yes hi, ixN_nI hi, hop, z]) (rfl) (hc) (fun _ _ => rfl)⟩
set_option maxRecDepth 100000 in
set_option maxHeartbeats 4000000 in
/-- X3_pour -/
theorem c_X3_pour {G : GG} {l : Launch} {c : CC} (hG : InjG G) (hl0 : l.stackTraces = false) {σ : St} (hc : Cls G c σ) (x y : Int32) : MC G l yX3_pour (.code yX3_pour cX3_pour 6 (some .int) :: gws) (rmF 7 8 48 116) [.ref (G.1 0), .int x, .int y] c (pI (fQ G c (f_pour σ x y))) (pxE (f_pour σ x y) [eIO, eUO, eIS]) := by
  refine MC.of (by decide) hl0 hG (Nat.le_of_ble_eq_true rfl) (fun X hX h hN hQ hr => ?_)
  subst hX
  refine r_aload_n h 0 rfl rfl dX3_pour_0 ?_
  refine r_iload_n h 1 rfl rfl dX3_pour_1 ?_
  refine r_cV h k_X3_80 (i := 0) (As := [.int x]) (rest := []) (c_X3_streamAt h.i h.t hc x) (by omega) hc.o rfl rfl rfl (Nat.le_of_ble_eq_true rfl) ⟨by decide, by decide, by decide, by decide⟩ dX3_pour_2 (fun E hE => VX.out h hN hQ ⟨by decide, by decide⟩ (by obtain ⟨rfl, hE⟩ := hE; exact pxE.mk 0 (by simp [f_pour, opn, hE]) rfl)) (fun v1 c2 p3 => ?_)
  obtain ⟨r, rfl, j, hj, rfl, rfl, rfl⟩ := p3
  refine r_astore_n h ([(3, .ref (G.1 (13 + 3 * j))), (0, .ref (G.1 0)), (1, .int (nI j)), (2, .int y)]) rfl dX3_pour_5 (by decide) rfl ?_
  refine r_aload_n h 1 rfl rfl dX3_pour_6 ?_
  refine r_iload_n h 3 rfl rfl dX3_pour_7 ?_
  refine r_cV h k_X3_34 (i := 0) (As := [.int y]) (rest := []) (c_X3_sourceAt h.i h.t hc y) (by omega) hc.o rfl rfl rfl (Nat.le_of_ble_eq_true rfl) ⟨by decide, by decide, by decide, by decide⟩ dX3_pour_8 (fun E hE => VX.out h hN hQ ⟨by decide, by decide⟩ (by obtain ⟨rfl, hE⟩ := hE; exact pxE.mk 0 (by simp [f_pour, opn, hE, ixB_yes hj, ixN_nI hj]) rfl)) (fun v4 c5 p6 => ?_)
  obtain ⟨r, rfl, i, hi, rfl, rfl, rfl⟩ := p6
  have hLi := hc.rl hi
  have hLli := hLi.1
  refine r_astore h ([(4, .ref (G.1 (3 + 2 * i))), (3, .ref (G.1 (13 + 3 * j))), (0, .ref (G.1 0)), (1, .int (nI j)), (2, .int (nI i))]) dX3_pour_11 (by decide) rfl ?_
  refine r_aload_n h 1 rfl rfl dX3_pour_13 ?_
  refine r_cS h k_X3_102 (As := [.ref (G.1 (13 + 3 * j))]) (rest := []) (c_X3_requireOpen h.i h.t (by omega) (hc.str hj)) rfl rfl (Nat.le_of_ble_eq_true rfl) ⟨by decide, by decide, by decide, by decide⟩ dX3_pour_14 (fun E hE => VX.out h hN hQ ⟨by decide, by decide⟩ (by obtain ⟨rfl, hE⟩ := hE; exact pxE.mk 1 (by simp [f_pour, opn, hE, ixB_yes hj, ixN_nI hj, ixB_yes hi, ixN_nI hi]) rfl)) (fun v7 c8 p9 => ?_)
  obtain ⟨rfl, rfl, hop⟩ := p9
  refine r_aload_n h 1 rfl rfl dX3_pour_17 ?_
  have hle := (hc.str hj).2.1.le
  have hPP := (hc.str hj).1.1
  obtain ⟨_, o10⟩ := (hc.str hj).obj
  refine r_cV h k_X3_113 (i := 13 + 3 * j) (As := []) (rest := []) (c_X1_rest h.i h.t (by omega) (hc.str hj)) (by omega) o10 rfl rfl rfl (Nat.le_of_ble_eq_true rfl) ⟨by decide, by decide, by decide, by decide⟩ dX3_pour_18 (fun _ z => z.elim) (fun v11 c12 p13 => ?_)
  obtain ⟨r, rfl, rfl, rfl⟩ := p13
  refine r_istore h ([(5, .int (nI ((sO (σ.2.2 j)).length - sP (σ.2.2 j)))), (4, .ref (G.1 (3 + 2 * i))), (3, .ref (G.1 (13 + 3 * j))), (0, .ref (G.1 0)), (1, .int (nI j)), (2, .int (nI i))]) dX3_pour_21 (by decide) rfl ?_
  refine r_iload h 0 rfl dX3_pour_23 ?_
  refine r_cS h k_X3_46 (As := [.int (nI ((sO (σ.2.2 j)).length - sP (σ.2.2 j)))]) (rest := []) (c_X3_requireRoom h.i h.t ((sO (σ.2.2 j)).length - sP (σ.2.2 j)) (by omega)) rfl rfl (Nat.le_of_ble_eq_true rfl) ⟨by decide, by decide, by decide, by decide⟩ dX3_pour_25 (fun E hE => VX.out h hN hQ ⟨by decide, by decide⟩ (by obtain ⟨rfl, hE⟩ := hE; exact pxE.mk 2 (by simp [f_pour, opn, hE, ixB_yes hj, ixN_nI hj, ixB_yes hi, ixN_nI hi, hop]) rfl)) (fun v14 c15 p16 => ?_)
  obtain ⟨rfl, rfl, hroom⟩ := p16
  refine r_aload_n h 2 rfl rfl dX3_pour_28 ?_
  refine r_iload h 0 rfl dX3_pour_29 ?_
  refine r_aload h 1 rfl dX3_pour_31 ?_
  obtain ⟨_, hoj⟩ := (hc.str hj).obj
  refine r_cV h k_X3_119 (i := 13 + 3 * j) (As := [.int (nI ((sO (σ.2.2 j)).length - sP (σ.2.2 j))), .ref (G.1 (3 + 2 * i))]) (rest := []) (c_X1_move h.i h.t (by omega) (hc.str hj) ((sO (σ.2.2 j)).length - sP (σ.2.2 j)) (by omega) (k := 3 + 2 * i) (by omega) (hc.row hi) (by omega)) (by omega) hoj rfl rfl rfl (Nat.le_of_ble_eq_true rfl) ⟨by decide, by decide, by decide, by decide⟩ dX3_pour_33 (fun _ z => z.elim) (fun v21 c17 p22 => ?_)
  obtain ⟨rfl, w18, w19, k20⟩ := p22
  refine r_iload h 0 rfl dX3_pour_36 ?_
  exact r_iret h hQ hr dX3_pour_38 ⟨by decide, by decide⟩ ⟨_, rfl, fQ.of (show f_pour σ (nI j) (nI i) = (0, nI ((sO (σ.2.2 j)).length - sP (σ.2.2 j)), stT (stS σ i (((sO (σ.2.2 j)).drop (sP (σ.2.2 j))).take ((sO (σ.2.2 j)).length - sP (σ.2.2 j)))) j (pPn ((sO (σ.2.2 j)).length - sP (σ.2.2 j)) (σ.2.2 j))) by simp [f_pour, opn, ixB_yes hj, ixN_nI hj, ixB_yes hi, ixN_nI hi, hop, hroom]) (rfl) (hc.setRS hj hi k20 w19 (okL_take (hc.str hj).1 hroom) w18 (by rw [pPn_K]; exact hc.sk hj)) (fun y hy => (k20 y (by omega) (by omega) (by omega)))⟩
set_option maxRecDepth 100000 in
set_option maxHeartbeats 4000000 in
/-- X3_countAlike -/
theorem c_X3_countAlike {G : GG} {l : Launch} {c : CC} (hG : InjG G) (hl0 : l.stackTraces = false) {a b : Nat} (ha : a < 46) (hb : b < 46) (hab : a + 2 < b ∨ b + 2 < a) {t u : Stm} (hw : StrAt G c a t) (hv : StrAt G c b u) : MC G l yX3_countAlike (.code yX3_countAlike cX3_countAlike 6 (some .int) :: gws) (rmF 2 0 0 47) [.ref (G.1 a), .ref (G.1 b)] c (pI (fun r c' => nI (alk ((sO t).length - sP t) 0 t u).1 = r ∧ StrAt G c' a (alk ((sO t).length - sP t) 0 t u).2.1 ∧ StrAt G c' b (alk ((sO t).length - sP t) 0 t u).2.2 ∧ ∀ y : Nat, y ≠ a → y ≠ b → c' y = c y)) (pF) := by
  refine MC.of (by decide) hl0 hG (Nat.le_of_ble_eq_true rfl) (fun X hX h hN hQ hr => ?_)
  subst hX
  have hle := hw.2.1.le
  refine r_aload_n h 0 rfl rfl dX3_countAlike_0 ?_
  obtain ⟨_, o1⟩ := hw.obj
  refine r_cV h k_X3_113 (i := a) (As := []) (rest := []) (c_X1_rest h.i h.t (by omega) hw) (by omega) o1 rfl rfl rfl (Nat.le_of_ble_eq_true rfl) ⟨by decide, by decide, by decide, by decide⟩ dX3_countAlike_1 (fun _ z => z.elim) (fun v2 c3 p4 => ?_)
  obtain ⟨r, rfl, rfl, rfl⟩ := p4
  generalize hm : (sO t).length - sP t = m
  rw [hm] at hQ
  have hm2 : m ≤ 240 := by omega
  refine r_istore_n h ([(2, .int (nI m)), (0, .ref (G.1 a)), (1, .ref (G.1 b))]) rfl dX3_countAlike_4 (by decide) rfl ?_
  refine r_iconst h (v := nI 0) (by decide) dX3_countAlike_5 ?_
  refine r_istore_n h ([(3, .int (nI 0)), (2, .int (nI m)), (0, .ref (G.1 a)), (1, .ref (G.1 b))]) rfl dX3_countAlike_6 (by decide) rfl ?_
  have loop : ∀ (n s : Nat) (c1 : CC) (t1 u1 : Stm), m + 1 ≤ s + n → s ≤ m → StrAt G c1 a t1 → StrAt G c1 b u1 → alk m 0 t u = alk (m - s) s t1 u1 → (∀ y : Nat, y ≠ a → y ≠ b → c1 y = c y) → V G X c1 [(0, .ref (G.1 a)), (1, .ref (G.1 b)), (2, .int (nI m)), (3, .int (nI s))] 0 0 7 [] := by
    intro n
    induction n with
    | zero => intro s c1 t1 u1 a1 a2; exact absurd a1 (by omega)
    | succ n ih =>
      intro s c1 t1 u1 a1 a2 w1 w2 a3 k1
      refine r_iload_n h 3 rfl rfl dX3_countAlike_7 ?_
      refine r_iload_n h 2 rfl rfl dX3_countAlike_8 ?_
      refine rn_icmp_ge h (a := s) (b := m) (by omega) (by omega) 39 dX3_countAlike_9 (by decide) (fun q => ?_) (fun q => ?_)
      · refine r_aload_n h 1 rfl rfl dX3_countAlike_39 ?_
        obtain ⟨_, o5⟩ := w2.obj
        refine r_cV h k_X3_99 (i := b) (As := []) (rest := []) (c_X1_next h.i h.t (by omega) w2) (by omega) o5 rfl rfl rfl (Nat.le_of_ble_eq_true rfl) ⟨by decide, by decide, by decide, by decide⟩ dX3_countAlike_40 (fun _ z => z.elim) (fun v9 c6 p10 => ?_)
        obtain ⟨r, rfl, w7, rfl, k8⟩ := p10
        have g11 := w1.mono (k8 (a) (by omega)) (k8 (a + 1) (by omega)) (k8 (a + 2) (by omega))
        refine r_pop h rfl dX3_countAlike_43 ?_
        refine r_iload_n h 2 rfl rfl dX3_countAlike_44 ?_
        have e : alk m 0 t u = (m, t1, pNx u1) := by rw [a3, show m - s = 0 by omega, show s = m by omega]; rfl
        exact r_iret h hQ hr dX3_countAlike_45 ⟨by decide, by decide⟩ ⟨_, rfl, by rw [e], by rw [e]; exact g11, by rw [e]; exact w7, fun y p q => (k8 y q).trans (k1 y p q)⟩
      · have e : alk m 0 t u = if nxA t1 = nxA u1 then alk (m - (s + 1)) (s + 1) (pNx t1) (pNx u1) else (s, pNx t1, pNx u1) := by rw [a3, show m - s = (m - (s + 1)) + 1 by omega, alk_s]
        refine r_aload_n h 0 rfl rfl dX3_countAlike_12 ?_
        obtain ⟨_, o12⟩ := w1.obj
        refine r_cV h k_X3_99 (i := a) (As := []) (rest := []) (c_X1_next h.i h.t (by omega) w1) (by omega) o12 rfl rfl rfl (Nat.le_of_ble_eq_true rfl) ⟨by decide, by decide, by decide, by decide⟩ dX3_countAlike_13 (fun _ z => z.elim) (fun v16 c13 p17 => ?_)
        obtain ⟨r, rfl, w14, rfl, k15⟩ := p17
        have g18 := w2.mono (k15 (b) (by omega)) (k15 (b + 1) (by omega)) (k15 (b + 2) (by omega))
        refine r_istore h ([(4, .int (nxA t1)), (0, .ref (G.1 a)), (1, .ref (G.1 b)), (2, .int (nI m)), (3, .int (nI s))]) dX3_countAlike_16 (by decide) rfl ?_
        refine r_aload_n h 2 rfl rfl dX3_countAlike_18 ?_
        obtain ⟨_, o19⟩ := g18.obj
        refine r_cV h k_X3_99 (i := b) (As := []) (rest := []) (c_X1_next h.i h.t (by omega) g18) (by omega) o19 rfl rfl rfl (Nat.le_of_ble_eq_true rfl) ⟨by decide, by decide, by decide, by decide⟩ dX3_countAlike_19 (fun _ z => z.elim) (fun v23 c20 p24 => ?_)
        obtain ⟨r, rfl, w21, rfl, k22⟩ := p24
        have g25 := w14.mono (k22 (a) (by omega)) (k22 (a + 1) (by omega)) (k22 (a + 2) (by omega))
        refine r_istore h ([(5, .int (nxA u1)), (4, .int (nxA t1)), (0, .ref (G.1 a)), (1, .ref (G.1 b)), (2, .int (nI m)), (3, .int (nI s))]) dX3_countAlike_22 (by decide) rfl ?_
        refine r_iload h 1 rfl dX3_countAlike_24 ?_
        refine r_iload h 0 rfl dX3_countAlike_26 ?_
        refine r_icmp_eq h 33 dX3_countAlike_28 (by decide) (fun v => ?_) (fun v => ?_)
        · refine r_iinc h 5 ([(3, .int (nI (s + 1))), (5, .int (nxA u1)), (4, .int (nxA t1)), (0, .ref (G.1 a)), (1, .ref (G.1 b)), (2, .int (nI m))]) rfl (inc_1 (s)) dX3_countAlike_33 (by decide) rfl ?_
          refine r_goto h 7 dX3_countAlike_36 (by decide) ?_
          refine V_lv [3, 4, 5, 0] rfl ?_
          exact ih (s + 1) c20 _ _ (by omega) (by omega) g25 w21 (by rw [e, if_pos v]) (fun y p q => ((k22 y q).trans (k15 y p)).trans (k1 y p q))
        · refine r_iload_n h 5 rfl rfl dX3_countAlike_31 ?_
          exact r_iret h hQ hr dX3_countAlike_32 ⟨by decide, by decide⟩ ⟨_, rfl, by rw [e, if_neg v], by rw [e, if_neg v]; exact g25, by rw [e, if_neg v]; exact w21, fun y p q => ((k22 y q).trans (k15 y p)).trans (k1 y p q)⟩
  refine V_lv [2, 3, 1, 0] rfl ?_
  exact loop (m + 1) 0 c t u (by omega) (by omega) hw hv rfl (fun _ _ _ => rfl)
set_option maxRecDepth 100000 in
set_option maxHeartbeats 4000000 in
/-- X3_alike -/
theorem c_X3_alike {G : GG} {l : Launch} {c : CC} (hG : InjG G) (hl0 : l.stackTraces = false) {σ : St} (hc : Cls G c σ) (x y : Int32) : MC G l yX3_alike (.code yX3_alike cX3_alike 5 (some .int) :: gws) (rmF 7 8 48 116) [.ref (G.1 0), .int x, .int y] c (pI (fQ G c (f_alike σ x y))) (pxE (f_alike σ x y) [eIO, eIA, eUO]) := by
  refine MC.of (by decide) hl0 hG (Nat.le_of_ble_eq_true rfl) (fun X hX h hN hQ hr => ?_)
  subst hX
  refine r_aload_n h 0 rfl rfl dX3_alike_0 ?_
  refine r_iload_n h 1 rfl rfl dX3_alike_1 ?_
  refine r_cV h k_X3_80 (i := 0) (As := [.int x]) (rest := []) (c_X3_streamAt h.i h.t hc x) (by omega) hc.o rfl rfl rfl (Nat.le_of_ble_eq_true rfl) ⟨by decide, by decide, by decide, by decide⟩ dX3_alike_2 (fun E hE => VX.out h hN hQ ⟨by decide, by decide⟩ (by obtain ⟨rfl, hE⟩ := hE; exact pxE.mk 0 (by simp [f_alike, opn, hE]) rfl)) (fun v1 c2 p3 => ?_)
  obtain ⟨r, rfl, j, hj, rfl, rfl, rfl⟩ := p3
  refine r_astore_n h ([(3, .ref (G.1 (13 + 3 * j))), (0, .ref (G.1 0)), (1, .int (nI j)), (2, .int y)]) rfl dX3_alike_5 (by decide) rfl ?_
  refine r_aload_n h 1 rfl rfl dX3_alike_6 ?_
  refine r_iload_n h 3 rfl rfl dX3_alike_7 ?_
  refine r_cV h k_X3_80 (i := 0) (As := [.int y]) (rest := []) (c_X3_streamAt h.i h.t hc y) (by omega) hc.o rfl rfl rfl (Nat.le_of_ble_eq_true rfl) ⟨by decide, by decide, by decide, by decide⟩ dX3_alike_8 (fun E hE => VX.out h hN hQ ⟨by decide, by decide⟩ (by obtain ⟨rfl, hE⟩ := hE; exact pxE.mk 0 (by simp [f_alike, opn, hE, ixB_yes hj, ixN_nI hj]) rfl)) (fun v4 c5 p6 => ?_)
  obtain ⟨r, rfl, i, hi, rfl, rfl, rfl⟩ := p6
  refine r_astore h ([(4, .ref (G.1 (13 + 3 * i))), (3, .ref (G.1 (13 + 3 * j))), (0, .ref (G.1 0)), (1, .int (nI j)), (2, .int (nI i))]) dX3_alike_11 (by decide) rfl ?_
  refine r_iload_n h 3 rfl rfl dX3_alike_13 ?_
  refine r_iload_n h 4 rfl rfl dX3_alike_14 ?_
  refine rn_icmp_ne h (a := j) (b := i) (by omega) (by omega) 28 dX3_alike_15 (by decide) (fun z => ?_) (fun z => ?_)
  · refine r_aload_n h 1 rfl rfl dX3_alike_28 ?_
    refine r_cS h k_X3_102 (As := [.ref (G.1 (13 + 3 * j))]) (rest := []) (c_X3_requireOpen h.i h.t (by omega) (hc.str hj)) rfl rfl (Nat.le_of_ble_eq_true rfl) ⟨by decide, by decide, by decide, by decide⟩ dX3_alike_29 (fun E hE => VX.out h hN hQ ⟨by decide, by decide⟩ (by obtain ⟨rfl, hE⟩ := hE; exact pxE.mk 2 (by simp [f_alike, opn, hE, ixB_yes hj, ixN_nI hj, ixB_yes hi, ixN_nI hi, nI_ne hj hi z]) rfl)) (fun v7 c8 p9 => ?_)
    obtain ⟨rfl, rfl, hop⟩ := p9
    refine r_aload h 0 rfl dX3_alike_32 ?_
    refine r_cS h k_X3_102 (As := [.ref (G.1 (13 + 3 * i))]) (rest := []) (c_X3_requireOpen h.i h.t (by omega) (hc.str hi)) rfl rfl (Nat.le_of_ble_eq_true rfl) ⟨by decide, by decide, by decide, by decide⟩ dX3_alike_34 (fun E hE => VX.out h hN hQ ⟨by decide, by decide⟩ (by obtain ⟨rfl, hE⟩ := hE; exact pxE.mk 2 (by simp [f_alike, opn, hE, ixB_yes hj, ixN_nI hj, ixB_yes hi, ixN_nI hi, nI_ne hj hi z, hop]) rfl)) (fun v10 c11 p12 => ?_)
    obtain ⟨rfl, rfl, hop2⟩ := p12
    refine r_aload_n h 1 rfl rfl dX3_alike_37 ?_
    refine r_aload h 0 rfl dX3_alike_38 ?_
    have hle := (hc.str hj).2.1.le
    refine r_cS h k_X3_128 (As := [.ref (G.1 (13 + 3 * j)), .ref (G.1 (13 + 3 * i))]) (rest := []) (c_X3_countAlike h.i h.t (by omega) (by omega) (by omega) (hc.str hj) (hc.str hi)) rfl rfl (Nat.le_of_ble_eq_true rfl) ⟨by decide, by decide, by decide, by decide⟩ dX3_alike_40 (fun _ z => z.elim) (fun v17 c13 p18 => ?_)
    obtain ⟨r, rfl, hr2, w14, w15, k16⟩ := p18
    exact r_iret h hQ hr dX3_alike_43 ⟨by decide, by decide⟩ ⟨_, rfl, fQ.of (show f_alike σ (nI j) (nI i) = (0, nI (alk ((sO (σ.2.2 j)).length - sP (σ.2.2 j)) 0 (σ.2.2 j) (σ.2.2 i)).1, stT (stT σ j (alk ((sO (σ.2.2 j)).length - sP (σ.2.2 j)) 0 (σ.2.2 j) (σ.2.2 i)).2.1) i (alk ((sO (σ.2.2 j)).length - sP (σ.2.2 j)) 0 (σ.2.2 j) (σ.2.2 i)).2.2) by simp [f_alike, opn, ixB_yes hj, ixN_nI hj, ixB_yes hi, ixN_nI hi, nI_ne hj hi z, hop, hop2]) (hr2) (hc.set2 hj hi z k16 w14 (by rw [(alk_K _ _ _ _).1]; exact hc.sk hj) w15 (by rw [(alk_K _ _ _ _).2]; exact hc.sk hi)) (fun y hy => (k16 y (by omega) (by omega)))⟩
  · subst z
    exact r_throw h hN hQ th1 (List.mem_of_getElem? (i := 8) rfl) dX3_alike_18 dX3_alike_21 dX3_alike_22 dX3_alike_24 dX3_alike_27 ⟨by decide, Nat.le_of_ble_eq_true rfl, by decide, by decide⟩ (pxE.mk 1 (by simp [f_alike, ixB_yes hj, ixN_nI hj]) rfl)
