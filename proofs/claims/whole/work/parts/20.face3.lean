/-! THE FACE of the class, three: going back, lines, checks, figures -/
set_option maxRecDepth 100000 in
set_option maxHeartbeats 4000000 in
/-- X3_canMark -/
theorem c_X3_canMark {G : GG} {l : Launch} {c : CC} (hG : InjG G) (hl0 : l.stackTraces = false) {σ : St} (hc : Cls G c σ) (x : Int32) : MC G l yX3_canMark (.code yX3_canMark cX3_canMark 2 (some .boolean) :: gws) (rmF 8 8 48 138) [.ref (G.1 0), .int x] c (pI (fQ G c (f_canMark σ x))) (pxE (f_canMark σ x) [eIO, eUO]) := by
  refine MC.of (by decide) hl0 hG (Nat.le_of_ble_eq_true rfl) (fun X hX h hN hQ hr => ?_)
  subst hX
  refine r_aload_n h 0 rfl rfl dX3_canMark_0 ?_
  refine r_iload_n h 1 rfl rfl dX3_canMark_1 ?_
  refine r_cV h k_X3_96 (i := 0) (As := [.int x]) (rest := []) (c_X3_openStreamAt h.i h.t hc x) (by omega) hc.o rfl rfl rfl (Nat.le_of_ble_eq_true rfl) ⟨by decide, by decide, by decide, by decide⟩ dX3_canMark_2 (fun E hE => VX.out h hN hQ ⟨by decide, by decide⟩ (hE.elim (fun hF => by obtain ⟨rfl, hF⟩ := hF; exact pxE.mk 0 (by simp [f_canMark, opn, hF]) rfl) (fun hF => by obtain ⟨rfl, hF, hF2⟩ := hF; exact pxE.mk 1 (by simp [f_canMark, opn, hF, hF2]) rfl))) (fun v1 c2 p3 => ?_)
  obtain ⟨r, rfl, j, hj, rfl, rfl, rfl, hop⟩ := p3
  obtain ⟨hok, hrow, rg, mp, ml, h0, hrg, hmk⟩ := id (hc.str hj)
  have hP : sP (σ.2.2 j) ≤ (sO (σ.2.2 j)).length := hok.1
  have hle : (sO (σ.2.2 j)).length ≤ 240 := hrow.le
  refine r_getN h F_X3_92 (i := 13 + 3 * j) (by omega) h0 rfl dX3_canMark_5 ?_
  refine r_cS h k_X3_132 (As := [.int (sK (σ.2.2 j))]) (rest := []) (c_X3_canBeMarked h.i h.t (sK (σ.2.2 j))) rfl rfl (Nat.le_of_ble_eq_true rfl) ⟨by decide, by decide, by decide, by decide⟩ dX3_canMark_8 (fun _ z => z.elim) (fun v4 c5 p6 => ?_)
  obtain ⟨r, rfl, rfl, rfl⟩ := p6
  exact r_zret h hQ hr (by split <;> decide) dX3_canMark_11 ⟨by decide, by decide⟩ ⟨_, rfl, fQ.of (show f_canMark σ (nI j) = (0, (if canM (sK (σ.2.2 j)) = true then 1 else 0), σ) by simp [f_canMark, opn, ixB_yes hj, ixN_nI hj, hop]) (rfl) (hc) (fun _ _ => rfl)⟩
set_option maxRecDepth 100000 in
set_option maxHeartbeats 4000000 in
/-- X3_mark -/
theorem c_X3_mark {G : GG} {l : Launch} {c : CC} (hG : InjG G) (hl0 : l.stackTraces = false) {σ : St} (hc : Cls G c σ) (x : Int32) : MC G l yX3_mark (.code yX3_mark cX3_mark 3 (some .int) :: gws) (rmF 8 8 48 138) [.ref (G.1 0), .int x] c (pI (fQ G c (f_mark σ x))) (pxE (f_mark σ x) [eIO, eUO]) := by
  refine MC.of (by decide) hl0 hG (Nat.le_of_ble_eq_true rfl) (fun X hX h hN hQ hr => ?_)
  subst hX
  refine r_aload_n h 0 rfl rfl dX3_mark_0 ?_
  refine r_iload_n h 1 rfl rfl dX3_mark_1 ?_
  refine r_cV h k_X3_96 (i := 0) (As := [.int x]) (rest := []) (c_X3_openStreamAt h.i h.t hc x) (by omega) hc.o rfl rfl rfl (Nat.le_of_ble_eq_true rfl) ⟨by decide, by decide, by decide, by decide⟩ dX3_mark_2 (fun E hE => VX.out h hN hQ ⟨by decide, by decide⟩ (hE.elim (fun hF => by obtain ⟨rfl, hF⟩ := hF; exact pxE.mk 0 (by simp [f_mark, opn, hF]) rfl) (fun hF => by obtain ⟨rfl, hF, hF2⟩ := hF; exact pxE.mk 1 (by simp [f_mark, opn, hF, hF2]) rfl))) (fun v1 c2 p3 => ?_)
  obtain ⟨r, rfl, j, hj, rfl, rfl, rfl, hop⟩ := p3
  obtain ⟨hok, hrow, rg, mp, ml, h0, hrg, hmk⟩ := id (hc.str hj)
  have hP : sP (σ.2.2 j) ≤ (sO (σ.2.2 j)).length := hok.1
  have hle : (sO (σ.2.2 j)).length ≤ 240 := hrow.le
  refine r_astore_n h ([(2, .ref (G.1 (13 + 3 * j))), (0, .ref (G.1 0)), (1, .int (nI j))]) rfl dX3_mark_5 (by decide) rfl ?_
  refine r_aload_n h 0 rfl rfl dX3_mark_6 ?_
  refine r_getN h F_X3_92 (i := 13 + 3 * j) (by omega) h0 rfl dX3_mark_7 ?_
  refine r_cS h k_X3_132 (As := [.int (sK (σ.2.2 j))]) (rest := []) (c_X3_canBeMarked h.i h.t (sK (σ.2.2 j))) rfl rfl (Nat.le_of_ble_eq_true rfl) ⟨by decide, by decide, by decide, by decide⟩ dX3_mark_10 (fun _ z => z.elim) (fun v4 c5 p6 => ?_)
  obtain ⟨r, rfl, rfl, rfl⟩ := p6
  refine r_cS h k_X3_135 (As := [.int (if canM (sK (σ.2.2 j)) = true then 1 else 0)]) (rest := []) (c_X3_require h.i h.t (canM (sK (σ.2.2 j)))) rfl rfl (Nat.le_of_ble_eq_true rfl) ⟨by decide, by decide, by decide, by decide⟩ dX3_mark_13 (fun E hE => VX.out h hN hQ ⟨by decide, by decide⟩ (by obtain ⟨rfl, hE⟩ := hE; exact pxE.mk 1 (by simp [f_mark, opn, hE, ixB_yes hj, ixN_nI hj, hop]) rfl)) (fun v7 c8 p9 => ?_)
  obtain ⟨rfl, rfl, hb⟩ := p9
  refine r_aload_n h 0 rfl rfl dX3_mark_16 ?_
  obtain ⟨_, hoj⟩ := (hc.str hj).obj
  refine r_cV h k_X3_139 (i := 13 + 3 * j) (As := []) (rest := []) (c_X1_setMark h.i h.t (by omega) (hc.str hj)) (by omega) hoj rfl rfl rfl (Nat.le_of_ble_eq_true rfl) ⟨by decide, by decide, by decide, by decide⟩ dX3_mark_17 (fun _ z => z.elim) (fun v13 c10 p14 => ?_)
  obtain ⟨rfl, w11, k12⟩ := p14
  refine r_aload_n h 0 rfl rfl dX3_mark_20 ?_
  obtain ⟨_, o15⟩ := w11.obj
  refine r_cV h k_X3_142 (i := 13 + 3 * j) (As := []) (rest := []) (c_X1_shownLine h.i h.t (by omega) w11) (by omega) o15 rfl rfl rfl (Nat.le_of_ble_eq_true rfl) ⟨by decide, by decide, by decide, by decide⟩ dX3_mark_21 (fun _ z => z.elim) (fun v16 c17 p18 => ?_)
  obtain ⟨r, rfl, rfl, rfl⟩ := p18
  exact r_iret h hQ hr dX3_mark_24 ⟨by decide, by decide⟩ ⟨_, rfl, fQ.of (show f_mark σ (nI j) = (0, shL (σ.2.2 j), stT σ j (pMk (σ.2.2 j))) by simp [f_mark, opn, ixB_yes hj, ixN_nI hj, hop, hb]) (rfl) (hc.setStr hj (fun y a _ _ => k12 y a) w11 (hc.sk hj)) (fun y hy => (k12 y (by omega)))⟩
set_option maxRecDepth 100000 in
set_option maxHeartbeats 4000000 in
/-- X3_back -/
theorem c_X3_back {G : GG} {l : Launch} {c : CC} (hG : InjG G) (hl0 : l.stackTraces = false) {σ : St} (hc : Cls G c σ) (x : Int32) : MC G l yX3_back (.code yX3_back cX3_back 3 (some .int) :: gws) (rmF 8 8 48 138) [.ref (G.1 0), .int x] c (pI (fQ G c (f_back σ x))) (pxE (f_back σ x) [eIO, eUO]) := by
  refine MC.of (by decide) hl0 hG (Nat.le_of_ble_eq_true rfl) (fun X hX h hN hQ hr => ?_)
  subst hX
  refine r_aload_n h 0 rfl rfl dX3_back_0 ?_
  refine r_iload_n h 1 rfl rfl dX3_back_1 ?_
  refine r_cV h k_X3_96 (i := 0) (As := [.int x]) (rest := []) (c_X3_openStreamAt h.i h.t hc x) (by omega) hc.o rfl rfl rfl (Nat.le_of_ble_eq_true rfl) ⟨by decide, by decide, by decide, by decide⟩ dX3_back_2 (fun E hE => VX.out h hN hQ ⟨by decide, by decide⟩ (hE.elim (fun hF => by obtain ⟨rfl, hF⟩ := hF; exact pxE.mk 0 (by simp [f_back, opn, hF]) rfl) (fun hF => by obtain ⟨rfl, hF, hF2⟩ := hF; exact pxE.mk 1 (by simp [f_back, opn, hF, hF2]) rfl))) (fun v1 c2 p3 => ?_)
  obtain ⟨r, rfl, j, hj, rfl, rfl, rfl, hop⟩ := p3
  obtain ⟨hok, hrow, rg, mp, ml, h0, hrg, hmk⟩ := id (hc.str hj)
  have hP : sP (σ.2.2 j) ≤ (sO (σ.2.2 j)).length := hok.1
  have hle : (sO (σ.2.2 j)).length ≤ 240 := hrow.le
  refine r_astore_n h ([(2, .ref (G.1 (13 + 3 * j))), (0, .ref (G.1 0)), (1, .int (nI j))]) rfl dX3_back_5 (by decide) rfl ?_
  refine r_aload_n h 0 rfl rfl dX3_back_6 ?_
  refine r_getN h F_X3_145 (i := 13 + 3 * j) (by omega) h0 rfl dX3_back_7 ?_
  refine r_iconst h (v := -1) (by decide) dX3_back_10 ?_
  have hmk2 : mkA (sK (σ.2.2 j)) (sX (σ.2.2 j)) mp ml := hmk.resolve_left hop
  have hpb := pBp_none hmk2 hok hle
  refine r_icmp_eq h 18 dX3_back_11 (by decide) (fun v => ?_) (fun v => ?_)
  · have hn : pBp (σ.2.2 j) = none := hpb.1 v
    refine r_iconst h (v := nI 0) (by decide) dX3_back_18 ?_
    rw [show nI 0 = (if false = true then (1:Int32) else 0) from rfl]
    refine r_cS h k_X3_135 (As := [.int (if false = true then 1 else 0)]) (rest := []) (c_X3_require h.i h.t false) rfl rfl (Nat.le_of_ble_eq_true rfl) ⟨by decide, by decide, by decide, by decide⟩ dX3_back_19 (fun E hE => VX.out h hN hQ ⟨by decide, by decide⟩ (by obtain ⟨rfl, hE⟩ := hE; exact pxE.mk 1 (by simp [f_back, opn, ixB_yes hj, ixN_nI hj, hop, hn]) rfl)) (fun v4 c5 p6 => ?_)
    obtain ⟨rfl, rfl, hb⟩ := p6
    cases hb
  · obtain ⟨⟨pp, pn⟩, hs⟩ := hpb.2 v
    have hs : pBp (σ.2.2 j) = some (pp, pn) := hs
    refine r_iconst h (v := nI 1) (by decide) dX3_back_14 ?_
    refine r_goto h 19 dX3_back_15 (by decide) ?_
    rw [show nI 1 = (if true = true then (1:Int32) else 0) from rfl]
    refine r_cS h k_X3_135 (As := [.int (if true = true then 1 else 0)]) (rest := []) (c_X3_require h.i h.t true) rfl rfl (Nat.le_of_ble_eq_true rfl) ⟨by decide, by decide, by decide, by decide⟩ dX3_back_19 (fun E hE => absurd hE.2 (by decide)) (fun v7 c8 p9 => ?_)
    obtain ⟨rfl, rfl, -⟩ := p9
    refine r_aload_n h 0 rfl rfl dX3_back_22 ?_
    obtain ⟨_, hoj⟩ := (hc.str hj).obj
    refine r_cV h k_X3_148 (i := 13 + 3 * j) (As := []) (rest := []) (c_X1_goBack h.i h.t (by omega) (hc.str hj) pp pn hs hop) (by omega) hoj rfl rfl rfl (Nat.le_of_ble_eq_true rfl) ⟨by decide, by decide, by decide, by decide⟩ dX3_back_23 (fun _ z => z.elim) (fun v13 c10 p14 => ?_)
    obtain ⟨rfl, w11, k12⟩ := p14
    refine r_aload_n h 0 rfl rfl dX3_back_26 ?_
    obtain ⟨_, o15⟩ := w11.obj
    refine r_cV h k_X3_142 (i := 13 + 3 * j) (As := []) (rest := []) (c_X1_shownLine h.i h.t (by omega) w11) (by omega) o15 rfl rfl rfl (Nat.le_of_ble_eq_true rfl) ⟨by decide, by decide, by decide, by decide⟩ dX3_back_27 (fun _ z => z.elim) (fun v16 c17 p18 => ?_)
    obtain ⟨r, rfl, rfl, rfl⟩ := p18
    exact r_iret h hQ hr dX3_back_30 ⟨by decide, by decide⟩ ⟨_, rfl, fQ.of (show f_back σ (nI j) = (0, shL (pBk (σ.2.2 j) (pp, pn)), stT σ j (pBk (σ.2.2 j) (pp, pn))) by simp [f_back, opn, ixB_yes hj, ixN_nI hj, hop, hs]) (rfl) (hc.setStr hj (fun y a _ _ => k12 y a) w11 (hc.sk hj)) (fun y hy => (k12 y (by omega)))⟩
set_option maxRecDepth 100000 in
set_option maxHeartbeats 4000000 in
/-- X3_left -/
theorem c_X3_left {G : GG} {l : Launch} {c : CC} (hG : InjG G) (hl0 : l.stackTraces = false) {σ : St} (hc : Cls G c σ) (x : Int32) : MC G l yX3_left (.code yX3_left cX3_left 3 (some .int) :: gws) (rmF 8 8 48 138) [.ref (G.1 0), .int x] c (pI (fQ G c (f_left σ x))) (pxE (f_left σ x) [eIO, eUO]) := by
  refine MC.of (by decide) hl0 hG (Nat.le_of_ble_eq_true rfl) (fun X hX h hN hQ hr => ?_)
  subst hX
  refine r_aload_n h 0 rfl rfl dX3_left_0 ?_
  refine r_iload_n h 1 rfl rfl dX3_left_1 ?_
  refine r_cV h k_X3_96 (i := 0) (As := [.int x]) (rest := []) (c_X3_openStreamAt h.i h.t hc x) (by omega) hc.o rfl rfl rfl (Nat.le_of_ble_eq_true rfl) ⟨by decide, by decide, by decide, by decide⟩ dX3_left_2 (fun E hE => VX.out h hN hQ ⟨by decide, by decide⟩ (hE.elim (fun hF => by obtain ⟨rfl, hF⟩ := hF; exact pxE.mk 0 (by simp [f_left, opn, hF]) rfl) (fun hF => by obtain ⟨rfl, hF, hF2⟩ := hF; exact pxE.mk 1 (by simp [f_left, opn, hF, hF2]) rfl))) (fun v1 c2 p3 => ?_)
  obtain ⟨r, rfl, j, hj, rfl, rfl, rfl, hop⟩ := p3
  obtain ⟨hok, hrow, rg, mp, ml, h0, hrg, hmk⟩ := id (hc.str hj)
  have hP : sP (σ.2.2 j) ≤ (sO (σ.2.2 j)).length := hok.1
  have hle : (sO (σ.2.2 j)).length ≤ 240 := hrow.le
  refine r_astore_n h ([(2, .ref (G.1 (13 + 3 * j))), (0, .ref (G.1 0)), (1, .int (nI j))]) rfl dX3_left_5 (by decide) rfl ?_
  refine r_aload_n h 0 rfl rfl dX3_left_6 ?_
  refine r_getN h F_X3_92 (i := 13 + 3 * j) (by omega) h0 rfl dX3_left_7 ?_
  refine r_cS h k_X3_151 (As := [.int (sK (σ.2.2 j))]) (rest := []) (c_X3_tellsRest h.i h.t (sK (σ.2.2 j))) rfl rfl (Nat.le_of_ble_eq_true rfl) ⟨by decide, by decide, by decide, by decide⟩ dX3_left_10 (fun _ z => z.elim) (fun v4 c5 p6 => ?_)
  obtain ⟨r, rfl, rfl, rfl⟩ := p6
  refine r_cS h k_X3_135 (As := [.int (if gbU (sK (σ.2.2 j)) = true then 1 else 0)]) (rest := []) (c_X3_require h.i h.t (gbU (sK (σ.2.2 j)))) rfl rfl (Nat.le_of_ble_eq_true rfl) ⟨by decide, by decide, by decide, by decide⟩ dX3_left_13 (fun E hE => VX.out h hN hQ ⟨by decide, by decide⟩ (by obtain ⟨rfl, hE⟩ := hE; exact pxE.mk 1 (by simp [f_left, opn, hE, ixB_yes hj, ixN_nI hj, hop]) rfl)) (fun v7 c8 p9 => ?_)
  obtain ⟨rfl, rfl, hb⟩ := p9
  refine r_aload_n h 0 rfl rfl dX3_left_16 ?_
  obtain ⟨_, o10⟩ := (hc.str hj).obj
  refine r_cV h k_X3_113 (i := 13 + 3 * j) (As := []) (rest := []) (c_X1_rest h.i h.t (by omega) (hc.str hj)) (by omega) o10 rfl rfl rfl (Nat.le_of_ble_eq_true rfl) ⟨by decide, by decide, by decide, by decide⟩ dX3_left_17 (fun _ z => z.elim) (fun v11 c12 p13 => ?_)
  obtain ⟨r, rfl, rfl, rfl⟩ := p13
  exact r_iret h hQ hr dX3_left_20 ⟨by decide, by decide⟩ ⟨_, rfl, fQ.of (show f_left σ (nI j) = (0, nI ((sO (σ.2.2 j)).length - sP (σ.2.2 j)), σ) by simp [f_left, opn, ixB_yes hj, ixN_nI hj, hop, hb]) (rfl) (hc) (fun _ _ => rfl)⟩
set_option maxRecDepth 100000 in
set_option maxHeartbeats 4000000 in
/-- X3_line -/
theorem c_X3_line {G : GG} {l : Launch} {c : CC} (hG : InjG G) (hl0 : l.stackTraces = false) {σ : St} (hc : Cls G c σ) (x : Int32) : MC G l yX3_line (.code yX3_line cX3_line 3 (some .int) :: gws) (rmF 8 8 48 138) [.ref (G.1 0), .int x] c (pI (fQ G c (f_line σ x))) (pxE (f_line σ x) [eIO, eUO]) := by
  refine MC.of (by decide) hl0 hG (Nat.le_of_ble_eq_true rfl) (fun X hX h hN hQ hr => ?_)
  subst hX
  refine r_aload_n h 0 rfl rfl dX3_line_0 ?_
  refine r_iload_n h 1 rfl rfl dX3_line_1 ?_
  refine r_cV h k_X3_96 (i := 0) (As := [.int x]) (rest := []) (c_X3_openStreamAt h.i h.t hc x) (by omega) hc.o rfl rfl rfl (Nat.le_of_ble_eq_true rfl) ⟨by decide, by decide, by decide, by decide⟩ dX3_line_2 (fun E hE => VX.out h hN hQ ⟨by decide, by decide⟩ (hE.elim (fun hF => by obtain ⟨rfl, hF⟩ := hF; exact pxE.mk 0 (by simp [f_line, opn, hF]) rfl) (fun hF => by obtain ⟨rfl, hF, hF2⟩ := hF; exact pxE.mk 1 (by simp [f_line, opn, hF, hF2]) rfl))) (fun v1 c2 p3 => ?_)
  obtain ⟨r, rfl, j, hj, rfl, rfl, rfl, hop⟩ := p3
  obtain ⟨hok, hrow, rg, mp, ml, h0, hrg, hmk⟩ := id (hc.str hj)
  have hP : sP (σ.2.2 j) ≤ (sO (σ.2.2 j)).length := hok.1
  have hle : (sO (σ.2.2 j)).length ≤ 240 := hrow.le
  refine r_astore_n h ([(2, .ref (G.1 (13 + 3 * j))), (0, .ref (G.1 0)), (1, .int (nI j))]) rfl dX3_line_5 (by decide) rfl ?_
  refine r_aload_n h 0 rfl rfl dX3_line_6 ?_
  refine r_getN h F_X3_92 (i := 13 + 3 * j) (by omega) h0 rfl dX3_line_7 ?_
  refine r_cS h k_X3_154 (As := [.int (sK (σ.2.2 j))]) (rest := []) (c_X3_hasLine h.i h.t (sK (σ.2.2 j))) rfl rfl (Nat.le_of_ble_eq_true rfl) ⟨by decide, by decide, by decide, by decide⟩ dX3_line_10 (fun _ z => z.elim) (fun v4 c5 p6 => ?_)
  obtain ⟨r, rfl, rfl, rfl⟩ := p6
  refine r_cS h k_X3_135 (As := [.int (if hasL (sK (σ.2.2 j)) = true then 1 else 0)]) (rest := []) (c_X3_require h.i h.t (hasL (sK (σ.2.2 j)))) rfl rfl (Nat.le_of_ble_eq_true rfl) ⟨by decide, by decide, by decide, by decide⟩ dX3_line_13 (fun E hE => VX.out h hN hQ ⟨by decide, by decide⟩ (by obtain ⟨rfl, hE⟩ := hE; exact pxE.mk 1 (by simp [f_line, opn, hE, ixB_yes hj, ixN_nI hj, hop]) rfl)) (fun v7 c8 p9 => ?_)
  obtain ⟨rfl, rfl, hb⟩ := p9
  refine r_aload_n h 0 rfl rfl dX3_line_16 ?_
  refine r_getN h F_X3_157 (i := 13 + 3 * j) (by omega) h0 rfl dX3_line_17 ?_
  exact r_iret h hQ hr dX3_line_20 ⟨by decide, by decide⟩ ⟨_, rfl, fQ.of (show f_line σ (nI j) = (0, sN (σ.2.2 j), σ) by simp [f_line, opn, ixB_yes hj, ixN_nI hj, hop, hb]) (rfl) (hc) (fun _ _ => rfl)⟩
set_option maxRecDepth 100000 in
set_option maxHeartbeats 4000000 in
/-- X3_setLine -/
theorem c_X3_setLine {G : GG} {l : Launch} {c : CC} (hG : InjG G) (hl0 : l.stackTraces = false) {σ : St} (hc : Cls G c σ) (x m0 : Int32) : MC G l yX3_setLine (.code yX3_setLine cX3_setLine 5 (some .int) :: gws) (rmF 8 8 48 138) [.ref (G.1 0), .int x, .int m0] c (pI (fQ G c (f_setLine σ x m0))) (pxE (f_setLine σ x m0) [eIO, eUO]) := by
  refine MC.of (by decide) hl0 hG (Nat.le_of_ble_eq_true rfl) (fun X hX h hN hQ hr => ?_)
  subst hX
  refine r_aload_n h 0 rfl rfl dX3_setLine_0 ?_
  refine r_iload_n h 1 rfl rfl dX3_setLine_1 ?_
  refine r_cV h k_X3_96 (i := 0) (As := [.int x]) (rest := []) (c_X3_openStreamAt h.i h.t hc x) (by omega) hc.o rfl rfl rfl (Nat.le_of_ble_eq_true rfl) ⟨by decide, by decide, by decide, by decide⟩ dX3_setLine_2 (fun E hE => VX.out h hN hQ ⟨by decide, by decide⟩ (hE.elim (fun hF => by obtain ⟨rfl, hF⟩ := hF; exact pxE.mk 0 (by simp [f_setLine, opn, hF]) rfl) (fun hF => by obtain ⟨rfl, hF, hF2⟩ := hF; exact pxE.mk 1 (by simp [f_setLine, opn, hF, hF2]) rfl))) (fun v1 c2 p3 => ?_)
  obtain ⟨r, rfl, j, hj, rfl, rfl, rfl, hop⟩ := p3
  obtain ⟨hok, hrow, rg, mp, ml, h0, hrg, hmk⟩ := id (hc.str hj)
  have hP : sP (σ.2.2 j) ≤ (sO (σ.2.2 j)).length := hok.1
  have hle : (sO (σ.2.2 j)).length ≤ 240 := hrow.le
  refine r_astore_n h ([(3, .ref (G.1 (13 + 3 * j))), (0, .ref (G.1 0)), (1, .int (nI j)), (2, .int m0)]) rfl dX3_setLine_5 (by decide) rfl ?_
  refine r_aload_n h 0 rfl rfl dX3_setLine_6 ?_
  refine r_getN h F_X3_92 (i := 13 + 3 * j) (by omega) h0 rfl dX3_setLine_7 ?_
  refine r_cS h k_X3_154 (As := [.int (sK (σ.2.2 j))]) (rest := []) (c_X3_hasLine h.i h.t (sK (σ.2.2 j))) rfl rfl (Nat.le_of_ble_eq_true rfl) ⟨by decide, by decide, by decide, by decide⟩ dX3_setLine_10 (fun _ z => z.elim) (fun v4 c5 p6 => ?_)
  obtain ⟨r, rfl, rfl, rfl⟩ := p6
  refine r_cS h k_X3_135 (As := [.int (if hasL (sK (σ.2.2 j)) = true then 1 else 0)]) (rest := []) (c_X3_require h.i h.t (hasL (sK (σ.2.2 j)))) rfl rfl (Nat.le_of_ble_eq_true rfl) ⟨by decide, by decide, by decide, by decide⟩ dX3_setLine_13 (fun E hE => VX.out h hN hQ ⟨by decide, by decide⟩ (by obtain ⟨rfl, hE⟩ := hE; exact pxE.mk 1 (by simp [f_setLine, opn, hE, ixB_yes hj, ixN_nI hj, hop]) rfl)) (fun v7 c8 p9 => ?_)
  obtain ⟨rfl, rfl, hb⟩ := p9
  have hrow2 : RowAt G c (13 + 3 * j + 1) (sO (σ.2.2 j)) := hrow
  refine r_aload_n h 0 rfl rfl dX3_setLine_16 ?_
  refine r_getN h F_X3_157 (i := 13 + 3 * j) (by omega) h0 rfl dX3_setLine_17 ?_
  refine r_istore h ([(4, .int (sN (σ.2.2 j))), (3, .ref (G.1 (13 + 3 * j))), (0, .ref (G.1 0)), (1, .int (nI j)), (2, .int m0)]) dX3_setLine_20 (by decide) rfl ?_
  refine r_aload_n h 1 rfl rfl dX3_setLine_22 ?_
  refine r_iload_n h 4 rfl rfl dX3_setLine_23 ?_
  refine r_putN h F_X3_157 ft_X1 (i := 13 + 3 * j) (by omega) h0 ([.ref (G.1 (13 + 3 * j + 1)), .int (sK (σ.2.2 j)), .int (nI (seC (sK (σ.2.2 j)) (sM (σ.2.2 j)))), .int (nI (sP (σ.2.2 j))), .int m0, .long (rg), .int mp, .int ml]) rfl rfl rfl rfl (Nat.le_of_ble_eq_true rfl) dX3_setLine_24 (fun c10 h11 k12 => ?_)
  have g13 := hrow2.mono (k12 (13 + 3 * j + 1) (by omega)) (k12 (13 + 3 * j + 1 + 1) (by omega))
  refine r_iload h 0 rfl dX3_setLine_27 ?_
  exact r_iret h hQ hr dX3_setLine_29 ⟨by decide, by decide⟩ ⟨_, rfl, fQ.of (show f_setLine σ (nI j) m0 = (0, sN (σ.2.2 j), stT σ j (pSl (σ.2.2 j) m0)) by simp [f_setLine, opn, ixB_yes hj, ixN_nI hj, hop, hb]) (rfl) (hc.setStr hj (fun y a _ _ => k12 y a) ⟨hok, g13, _, _, _, h11, hrg, hmk⟩ (hc.sk hj)) (fun y hy => (k12 y (by omega)))⟩
set_option maxRecDepth 100000 in
set_option maxHeartbeats 4000000 in
/-- X3_check -/
theorem c_X3_check {G : GG} {l : Launch} {c : CC} (hG : InjG G) (hl0 : l.stackTraces = false) {σ : St} (hc : Cls G c σ) (x : Int32) : MC G l yX3_check (.code yX3_check cX3_check 3 (some .long) :: gws) (rmF 8 8 48 138) [.ref (G.1 0), .int x] c (pL (fQ G c (f_check σ x))) (pxE (f_check σ x) [eIO, eUO]) := by
  refine MC.of (by decide) hl0 hG (Nat.le_of_ble_eq_true rfl) (fun X hX h hN hQ hr => ?_)
  subst hX
  refine r_aload_n h 0 rfl rfl dX3_check_0 ?_
  refine r_iload_n h 1 rfl rfl dX3_check_1 ?_
  refine r_cV h k_X3_96 (i := 0) (As := [.int x]) (rest := []) (c_X3_openStreamAt h.i h.t hc x) (by omega) hc.o rfl rfl rfl (Nat.le_of_ble_eq_true rfl) ⟨by decide, by decide, by decide, by decide⟩ dX3_check_2 (fun E hE => VX.out h hN hQ ⟨by decide, by decide⟩ (hE.elim (fun hF => by obtain ⟨rfl, hF⟩ := hF; exact pxE.mk 0 (by simp [f_check, opn, hF]) rfl) (fun hF => by obtain ⟨rfl, hF, hF2⟩ := hF; exact pxE.mk 1 (by simp [f_check, opn, hF, hF2]) rfl))) (fun v1 c2 p3 => ?_)
  obtain ⟨r, rfl, j, hj, rfl, rfl, rfl, hop⟩ := p3
  obtain ⟨hok, hrow, rg, mp, ml, h0, hrg, hmk⟩ := id (hc.str hj)
  have hP : sP (σ.2.2 j) ≤ (sO (σ.2.2 j)).length := hok.1
  have hle : (sO (σ.2.2 j)).length ≤ 240 := hrow.le
  refine r_astore_n h ([(2, .ref (G.1 (13 + 3 * j))), (0, .ref (G.1 0)), (1, .int (nI j))]) rfl dX3_check_5 (by decide) rfl ?_
  refine r_aload_n h 0 rfl rfl dX3_check_6 ?_
  refine r_getN h F_X3_92 (i := 13 + 3 * j) (by omega) h0 rfl dX3_check_7 ?_
  refine r_cS h k_X3_160 (As := [.int (sK (σ.2.2 j))]) (rest := []) (c_X3_hasCheck h.i h.t (sK (σ.2.2 j))) rfl rfl (Nat.le_of_ble_eq_true rfl) ⟨by decide, by decide, by decide, by decide⟩ dX3_check_10 (fun _ z => z.elim) (fun v4 c5 p6 => ?_)
  obtain ⟨r, rfl, rfl, rfl⟩ := p6
  refine r_cS h k_X3_135 (As := [.int (if hasC (sK (σ.2.2 j)) = true then 1 else 0)]) (rest := []) (c_X3_require h.i h.t (hasC (sK (σ.2.2 j)))) rfl rfl (Nat.le_of_ble_eq_true rfl) ⟨by decide, by decide, by decide, by decide⟩ dX3_check_13 (fun E hE => VX.out h hN hQ ⟨by decide, by decide⟩ (by obtain ⟨rfl, hE⟩ := hE; exact pxE.mk 1 (by simp [f_check, opn, hE, ixB_yes hj, ixN_nI hj, hop]) rfl)) (fun v7 c8 p9 => ?_)
  obtain ⟨rfl, rfl, hb⟩ := p9
  refine r_aload_n h 0 rfl rfl dX3_check_16 ?_
  obtain ⟨_, hoj⟩ := (hc.str hj).obj
  refine r_cV h k_X3_163 (i := 13 + 3 * j) (As := []) (rest := []) (c_X1_checkNow h.i h.t (by omega) (hc.str hj) hb) (by omega) hoj rfl rfl rfl (Nat.le_of_ble_eq_true rfl) ⟨by decide, by decide, by decide, by decide⟩ dX3_check_17 (fun _ z => z.elim) (fun v10 c11 p12 => ?_)
  obtain ⟨r, rfl, rfl, rfl⟩ := p12
  exact r_lret h hQ hr dX3_check_20 ⟨by decide, by decide⟩ ⟨_, rfl, fQ.of (show f_check σ (nI j) = (0, 4294967295 - sG (σ.2.2 j), σ) by simp [f_check, opn, ixB_yes hj, ixN_nI hj, hop, hb]) (rfl) (hc) (fun _ _ => rfl)⟩
set_option maxRecDepth 100000 in
set_option maxHeartbeats 4000000 in
/-- X3_checkAnew -/
theorem c_X3_checkAnew {G : GG} {l : Launch} {c : CC} (hG : InjG G) (hl0 : l.stackTraces = false) {σ : St} (hc : Cls G c σ) (x : Int32) : MC G l yX3_checkAnew (.code yX3_checkAnew cX3_checkAnew 5 (some .long) :: gws) (rmF 8 8 48 138) [.ref (G.1 0), .int x] c (pL (fQ G c (f_checkAnew σ x))) (pxE (f_checkAnew σ x) [eIO, eUO]) := by
  refine MC.of (by decide) hl0 hG (Nat.le_of_ble_eq_true rfl) (fun X hX h hN hQ hr => ?_)
  subst hX
  refine r_aload_n h 0 rfl rfl dX3_checkAnew_0 ?_
  refine r_iload_n h 1 rfl rfl dX3_checkAnew_1 ?_
  refine r_cV h k_X3_96 (i := 0) (As := [.int x]) (rest := []) (c_X3_openStreamAt h.i h.t hc x) (by omega) hc.o rfl rfl rfl (Nat.le_of_ble_eq_true rfl) ⟨by decide, by decide, by decide, by decide⟩ dX3_checkAnew_2 (fun E hE => VX.out h hN hQ ⟨by decide, by decide⟩ (hE.elim (fun hF => by obtain ⟨rfl, hF⟩ := hF; exact pxE.mk 0 (by simp [f_checkAnew, opn, hF]) rfl) (fun hF => by obtain ⟨rfl, hF, hF2⟩ := hF; exact pxE.mk 1 (by simp [f_checkAnew, opn, hF, hF2]) rfl))) (fun v1 c2 p3 => ?_)
  obtain ⟨r, rfl, j, hj, rfl, rfl, rfl, hop⟩ := p3
  obtain ⟨hok, hrow, rg, mp, ml, h0, hrg, hmk⟩ := id (hc.str hj)
  have hP : sP (σ.2.2 j) ≤ (sO (σ.2.2 j)).length := hok.1
  have hle : (sO (σ.2.2 j)).length ≤ 240 := hrow.le
  refine r_astore_n h ([(2, .ref (G.1 (13 + 3 * j))), (0, .ref (G.1 0)), (1, .int (nI j))]) rfl dX3_checkAnew_5 (by decide) rfl ?_
  refine r_aload_n h 0 rfl rfl dX3_checkAnew_6 ?_
  refine r_getN h F_X3_92 (i := 13 + 3 * j) (by omega) h0 rfl dX3_checkAnew_7 ?_
  refine r_cS h k_X3_160 (As := [.int (sK (σ.2.2 j))]) (rest := []) (c_X3_hasCheck h.i h.t (sK (σ.2.2 j))) rfl rfl (Nat.le_of_ble_eq_true rfl) ⟨by decide, by decide, by decide, by decide⟩ dX3_checkAnew_10 (fun _ z => z.elim) (fun v4 c5 p6 => ?_)
  obtain ⟨r, rfl, rfl, rfl⟩ := p6
  refine r_cS h k_X3_135 (As := [.int (if hasC (sK (σ.2.2 j)) = true then 1 else 0)]) (rest := []) (c_X3_require h.i h.t (hasC (sK (σ.2.2 j)))) rfl rfl (Nat.le_of_ble_eq_true rfl) ⟨by decide, by decide, by decide, by decide⟩ dX3_checkAnew_13 (fun E hE => VX.out h hN hQ ⟨by decide, by decide⟩ (by obtain ⟨rfl, hE⟩ := hE; exact pxE.mk 1 (by simp [f_checkAnew, opn, hE, ixB_yes hj, ixN_nI hj, hop]) rfl)) (fun v7 c8 p9 => ?_)
  obtain ⟨rfl, rfl, hb⟩ := p9
  refine r_aload_n h 0 rfl rfl dX3_checkAnew_16 ?_
  obtain ⟨_, hoj⟩ := (hc.str hj).obj
  refine r_cV h k_X3_163 (i := 13 + 3 * j) (As := []) (rest := []) (c_X1_checkNow h.i h.t (by omega) (hc.str hj) hb) (by omega) hoj rfl rfl rfl (Nat.le_of_ble_eq_true rfl) ⟨by decide, by decide, by decide, by decide⟩ dX3_checkAnew_17 (fun _ z => z.elim) (fun v10 c11 p12 => ?_)
  obtain ⟨r, rfl, rfl, rfl⟩ := p12
  have hrow2 : RowAt G c (13 + 3 * j + 1) (sO (σ.2.2 j)) := hrow
  refine r_lstore_n h ([(3, .long (4294967295 - sG (σ.2.2 j))), (2, .ref (G.1 (13 + 3 * j))), (0, .ref (G.1 0)), (1, .int (nI j))]) rfl dX3_checkAnew_20 (by decide) rfl ?_
  refine r_aload_n h 1 rfl rfl dX3_checkAnew_21 ?_
  refine r_ldc2 h K_X3_167 dX3_checkAnew_22 ?_
  refine r_putN h F_X3_169 ft_X1 (i := 13 + 3 * j) (by omega) h0 ([.ref (G.1 (13 + 3 * j + 1)), .int (sK (σ.2.2 j)), .int (nI (seC (sK (σ.2.2 j)) (sM (σ.2.2 j)))), .int (nI (sP (σ.2.2 j))), .int (sN (σ.2.2 j)), .long (4294967295), .int mp, .int ml]) rfl rfl rfl rfl (Nat.le_of_ble_eq_true rfl) dX3_checkAnew_25 (fun c13 h14 k15 => ?_)
  have g16 := hrow2.mono (k15 (13 + 3 * j + 1) (by omega)) (k15 (13 + 3 * j + 1 + 1) (by omega))
  refine r_lload_n h 0 rfl rfl dX3_checkAnew_28 ?_
  exact r_lret h hQ hr dX3_checkAnew_29 ⟨by decide, by decide⟩ ⟨_, rfl, fQ.of (show f_checkAnew σ (nI j) = (0, 4294967295 - sG (σ.2.2 j), stT σ j (pCa (σ.2.2 j))) by simp [f_checkAnew, opn, ixB_yes hj, ixN_nI hj, hop, hb]) (rfl) (hc.setStr hj (fun y a _ _ => k15 y a) ⟨⟨hok.1, hok.2.1, okR_0, hok.2.2.2⟩, g16, _, _, _, h14, fun _ => rfl, hmk⟩ (hc.sk hj)) (fun y hy => (k15 y (by omega)))⟩
set_option maxRecDepth 100000 in
set_option maxHeartbeats 4000000 in
/-- X3_checkOf -/
theorem c_X3_checkOf {G : GG} {l : Launch} {c : CC} (hG : InjG G) (hl0 : l.stackTraces = false) {σ : St} (hc : Cls G c σ) (x : Int32) : MC G l yX3_checkOf (.code yX3_checkOf cX3_checkOf 6 (some .long) :: gws) (rmF 7 8 48 116) [.ref (G.1 0), .int x] c (pL (fQ G c (f_checkOf σ x))) (pxE (f_checkOf σ x) [eIO]) := by
  refine MC.of (by decide) hl0 hG (Nat.le_of_ble_eq_true rfl) (fun X hX h hN hQ hr => ?_)
  subst hX
  refine r_aload_n h 0 rfl rfl dX3_checkOf_0 ?_
  refine r_iload_n h 1 rfl rfl dX3_checkOf_1 ?_
  refine r_cV h k_X3_34 (i := 0) (As := [.int x]) (rest := []) (c_X3_sourceAt h.i h.t hc x) (by omega) hc.o rfl rfl rfl (Nat.le_of_ble_eq_true rfl) ⟨by decide, by decide, by decide, by decide⟩ dX3_checkOf_2 (fun E hE => VX.out h hN hQ ⟨by decide, by decide⟩ (by obtain ⟨rfl, hE⟩ := hE; exact pxE.mk 0 (by simp [f_checkOf, opn, hE]) rfl)) (fun v1 c2 p3 => ?_)
  obtain ⟨r, rfl, j, hj, rfl, rfl, rfl⟩ := p3
  have hLj := hc.rl hj
  have hLlj := hLj.1
  refine r_astore_n h ([(2, .ref (G.1 (3 + 2 * j))), (0, .ref (G.1 0)), (1, .int (nI j))]) rfl dX3_checkOf_5 (by decide) rfl ?_
  refine r_ldc2 h K_X3_167 dX3_checkOf_6 ?_
  refine r_lstore_n h ([(3, .long (4294967295)), (2, .ref (G.1 (3 + 2 * j))), (0, .ref (G.1 0)), (1, .int (nI j))]) rfl dX3_checkOf_9 (by decide) rfl ?_
  refine r_iconst h (v := nI 0) (by decide) dX3_checkOf_10 ?_
  refine r_istore h ([(5, .int (nI 0)), (3, .long (4294967295)), (2, .ref (G.1 (3 + 2 * j))), (0, .ref (G.1 0)), (1, .int (nI j))]) dX3_checkOf_11 (by decide) rfl ?_
  have loop : ∀ (n i : Nat) (g : Int64), (σ.1 j).length + 1 ≤ i + n → i ≤ (σ.1 j).length → g = crT (σ.1 j) i → V G X c [(2, .ref (G.1 (3 + 2 * j))), (3, .long (g)), (5, .int (nI i))] (1) (6) 13 [] := by
    intro n
    induction n with
    | zero => intro i g a1 a2; exact absurd a1 (by omega)
    | succ n ih =>
      intro i g a1 a2 a3
      refine r_iload h 2 rfl dX3_checkOf_13 ?_
      refine r_aload_n h 0 rfl rfl dX3_checkOf_15 ?_
      refine r_cV h k_X3_42 (i := 3 + 2 * j) (As := []) (rest := [.int (nI i)]) (c_X0_size h.i h.t (by omega) (hc.row hj)) (by omega) (hc.row hj).1 rfl rfl rfl (Nat.le_of_ble_eq_true rfl) ⟨by decide, by decide, by decide, by decide⟩ dX3_checkOf_16 (fun _ z => z.elim) (fun v4 c5 p6 => ?_)
      obtain ⟨r, rfl, rfl, rfl⟩ := p6
      refine rn_icmp_ge h (a := i) (b := (σ.1 j).length) (by omega) (by omega) 39 dX3_checkOf_19 (by decide) (fun q => ?_) (fun q => ?_)
      · refine r_ldc2 h K_X3_167 dX3_checkOf_39 ?_
        refine r_lload_n h 1 rfl rfl dX3_checkOf_42 ?_
        refine r_lsub h rfl dX3_checkOf_43 ?_
        exact r_lret h hQ hr dX3_checkOf_44 ⟨by decide, by decide⟩ ⟨_, rfl, fQ.of (show f_checkOf σ (nI j) = (0, 4294967295 - crT (σ.1 j) (σ.1 j).length, σ) by simp [f_checkOf, opn, ixB_yes hj, ixN_nI hj]) (by rw [a3, show i = (σ.1 j).length by omega]) (hc) (fun _ _ => rfl)⟩
      · refine r_lload_n h 1 rfl rfl dX3_checkOf_22 ?_
        refine r_aload_n h 0 rfl rfl dX3_checkOf_23 ?_
        refine r_iload h 2 rfl dX3_checkOf_24 ?_
        refine r_cV h k_X3_73 (i := 3 + 2 * j) (As := [.int (nI i)]) (rest := [.long (g)]) (c_X0_at h.i h.t (by omega) (hc.row hj) (nI (i))) (by omega) (hc.row hj).1 rfl rfl rfl (Nat.le_of_ble_eq_true rfl) ⟨by decide, by decide, by decide, by decide⟩ dX3_checkOf_26 (fun _ z => z.elim) (fun v7 c8 p9 => ?_)
        obtain ⟨r, rfl, rfl, rfl⟩ := p9
        rw [atP_nI q (by omega)]
        refine r_cS h k_X3_173 (As := [.long (g), .int ((σ.1 j).getD i 0)]) (rest := []) (c_X3_withByte h.i h.t g ((σ.1 j).getD i 0)) rfl rfl (Nat.le_of_ble_eq_true rfl) ⟨by decide, by decide, by decide, by decide⟩ dX3_checkOf_29 (fun _ z => z.elim) (fun v10 c11 p12 => ?_)
        obtain ⟨r, rfl, rfl, rfl⟩ := p12
        refine r_lstore_n h ([(3, .long (wb g ((σ.1 j).getD i 0))), (2, .ref (G.1 (3 + 2 * j))), (5, .int (nI i))]) rfl dX3_checkOf_32 (by decide) rfl ?_
        refine r_iinc h 2 ([(5, .int (nI (i + 1))), (3, .long (wb g ((σ.1 j).getD i 0))), (2, .ref (G.1 (3 + 2 * j)))]) rfl (inc_1 (i)) dX3_checkOf_33 (by decide) rfl ?_
        refine r_goto h 13 dX3_checkOf_36 (by decide) ?_
        refine V_lv [2, 1, 0] rfl ?_
        exact ih (i + 1) _ (by omega) (by omega) (by rw [a3]; rfl)
  refine V_lv [2, 1, 0] rfl ?_
  exact loop ((σ.1 j).length + 1) 0 _ (by omega) (by omega) rfl
set_option maxRecDepth 100000 in
set_option maxHeartbeats 4000000 in
/-- X3_share -/
theorem c_X3_share {G : GG} {l : Launch} {c : CC} (hG : InjG G) (hl0 : l.stackTraces = false) {σ : St} (hc : Cls G c σ) (x : Int32) : MC G l yX3_share (.code yX3_share cX3_share 3 (some .float) :: gws) (rmF 7 8 48 116) [.ref (G.1 0), .int x] c (pFl (fQ G c (f_share σ x))) (pxE (f_share σ x) [eIO, eAE]) := by
  refine MC.of (by decide) hl0 hG (Nat.le_of_ble_eq_true rfl) (fun X hX h hN hQ hr => ?_)
  subst hX
  refine r_aload_n h 0 rfl rfl dX3_share_0 ?_
  refine r_iload_n h 1 rfl rfl dX3_share_1 ?_
  refine r_cV h k_X3_34 (i := 0) (As := [.int x]) (rest := []) (c_X3_sourceAt h.i h.t hc x) (by omega) hc.o rfl rfl rfl (Nat.le_of_ble_eq_true rfl) ⟨by decide, by decide, by decide, by decide⟩ dX3_share_2 (fun E hE => VX.out h hN hQ ⟨by decide, by decide⟩ (by obtain ⟨rfl, hE⟩ := hE; exact pxE.mk 0 (by simp [f_share, opn, hE]) rfl)) (fun v1 c2 p3 => ?_)
  obtain ⟨r, rfl, j, hj, rfl, rfl, rfl⟩ := p3
  have hLj := hc.rl hj
  have hLlj := hLj.1
  refine r_astore_n h ([(2, .ref (G.1 (3 + 2 * j))), (0, .ref (G.1 0)), (1, .int (nI j))]) rfl dX3_share_5 (by decide) rfl ?_
  refine r_aload_n h 0 rfl rfl dX3_share_6 ?_
  refine r_cV h k_X3_42 (i := 3 + 2 * j) (As := []) (rest := []) (c_X0_size h.i h.t (by omega) (hc.row hj)) (by omega) (hc.row hj).1 rfl rfl rfl (Nat.le_of_ble_eq_true rfl) ⟨by decide, by decide, by decide, by decide⟩ dX3_share_7 (fun _ z => z.elim) (fun v4 c5 p6 => ?_)
  obtain ⟨r, rfl, rfl, rfl⟩ := p6
  refine rn_if_ne h (a := (σ.1 j).length) (by omega) 23 dX3_share_10 (by decide) (fun z => ?_) (fun z => ?_)
  · have hpos : 0 < (σ.1 j).length := by omega
    refine r_aload_n h 0 rfl rfl dX3_share_23 ?_
    refine r_cV h k_X3_77 (i := 3 + 2 * j) (As := []) (rest := []) (c_X0_countEnds h.i h.t (by omega) (hc.row hj)) (by omega) (hc.row hj).1 rfl rfl rfl (Nat.le_of_ble_eq_true rfl) ⟨by decide, by decide, by decide, by decide⟩ dX3_share_24 (fun _ z => z.elim) (fun v7 c8 p9 => ?_)
    obtain ⟨r, rfl, rfl, rfl⟩ := p9
    refine r_i2f h dX3_share_27 ?_
    refine r_aload_n h 0 rfl rfl dX3_share_28 ?_
    refine r_cV h k_X3_42 (i := 3 + 2 * j) (As := []) (rest := [.float (FP.i2f (nI (ecT (σ.1 j) (σ.1 j).length)))]) (c_X0_size h.i h.t (by omega) (hc.row hj)) (by omega) (hc.row hj).1 rfl rfl rfl (Nat.le_of_ble_eq_true rfl) ⟨by decide, by decide, by decide, by decide⟩ dX3_share_29 (fun _ z => z.elim) (fun v10 c11 p12 => ?_)
    obtain ⟨r, rfl, rfl, rfl⟩ := p12
    refine r_i2f h dX3_share_32 ?_
    refine r_fdiv h (n32_of (fdiv_ok _ hpos (by omega))) dX3_share_33 ?_
    exact r_fret h hQ hr dX3_share_34 ⟨by decide, by decide⟩ ⟨_, rfl, fQ.of (show f_share σ (nI j) = (0, FP.fdiv (FP.i2f (nI (ecT (σ.1 j) (σ.1 j).length))) (FP.i2f (nI (σ.1 j).length)), σ) by simp [f_share, opn, ixB_yes hj, ixN_nI hj, hpos]) (rfl) (hc) (fun _ _ => rfl)⟩
  · exact r_throw h hN hQ th0 (List.mem_of_getElem? (i := 4) rfl) dX3_share_13 dX3_share_16 dX3_share_17 dX3_share_19 dX3_share_22 ⟨by decide, Nat.le_of_ble_eq_true rfl, by decide, by decide⟩ (pxE.mk 1 (by simp [f_share, ixB_yes hj, ixN_nI hj, z]) rfl)
set_option maxRecDepth 100000 in
set_option maxHeartbeats 4000000 in
/-- X3_meanLine -/
theorem c_X3_meanLine {G : GG} {l : Launch} {c : CC} (hG : InjG G) (hl0 : l.stackTraces = false) {σ : St} (hc : Cls G c σ) : MC G l yX3_meanLine (.code yX3_meanLine cX3_meanLine 5 (some .double) :: gws) (rmF 6 8 48 95) [.ref (G.1 0)] c (pD (fQ G c (f_meanLine σ))) (pxE (f_meanLine σ) [eAE]) := by
  refine MC.of (by decide) hl0 hG (Nat.le_of_ble_eq_true rfl) (fun X hX h hN hQ hr => ?_)
  subst hX
  refine r_lconst h (v := 0) (by decide) dX3_meanLine_0 ?_
  refine r_lstore_n h ([(1, .long (0)), (0, .ref (G.1 0))]) rfl dX3_meanLine_1 (by decide) rfl ?_
  refine r_iconst h (v := nI 0) (by decide) dX3_meanLine_2 ?_
  refine r_istore_n h ([(3, .int (nI 0)), (1, .long (0)), (0, .ref (G.1 0))]) rfl dX3_meanLine_3 (by decide) rfl ?_
  refine r_iconst h (v := nI 0) (by decide) dX3_meanLine_4 ?_
  refine r_istore h ([(4, .int (nI 0)), (3, .int (nI 0)), (1, .long (0)), (0, .ref (G.1 0))]) dX3_meanLine_5 (by decide) rfl ?_
  have loop : ∀ (n i m : Nat) (s : Int64), 5 ≤ i + n → i ≤ 4 → s = mlS σ.2.2 i → m = mlC σ.2.2 i → m ≤ i → V G X c [(0, .ref (G.1 0)), (1, .long (s)), (3, .int (nI m)), (4, .int (nI i))] 0 0 7 [] := by
    intro n
    induction n with
    | zero => intro i m s a1 a2; exact absurd a1 (by omega)
    | succ n ih =>
      intro i m s a1 a2 a3 a4 a5
      refine r_iload h 3 rfl dX3_meanLine_7 ?_
      refine r_iconst h (v := nI 4) (by decide) dX3_meanLine_9 ?_
      refine rn_icmp_ge h (a := i) (b := 4) (by omega) (by omega) 52 dX3_meanLine_10 (by decide) (fun q => ?_) (fun q => ?_)
      · have hi : i = 4 := by omega
        subst hi
        refine r_iload_n h 2 rfl rfl dX3_meanLine_52 ?_
        refine rn_if_ne h (a := m) (by omega) 66 dX3_meanLine_53 (by decide) (fun z => ?_) (fun z => ?_)
        · refine r_lload_n h 1 rfl rfl dX3_meanLine_66 ?_
          refine r_l2d h dX3_meanLine_67 ?_
          refine r_iload_n h 2 rfl rfl dX3_meanLine_68 ?_
          refine r_i2d h dX3_meanLine_69 ?_
          refine r_ddiv h (n64_of (ddiv_ok _ (Nat.pos_of_ne_zero z) (by omega))) dX3_meanLine_70 ?_
          exact r_dret h hQ hr dX3_meanLine_71 ⟨by decide, by decide⟩ ⟨_, rfl, fQ.of (show f_meanLine σ = (0, FP.ddiv (FP.l2d s) (FP.i2d (nI m)), σ) by simp [f_meanLine, opn, ← a4, ← a3, z]) (rfl) (hc) (fun _ _ => rfl)⟩
        · exact r_throw h hN hQ th0 (List.mem_of_getElem? (i := 10) rfl) dX3_meanLine_56 dX3_meanLine_59 dX3_meanLine_60 dX3_meanLine_62 dX3_meanLine_65 ⟨by decide, Nat.le_of_ble_eq_true rfl, by decide, by decide⟩ (pxE.mk 0 (by simp [f_meanLine, ← a4, z]) rfl)
      · have hi4 : i < 4 := by omega
        refine r_aload_n h 0 rfl rfl dX3_meanLine_13 ?_
        refine r_getf h F_X3_17 (i := 0) (by omega) hc.o rfl dX3_meanLine_14 ?_
        refine r_iload h 3 rfl dX3_meanLine_17 ?_
        obtain ⟨f1, e2, e3⟩ := hc.2.2.1
        refine r_aald h (i := 2) (by omega) (cy := 5) e2 rfl (x := i) (by omega) (by decide) (e3 i (by omega)) dX3_meanLine_19 ?_
        obtain ⟨_, _, rga, mpa, mla, h0a, _, _⟩ := id (hc.str hi4)
        refine r_getN h F_X3_92 (i := 13 + 3 * i) (by omega) h0a rfl dX3_meanLine_20 ?_
        refine r_cS h k_X3_154 (As := [.int (sK (σ.2.2 i))]) (rest := []) (c_X3_hasLine h.i h.t (sK (σ.2.2 i))) rfl rfl (Nat.le_of_ble_eq_true rfl) ⟨by decide, by decide, by decide, by decide⟩ dX3_meanLine_23 (fun _ z => z.elim) (fun v4 c5 p6 => ?_)
        obtain ⟨r, rfl, rfl, rfl⟩ := p6
        refine rb_if_eq h 46 dX3_meanLine_26 (by decide) (fun u => ?_) (fun u => ?_)
        · refine r_iinc h 3 ([(4, .int (nI (i + 1))), (0, .ref (G.1 0)), (1, .long (s)), (3, .int (nI m))]) rfl (inc_1 (i)) dX3_meanLine_46 (by decide) rfl ?_
          refine r_goto h 7 dX3_meanLine_49 (by decide) ?_
          refine V_lv [1, 2, 3, 0] rfl ?_
          exact ih (i + 1) m s (by omega) (by omega) (by rw [a3]; exact (if_neg u).symm) (by rw [a4]; exact (if_neg u).symm) (by omega)
        · refine r_lload_n h 1 rfl rfl dX3_meanLine_29 ?_
          refine r_aload_n h 0 rfl rfl dX3_meanLine_30 ?_
          refine r_getf h F_X3_17 (i := 0) (by omega) hc.o rfl dX3_meanLine_31 ?_
          refine r_iload h 3 rfl dX3_meanLine_34 ?_
          obtain ⟨f7, e8, e9⟩ := hc.2.2.1
          refine r_aald h (i := 2) (by omega) (cy := 5) e8 rfl (x := i) (by omega) (by decide) (e9 i (by omega)) dX3_meanLine_36 ?_
          refine r_getN h F_X3_157 (i := 13 + 3 * i) (by omega) h0a rfl dX3_meanLine_37 ?_
          refine r_i2l h rfl dX3_meanLine_40 ?_
          refine r_ladd h rfl dX3_meanLine_41 ?_
          refine r_lstore_n h ([(1, .long ((s) + ((sN (σ.2.2 i)).toInt64))), (0, .ref (G.1 0)), (3, .int (nI m)), (4, .int (nI i))]) rfl dX3_meanLine_42 (by decide) rfl ?_
          refine r_iinc h 2 ([(3, .int (nI (m + 1))), (1, .long ((s) + ((sN (σ.2.2 i)).toInt64))), (0, .ref (G.1 0)), (4, .int (nI i))]) rfl (inc_1 (m)) dX3_meanLine_43 (by decide) rfl ?_
          refine r_iinc h 3 ([(4, .int (nI (i + 1))), (3, .int (nI (m + 1))), (1, .long ((s) + ((sN (σ.2.2 i)).toInt64))), (0, .ref (G.1 0))]) rfl (inc_1 (i)) dX3_meanLine_46 (by decide) rfl ?_
          refine r_goto h 7 dX3_meanLine_49 (by decide) ?_
          refine V_lv [3, 2, 1, 0] rfl ?_
          exact ih (i + 1) (m + 1) _ (by omega) (by omega) (by rw [a3]; exact (if_pos u).symm) (by rw [a4]; exact (if_pos u).symm) (by omega)
  refine V_lv [3, 2, 1, 0] rfl ?_
  exact loop 5 0 0 0 (by omega) (by omega) rfl rfl (Nat.le_refl 0)
set_option maxRecDepth 100000 in
set_option maxHeartbeats 4000000 in
/-- X3_withRow -/
theorem c_X3_withRow {G : GG} {l : Launch} {c : CC} (hG : InjG G) (hl0 : l.stackTraces = false) (s : Int64) {i : Nat} (hi : i < 48) {L : List Int32} (hw : RowAt G c i L) : MC G l yX3_withRow (.code yX3_withRow cX3_withRow 6 (some .long) :: gws) (rmF 1 0 0 21) [.long s, .ref (G.1 i)] c (pL (fun r c' => c = c' ∧ ckR s L = r)) (pF) := by
  refine MC.of (by decide) hl0 hG (Nat.le_of_ble_eq_true rfl) (fun X hX h hN hQ hr => ?_)
  subst hX
  have hle := hw.le
  refine r_ldc2 h K_X3_226 dX3_withRow_0 ?_
  refine r_lload_n h 0 rfl rfl dX3_withRow_3 ?_
  refine r_lmul h rfl dX3_withRow_4 ?_
  refine r_aload_n h 1 rfl rfl dX3_withRow_5 ?_
  refine r_cV h k_X3_42 (i := i) (As := []) (rest := [.long ((31) * (s))]) (c_X0_size h.i h.t (by omega) hw) (by omega) hw.1 rfl rfl rfl (Nat.le_of_ble_eq_true rfl) ⟨by decide, by decide, by decide, by decide⟩ dX3_withRow_6 (fun _ z => z.elim) (fun v1 c2 p3 => ?_)
  obtain ⟨r, rfl, rfl, rfl⟩ := p3
  refine r_i2l h rfl dX3_withRow_9 ?_
  refine r_ladd h rfl dX3_withRow_10 ?_
  refine r_lstore_n h ([(3, .long (((31) * (s)) + (((nI (L.length))).toInt64))), (0, .long (s)), (2, .ref (G.1 i))]) rfl dX3_withRow_11 (by decide) rfl ?_
  refine r_iconst h (v := nI 0) (by decide) dX3_withRow_12 ?_
  refine r_istore h ([(5, .int (nI 0)), (3, .long (((31) * (s)) + (((nI (L.length))).toInt64))), (0, .long (s)), (2, .ref (G.1 i))]) dX3_withRow_13 (by decide) rfl ?_
  have loop : ∀ (n j : Nat) (g : Int64), L.length + 1 ≤ j + n → j ≤ L.length → g = ckL s L j → V G X c [(2, .ref (G.1 i)), (3, .long (g)), (5, .int (nI j))] 0 0 15 [] := by
    intro n
    induction n with
    | zero => intro j g a1 a2; exact absurd a1 (by omega)
    | succ n ih =>
      intro j g a1 a2 a3
      refine r_iload h 2 rfl dX3_withRow_15 ?_
      refine r_aload_n h 0 rfl rfl dX3_withRow_17 ?_
      refine r_cV h k_X3_42 (i := i) (As := []) (rest := [.int (nI j)]) (c_X0_size h.i h.t (by omega) hw) (by omega) hw.1 rfl rfl rfl (Nat.le_of_ble_eq_true rfl) ⟨by decide, by decide, by decide, by decide⟩ dX3_withRow_18 (fun _ z => z.elim) (fun v4 c5 p6 => ?_)
      obtain ⟨r, rfl, rfl, rfl⟩ := p6
      refine rn_icmp_ge h (a := j) (b := L.length) (by omega) (by omega) 44 dX3_withRow_21 (by decide) (fun q => ?_) (fun q => ?_)
      · refine r_lload_n h 1 rfl rfl dX3_withRow_44 ?_
        exact r_lret h hQ hr dX3_withRow_45 ⟨by decide, by decide⟩ ⟨_, rfl, rfl, by rw [a3, show j = L.length by omega]; rfl⟩
      · refine r_ldc2 h K_X3_226 dX3_withRow_24 ?_
        refine r_lload_n h 1 rfl rfl dX3_withRow_27 ?_
        refine r_lmul h rfl dX3_withRow_28 ?_
        refine r_aload_n h 0 rfl rfl dX3_withRow_29 ?_
        refine r_iload h 2 rfl dX3_withRow_30 ?_
        refine r_cV h k_X3_73 (i := i) (As := [.int (nI j)]) (rest := [.long ((31) * (g))]) (c_X0_at h.i h.t (by omega) hw (nI (j))) (by omega) hw.1 rfl rfl rfl (Nat.le_of_ble_eq_true rfl) ⟨by decide, by decide, by decide, by decide⟩ dX3_withRow_32 (fun _ z => z.elim) (fun v7 c8 p9 => ?_)
        obtain ⟨r, rfl, rfl, rfl⟩ := p9
        rw [atP_nI q (by omega)]
        refine r_i2l h rfl dX3_withRow_35 ?_
        refine r_ladd h rfl dX3_withRow_36 ?_
        refine r_lstore_n h ([(3, .long (((31) * (g)) + ((L.getD (j) 0).toInt64))), (2, .ref (G.1 i)), (5, .int (nI j))]) rfl dX3_withRow_37 (by decide) rfl ?_
        refine r_iinc h 2 ([(5, .int (nI (j + 1))), (3, .long (((31) * (g)) + ((L.getD (j) 0).toInt64))), (2, .ref (G.1 i))]) rfl (inc_1 (j)) dX3_withRow_38 (by decide) rfl ?_
        refine r_goto h 15 dX3_withRow_41 (by decide) ?_
        refine V_lv [2, 1, 0] rfl ?_
        exact ih (j + 1) _ (by omega) (by omega) (by rw [a3]; rfl)
  refine V_lv [3, 1, 0] rfl ?_
  exact loop (L.length + 1) 0 _ (by omega) (by omega) rfl
set_option maxRecDepth 100000 in
set_option maxHeartbeats 4000000 in
/-- X3_withStream -/
theorem c_X3_withStream {G : GG} {l : Launch} {c : CC} (hG : InjG G) (hl0 : l.stackTraces = false) (s : Int64) {i : Nat} (hi : i < 46) {t : Stm} (hw : StrAt G c i t) : MC G l yX3_withStream (.code yX3_withStream cX3_withStream 5 (some .long) :: gws) (rmF 1 0 0 20) [.long s, .ref (G.1 i)] c (pL (fun r c' => c = c' ∧ ckK s t = r)) (pF) := by
  refine MC.of (by decide) hl0 hG (Nat.le_of_ble_eq_true rfl) (fun X hX h hN hQ hr => ?_)
  subst hX
  obtain ⟨K, O, M, P, N, g, mk⟩ := t
  obtain ⟨hok, hrow, rg, mp, ml, h0, hrg, hmk⟩ := id hw
  have hP : P ≤ O.length := hok.1
  have hle : O.length ≤ 240 := hrow.le
  have hMl : M ≤ O.length := hok.2.2.2.1
  have hSl : seC K M ≤ M := by unfold seC; split <;> omega
  have hrow : RowAt G c (i + 1) O := hrow
  have h0 : c i = .inr (3, [.ref (G.1 (i + 1)), .int K, .int (nI (seC K M)), .int (nI P), .int N, .long (rg), .int mp, .int ml]) := h0
  refine r_ldc2 h K_X3_226 dX3_withStream_0 ?_
  refine r_lload_n h 0 rfl rfl dX3_withStream_3 ?_
  refine r_lmul h rfl dX3_withStream_4 ?_
  refine r_aload_n h 1 rfl rfl dX3_withStream_5 ?_
  refine r_getN h F_X3_92 (i := i) (by omega) h0 rfl dX3_withStream_6 ?_
  refine r_i2l h rfl dX3_withStream_9 ?_
  refine r_ladd h rfl dX3_withStream_10 ?_
  refine r_lstore_n h ([(3, .long (((31) * (s)) + ((K).toInt64))), (0, .long (s)), (2, .ref (G.1 i))]) rfl dX3_withStream_11 (by decide) rfl ?_
  refine r_aload_n h 2 rfl rfl dX3_withStream_12 ?_
  refine r_getN h F_X3_92 (i := i) (by omega) h0 rfl dX3_withStream_13 ?_
  refine r_cS h k_X3_154 (As := [.int K]) (rest := []) (c_X3_hasLine h.i h.t K) rfl rfl (Nat.le_of_ble_eq_true rfl) ⟨by decide, by decide, by decide, by decide⟩ dX3_withStream_16 (fun _ z => z.elim) (fun v1 c2 p3 => ?_)
  obtain ⟨r, rfl, rfl, rfl⟩ := p3
  suffices KK : ∀ y : Int64, y = (if hasL K = true then 31 * (31 * s + K.toInt64) + N.toInt64 else 31 * s + K.toInt64) → V G X c [(2, .ref (G.1 i)), (3, .long (y))] 0 0 34 [] from ?_
  · refine rb_if_eq h 34 dX3_withStream_19 (by decide) (fun u => ?_) (fun u => ?_)
    · refine V_lv [2, 0] rfl ?_
      exact KK _ (if_neg u).symm
    · refine r_ldc2 h K_X3_226 dX3_withStream_22 ?_
      refine r_lload_n h 0 rfl rfl dX3_withStream_25 ?_
      refine r_lmul h rfl dX3_withStream_26 ?_
      refine r_aload_n h 2 rfl rfl dX3_withStream_27 ?_
      refine r_getN h F_X3_157 (i := i) (by omega) h0 rfl dX3_withStream_28 ?_
      refine r_i2l h rfl dX3_withStream_31 ?_
      refine r_ladd h rfl dX3_withStream_32 ?_
      refine r_lstore_n h ([(3, .long (((31) * (((31) * (s)) + ((K).toInt64))) + ((N).toInt64))), (0, .long (s)), (2, .ref (G.1 i))]) rfl dX3_withStream_33 (by decide) rfl ?_
      refine V_lv [2, 0] rfl ?_
      exact KK _ (if_pos u).symm
  · intro y hy
    refine r_aload_n h 0 rfl rfl dX3_withStream_34 ?_
    refine r_getN h F_X3_92 (i := i) (by omega) h0 rfl dX3_withStream_35 ?_
    refine r_cS h k_X3_160 (As := [.int K]) (rest := []) (c_X3_hasCheck h.i h.t K) rfl rfl (Nat.le_of_ble_eq_true rfl) ⟨by decide, by decide, by decide, by decide⟩ dX3_withStream_38 (fun _ z => z.elim) (fun v4 c5 p6 => ?_)
    obtain ⟨r, rfl, rfl, rfl⟩ := p6
    refine rb_if_eq h 55 dX3_withStream_41 (by decide) (fun v => ?_) (fun v => ?_)
    · refine r_lload_n h 1 rfl rfl dX3_withStream_55 ?_
      exact r_lret h hQ hr dX3_withStream_56 ⟨by decide, by decide⟩ ⟨_, rfl, rfl, by rw [hy]; exact if_neg v⟩
    · refine r_ldc2 h K_X3_226 dX3_withStream_44 ?_
      refine r_lload_n h 1 rfl rfl dX3_withStream_47 ?_
      refine r_lmul h rfl dX3_withStream_48 ?_
      refine r_aload_n h 0 rfl rfl dX3_withStream_49 ?_
      refine r_cV h k_X3_163 (i := i) (As := []) (rest := [.long ((31) * (y))]) (c_X1_checkNow h.i h.t (by omega) hw v) (by omega) h0 rfl rfl rfl (Nat.le_of_ble_eq_true rfl) ⟨by decide, by decide, by decide, by decide⟩ dX3_withStream_50 (fun _ z => z.elim) (fun v7 c8 p9 => ?_)
      obtain ⟨r, rfl, rfl, rfl⟩ := p9
      refine r_ladd h rfl dX3_withStream_53 ?_
      refine r_lstore_n h ([(3, .long (((31) * (y)) + (4294967295 - g))), (2, .ref (G.1 i))]) rfl dX3_withStream_54 (by decide) rfl ?_
      refine r_lload_n h 0 rfl rfl dX3_withStream_55 ?_
      exact r_lret h hQ hr dX3_withStream_56 ⟨by decide, by decide⟩ ⟨_, rfl, rfl, by rw [hy]; exact if_pos v⟩
set_option maxRecDepth 100000 in
set_option maxHeartbeats 4000000 in
/-- X3_checksum -/
theorem c_X3_checksum {G : GG} {l : Launch} {c : CC} (hG : InjG G) (hl0 : l.stackTraces = false) {σ : St} (hc : Cls G c σ) : MC G l yX3_checksum (.code yX3_checksum cX3_checksum 4 (some .long) :: gws) (rmF 2 0 0 46) [.ref (G.1 0)] c (pL (fun r c' => c = c' ∧ f_checksum σ = r)) (pF) := by
  refine MC.of (by decide) hl0 hG (Nat.le_of_ble_eq_true rfl) (fun X hX h hN hQ hr => ?_)
  subst hX
  refine r_ldc2 h K_X3_182 dX3_checksum_0 ?_
  refine r_lstore_n h ([(1, .long (7)), (0, .ref (G.1 0))]) rfl dX3_checksum_3 (by decide) rfl ?_
  refine r_iconst h (v := nI 0) (by decide) dX3_checksum_4 ?_
  refine r_istore_n h ([(3, .int (nI 0)), (1, .long (7)), (0, .ref (G.1 0))]) rfl dX3_checksum_5 (by decide) rfl ?_
  have loop2 : ∀ (n i : Nat) (s : Int64), 5 ≤ i + n → i ≤ 4 → s = ckT (ckR (ckS 7 σ.1 4) σ.2.1) σ.2.2 i → V G X c [(0, .ref (G.1 0)), (1, .long (s)), (3, .int (nI i))] 0 0 39 [] := by
    intro n
    induction n with
    | zero => intro i s a1 a2; exact absurd a1 (by omega)
    | succ n ih =>
      intro i s a1 a2 a3
      refine r_iload_n h 2 rfl rfl dX3_checksum_39 ?_
      refine r_iconst h (v := nI 4) (by decide) dX3_checksum_40 ?_
      refine rn_icmp_ge h (a := i) (b := 4) (by omega) (by omega) 61 dX3_checksum_41 (by decide) (fun q => ?_) (fun q => ?_)
      · refine r_lload_n h 1 rfl rfl dX3_checksum_61 ?_
        exact r_lret h hQ hr dX3_checksum_62 ⟨by decide, by decide⟩ ⟨_, rfl, rfl, by rw [a3, show i = 4 by omega]; rfl⟩
      · refine r_lload_n h 1 rfl rfl dX3_checksum_44 ?_
        refine r_aload_n h 0 rfl rfl dX3_checksum_45 ?_
        refine r_getf h F_X3_17 (i := 0) (by omega) hc.o rfl dX3_checksum_46 ?_
        refine r_iload_n h 2 rfl rfl dX3_checksum_49 ?_
        obtain ⟨f1, e2, e3⟩ := hc.2.2.1
        refine r_aald h (i := 2) (by omega) (cy := 5) e2 rfl (x := i) (q) (by decide) (e3 i (q)) dX3_checksum_50 ?_
        refine r_cS h k_X3_188 (As := [.long (s), .ref (G.1 (13 + 3 * i))]) (rest := []) (c_X3_withStream h.i h.t s (by omega) (hc.str q)) rfl rfl (Nat.le_of_ble_eq_true rfl) ⟨by decide, by decide, by decide, by decide⟩ dX3_checksum_51 (fun _ z => z.elim) (fun v4 c5 p6 => ?_)
        obtain ⟨r, rfl, rfl, rfl⟩ := p6
        refine r_lstore_n h ([(1, .long (ckK s (σ.2.2 i))), (0, .ref (G.1 0)), (3, .int (nI i))]) rfl dX3_checksum_54 (by decide) rfl ?_
        refine r_iinc h 2 ([(3, .int (nI (i + 1))), (1, .long (ckK s (σ.2.2 i))), (0, .ref (G.1 0))]) rfl (inc_1 (i)) dX3_checksum_55 (by decide) rfl ?_
        refine r_goto h 39 dX3_checksum_58 (by decide) ?_
        refine V_lv [2, 1, 0] rfl ?_
        exact ih (i + 1) _ (by omega) (by omega) (by rw [a3]; rfl)
  have loop1 : ∀ (n i : Nat) (s : Int64), 5 ≤ i + n → i ≤ 4 → s = ckS 7 σ.1 i → V G X c [(0, .ref (G.1 0)), (1, .long (s)), (3, .int (nI i))] 0 0 6 [] := by
    intro n
    induction n with
    | zero => intro i s a1 a2; exact absurd a1 (by omega)
    | succ n ih =>
      intro i s a1 a2 a3
      refine r_iload_n h 2 rfl rfl dX3_checksum_6 ?_
      refine r_iconst h (v := nI 4) (by decide) dX3_checksum_7 ?_
      refine rn_icmp_ge h (a := i) (b := 4) (by omega) (by omega) 28 dX3_checksum_8 (by decide) (fun q => ?_) (fun q => ?_)
      · refine r_lload_n h 1 rfl rfl dX3_checksum_28 ?_
        refine r_aload_n h 0 rfl rfl dX3_checksum_29 ?_
        refine r_getf h F_X3_22 (i := 0) (by omega) hc.o rfl dX3_checksum_30 ?_
        refine r_cS h k_X3_184 (As := [.long (s), .ref (G.1 11)]) (rest := []) (c_X3_withRow h.i h.t s (by omega) hc.part) rfl rfl (Nat.le_of_ble_eq_true rfl) ⟨by decide, by decide, by decide, by decide⟩ dX3_checksum_33 (fun _ z => z.elim) (fun v7 c8 p9 => ?_)
        obtain ⟨r, rfl, rfl, rfl⟩ := p9
        refine r_lstore_n h ([(1, .long (ckR s σ.2.1)), (0, .ref (G.1 0)), (3, .int (nI i))]) rfl dX3_checksum_36 (by decide) rfl ?_
        refine r_iconst h (v := nI 0) (by decide) dX3_checksum_37 ?_
        refine r_istore_n h ([(3, .int (nI 0)), (1, .long (ckR s σ.2.1)), (0, .ref (G.1 0))]) rfl dX3_checksum_38 (by decide) rfl ?_
        refine V_lv [2, 1, 0] rfl ?_
        exact loop2 5 0 _ (by omega) (by omega) (by rw [a3, show i = 4 by omega]; rfl)
      · refine r_lload_n h 1 rfl rfl dX3_checksum_11 ?_
        refine r_aload_n h 0 rfl rfl dX3_checksum_12 ?_
        refine r_getf h F_X3_11 (i := 0) (by omega) hc.o rfl dX3_checksum_13 ?_
        refine r_iload_n h 2 rfl rfl dX3_checksum_16 ?_
        obtain ⟨f10, e11, e12⟩ := hc.2.1
        refine r_aald h (i := 1) (by omega) (cy := 4) e11 rfl (x := i) (q) (by decide) (e12 i (q)) dX3_checksum_17 ?_
        refine r_cS h k_X3_184 (As := [.long (s), .ref (G.1 (3 + 2 * i))]) (rest := []) (c_X3_withRow h.i h.t s (by omega) (hc.row q)) rfl rfl (Nat.le_of_ble_eq_true rfl) ⟨by decide, by decide, by decide, by decide⟩ dX3_checksum_18 (fun _ z => z.elim) (fun v13 c14 p15 => ?_)
        obtain ⟨r, rfl, rfl, rfl⟩ := p15
        refine r_lstore_n h ([(1, .long (ckR s (σ.1 i))), (0, .ref (G.1 0)), (3, .int (nI i))]) rfl dX3_checksum_21 (by decide) rfl ?_
        refine r_iinc h 2 ([(3, .int (nI (i + 1))), (1, .long (ckR s (σ.1 i))), (0, .ref (G.1 0))]) rfl (inc_1 (i)) dX3_checksum_22 (by decide) rfl ?_
        refine r_goto h 6 dX3_checksum_25 (by decide) ?_
        refine V_lv [2, 1, 0] rfl ?_
        exact ih (i + 1) _ (by omega) (by omega) (by rw [a3]; rfl)
  refine V_lv [2, 1, 0] rfl ?_
  exact loop1 5 0 7 (by omega) (by omega) rfl
