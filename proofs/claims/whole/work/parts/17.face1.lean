/-! THE FACE of the class, one: sources -/
set_option maxRecDepth 100000 in
set_option maxHeartbeats 4000000 in
/-- X3_type -/
theorem c_X3_type {G : GG} {l : Launch} {c : CC} (hG : InjG G) (hl0 : l.stackTraces = false) {σ : St} (hc : Cls G c σ) (x y : Int32) : MC G l yX3_type (.code yX3_type cX3_type 4 (some .int) :: gws) (rmF 7 8 48 116) [.ref (G.1 0), .int x, .int y] c (pI (fQ G c (f_type σ x y))) (pxE (f_type σ x y) [eIO, eIA, eIS]) := by
  refine MC.of (by decide) hl0 hG (Nat.le_of_ble_eq_true rfl) (fun X hX h hN hQ hr => ?_)
  subst hX
  refine r_aload_n h 0 rfl rfl dX3_type_0 ?_
  refine r_iload_n h 1 rfl rfl dX3_type_1 ?_
  refine r_cV h k_X3_34 (i := 0) (As := [.int x]) (rest := []) (c_X3_sourceAt h.i h.t hc x) (by omega) hc.o rfl rfl rfl (Nat.le_of_ble_eq_true rfl) ⟨by decide, by decide, by decide, by decide⟩ dX3_type_2 (fun E hE => VX.out h hN hQ ⟨by decide, by decide⟩ (by obtain ⟨rfl, hE⟩ := hE; exact pxE.mk 0 (by simp [f_type, opn, hE]) rfl)) (fun v1 c2 p3 => ?_)
  obtain ⟨r, rfl, j, hj, rfl, rfl, rfl⟩ := p3
  have hLj := hc.rl hj
  have hLlj := hLj.1
  refine r_astore_n h ([(3, .ref (G.1 (3 + 2 * j))), (0, .ref (G.1 0)), (1, .int (nI j)), (2, .int y)]) rfl dX3_type_5 (by decide) rfl ?_
  refine r_iload_n h 3 rfl rfl dX3_type_6 ?_
  refine r_cS h k_X3_38 (As := [.int y]) (rest := []) (c_X3_requireByte h.i h.t y) rfl rfl (Nat.le_of_ble_eq_true rfl) ⟨by decide, by decide, by decide, by decide⟩ dX3_type_7 (fun E hE => VX.out h hN hQ ⟨by decide, by decide⟩ (by obtain ⟨rfl, hE⟩ := hE; exact pxE.mk 1 (by simp [f_type, opn, hE, ixB_yes hj, ixN_nI hj]) rfl)) (fun v4 c5 p6 => ?_)
  obtain ⟨rfl, rfl, hy⟩ := p6
  refine r_aload_n h 0 rfl rfl dX3_type_10 ?_
  refine r_cV h k_X3_42 (i := 3 + 2 * j) (As := []) (rest := []) (c_X0_size h.i h.t (by omega) (hc.row hj)) (by omega) (hc.row hj).1 rfl rfl rfl (Nat.le_of_ble_eq_true rfl) ⟨by decide, by decide, by decide, by decide⟩ dX3_type_11 (fun _ z => z.elim) (fun v7 c8 p9 => ?_)
  obtain ⟨r, rfl, rfl, rfl⟩ := p9
  refine r_iconst h (v := nI 1) (by decide) dX3_type_14 ?_
  refine r_iadd h (nI_add ((σ.1 j).length) (1)) dX3_type_15 ?_
  refine r_cS h k_X3_46 (As := [.int (nI ((σ.1 j).length + 1))]) (rest := []) (c_X3_requireRoom h.i h.t ((σ.1 j).length + 1) (by omega)) rfl rfl (Nat.le_of_ble_eq_true rfl) ⟨by decide, by decide, by decide, by decide⟩ dX3_type_16 (fun E hE => VX.out h hN hQ ⟨by decide, by decide⟩ (by obtain ⟨rfl, hE⟩ := hE; exact pxE.mk 2 (by have hE2 : ¬ (σ.1 j).length < 120 := (by omega); simp [f_type, hE2, ixB_yes hj, ixN_nI hj, hy]) rfl)) (fun v10 c11 p12 => ?_)
  obtain ⟨rfl, rfl, hroom⟩ := p12
  have hlt : (σ.1 j).length < 120 := by omega
  refine r_aload_n h 0 rfl rfl dX3_type_19 ?_
  refine r_iload_n h 3 rfl rfl dX3_type_20 ?_
  refine r_cV h k_X3_49 (i := 3 + 2 * j) (As := [.int y]) (rest := []) (c_X0_put h.i h.t (by omega) (hc.row hj) (by omega) (y)) (by omega) (hc.row hj).1 rfl rfl rfl (Nat.le_of_ble_eq_true rfl) ⟨by decide, by decide, by decide, by decide⟩ dX3_type_21 (fun _ z => z.elim) (fun v16 c13 p17 => ?_)
  obtain ⟨rfl, w14, k15⟩ := p17
  refine r_aload_n h 0 rfl rfl dX3_type_24 ?_
  refine r_cV h k_X3_42 (i := 3 + 2 * j) (As := []) (rest := []) (c_X0_size h.i h.t (by omega) w14) (by omega) w14.1 rfl rfl rfl (Nat.le_of_ble_eq_true rfl) ⟨by decide, by decide, by decide, by decide⟩ dX3_type_25 (fun _ z => z.elim) (fun v18 c19 p20 => ?_)
  obtain ⟨r, rfl, rfl, rfl⟩ := p20
  exact r_iret h hQ hr dX3_type_28 ⟨by decide, by decide⟩ ⟨_, rfl, fQ.of (show f_type σ (nI j) y = (0, nI ((σ.1 j).length + 1), stS σ j (σ.1 j ++ [y])) by simp [f_type, opn, ixB_yes hj, ixN_nI hj, hy, hlt]) (by rw [List.length_append]; rfl) (hc.setRow hj k15 w14 ⟨by rw [List.length_append]; exact hlt, allB_app hLj.2 (allB_one (byB_B hy))⟩) (fun y hy => (k15 y (by omega) (by omega)))⟩
set_option maxRecDepth 100000 in
set_option maxHeartbeats 4000000 in
/-- X3_typeMany -/
theorem c_X3_typeMany {G : GG} {l : Launch} {c : CC} (hG : InjG G) (hl0 : l.stackTraces = false) {σ : St} (hc : Cls G c σ) (x y z : Int32) : MC G l yX3_typeMany (.code yX3_typeMany cX3_typeMany 6 (some .int) :: gws) (rmF 7 8 48 117) [.ref (G.1 0), .int x, .int y, .int z] c (pI (fQ G c (f_typeMany σ x y z))) (pxE (f_typeMany σ x y z) [eIO, eIA, eIS]) := by
  refine MC.of (by decide) hl0 hG (Nat.le_of_ble_eq_true rfl) (fun X hX h hN hQ hr => ?_)
  subst hX
  refine r_aload_n h 0 rfl rfl dX3_typeMany_0 ?_
  refine r_iload_n h 1 rfl rfl dX3_typeMany_1 ?_
  refine r_cV h k_X3_34 (i := 0) (As := [.int x]) (rest := []) (c_X3_sourceAt h.i h.t hc x) (by omega) hc.o rfl rfl rfl (Nat.le_of_ble_eq_true rfl) ⟨by decide, by decide, by decide, by decide⟩ dX3_typeMany_2 (fun E hE => VX.out h hN hQ ⟨by decide, by decide⟩ (by obtain ⟨rfl, hE⟩ := hE; exact pxE.mk 0 (by simp [f_typeMany, opn, hE]) rfl)) (fun v1 c2 p3 => ?_)
  obtain ⟨r, rfl, j, hj, rfl, rfl, rfl⟩ := p3
  have hLj := hc.rl hj
  have hLlj := hLj.1
  refine r_astore h ([(4, .ref (G.1 (3 + 2 * j))), (0, .ref (G.1 0)), (1, .int (nI j)), (2, .int y), (3, .int z)]) dX3_typeMany_5 (by decide) rfl ?_
  refine r_iload_n h 3 rfl rfl dX3_typeMany_7 ?_
  refine r_cS h k_X3_38 (As := [.int y]) (rest := []) (c_X3_requireByte h.i h.t y) rfl rfl (Nat.le_of_ble_eq_true rfl) ⟨by decide, by decide, by decide, by decide⟩ dX3_typeMany_8 (fun E hE => VX.out h hN hQ ⟨by decide, by decide⟩ (by obtain ⟨rfl, hE⟩ := hE; exact pxE.mk 1 (by simp [f_typeMany, opn, hE, ixB_yes hj, ixN_nI hj]) rfl)) (fun v4 c5 p6 => ?_)
  obtain ⟨rfl, rfl, hy⟩ := p6
  refine r_iload_n h 4 rfl rfl dX3_typeMany_11 ?_
  refine r_iconst h (v := nI 0) (by decide) dX3_typeMany_12 ?_
  refine r_bipush h (v := nI 60) (by decide) dX3_typeMany_13 ?_
  refine r_cS h k_X3_52 (As := [.int z, .int (nI 0), .int (nI 60)]) (rest := []) (c_X3_requireBetween h.i h.t z (nI (0)) (nI (60))) rfl rfl (Nat.le_of_ble_eq_true rfl) ⟨by decide, by decide, by decide, by decide⟩ dX3_typeMany_15 (fun E hE => VX.out h hN hQ ⟨by decide, by decide⟩ (by obtain ⟨rfl, hE⟩ := hE; exact pxE.mk 1 (by simp [f_typeMany, opn, hE, ixB_yes hj, ixN_nI hj, hy]) rfl)) (fun v7 c8 p9 => ?_)
  obtain ⟨rfl, rfl, hbt⟩ := p9
  obtain ⟨m, mlo, mhi, rfl⟩ := btB_nat hbt (by decide) (by decide)
  refine r_aload h 0 rfl dX3_typeMany_18 ?_
  refine r_cV h k_X3_42 (i := 3 + 2 * j) (As := []) (rest := []) (c_X0_size h.i h.t (by omega) (hc.row hj)) (by omega) (hc.row hj).1 rfl rfl rfl (Nat.le_of_ble_eq_true rfl) ⟨by decide, by decide, by decide, by decide⟩ dX3_typeMany_20 (fun _ z => z.elim) (fun v10 c11 p12 => ?_)
  obtain ⟨r, rfl, rfl, rfl⟩ := p12
  refine r_iload_n h 4 rfl rfl dX3_typeMany_23 ?_
  refine r_iadd h (nI_add ((σ.1 j).length) (m)) dX3_typeMany_24 ?_
  refine r_cS h k_X3_46 (As := [.int (nI ((σ.1 j).length + m))]) (rest := []) (c_X3_requireRoom h.i h.t ((σ.1 j).length + m) (by omega)) rfl rfl (Nat.le_of_ble_eq_true rfl) ⟨by decide, by decide, by decide, by decide⟩ dX3_typeMany_25 (fun E hE => VX.out h hN hQ ⟨by decide, by decide⟩ (by obtain ⟨rfl, hE⟩ := hE; exact pxE.mk 2 (by have hE2 : ¬ (σ.1 j).length + m ≤ 120 := hE; simp [f_typeMany, hE2, ixB_yes hj, ixN_nI hj, hy, hbt, ixN_n (show m < 2147483648 by omega)]) rfl)) (fun v13 c14 p15 => ?_)
  obtain ⟨rfl, rfl, hroom⟩ := p15
  refine r_iconst h (v := nI 0) (by decide) dX3_typeMany_28 ?_
  refine r_istore h ([(5, .int (nI 0)), (4, .ref (G.1 (3 + 2 * j))), (0, .ref (G.1 0)), (1, .int (nI j)), (2, .int y), (3, .int (nI m))]) dX3_typeMany_29 (by decide) rfl ?_
  have loop : ∀ (n i : Nat) (c1 : CC), m + 1 ≤ i + n → i ≤ m → RowAt G c1 (3 + 2 * j) (σ.1 j ++ List.replicate i y) → (∀ u : Nat, u ≠ 3 + 2 * j → u ≠ 3 + 2 * j + 1 → c1 u = c u) → V G X c1 [(2, .int y), (3, .int (nI m)), (4, .ref (G.1 (3 + 2 * j))), (5, .int (nI i))] (4) (24) 31 [] := by
    intro n
    induction n with
    | zero => intro i c1 a1 a2; exact absurd a1 (by omega)
    | succ n ih =>
      intro i c1 a1 a2 w1 k1
      refine r_iload h 3 rfl dX3_typeMany_31 ?_
      refine r_iload_n h 1 rfl rfl dX3_typeMany_33 ?_
      refine rn_icmp_ge h (a := i) (b := m) (by omega) (by omega) 49 dX3_typeMany_34 (by decide) (fun q => ?_) (fun q => ?_)
      · refine r_aload h 2 rfl dX3_typeMany_49 ?_
        refine r_cV h k_X3_42 (i := 3 + 2 * j) (As := []) (rest := []) (c_X0_size h.i h.t (by omega) w1) (by omega) w1.1 rfl rfl rfl (Nat.le_of_ble_eq_true rfl) ⟨by decide, by decide, by decide, by decide⟩ dX3_typeMany_51 (fun _ z => z.elim) (fun v16 c17 p18 => ?_)
        obtain ⟨r, rfl, rfl, rfl⟩ := p18
        have hi : i = m := by omega
        subst hi
        exact r_iret h hQ hr dX3_typeMany_54 ⟨by decide, by decide⟩ ⟨_, rfl, fQ.of (show f_typeMany σ (nI j) y (nI i) = (0, nI ((σ.1 j).length + i), stS σ j (σ.1 j ++ List.replicate i y)) by simp [f_typeMany, opn, ixB_yes hj, ixN_nI hj, hy, hbt, ixN_n (show i < 2147483648 by omega), hroom]) (by rw [List.length_append, List.length_replicate]) (hc.setRow hj k1 w1 ⟨by rw [List.length_append, List.length_replicate]; exact hroom, allB_app hLj.2 (allB_rep (byB_B hy) i)⟩) (fun y hy => (k1 y (by omega) (by omega)))⟩
      · refine r_aload h 2 rfl dX3_typeMany_37 ?_
        refine r_iload_n h 0 rfl rfl dX3_typeMany_39 ?_
        refine r_cV h k_X3_49 (i := 3 + 2 * j) (As := [.int y]) (rest := []) (c_X0_put h.i h.t (by omega) w1 (by rw [List.length_append, List.length_replicate]; omega) (y)) (by omega) w1.1 rfl rfl rfl (Nat.le_of_ble_eq_true rfl) ⟨by decide, by decide, by decide, by decide⟩ dX3_typeMany_40 (fun _ z => z.elim) (fun v22 c19 p23 => ?_)
        obtain ⟨rfl, w20, k21⟩ := p23
        have w20 : RowAt G c19 (3 + 2 * j) (σ.1 j ++ List.replicate (i + 1) y) := by rw [← replicate_snoc, ← List.append_assoc]; exact w20
        refine r_iinc h 3 ([(5, .int (nI (i + 1))), (2, .int y), (3, .int (nI m)), (4, .ref (G.1 (3 + 2 * j)))]) rfl (inc_1 (i)) dX3_typeMany_43 (by decide) rfl ?_
        refine r_goto h 31 dX3_typeMany_46 (by decide) ?_
        refine V_lv [1, 2, 3, 0] rfl ?_
        exact ih (i + 1) c19 (by omega) (by omega) w20 (fun u a b => (k21 u a b).trans (k1 u a b))
  refine V_lv [4, 5, 1, 0] rfl ?_
  exact loop (m + 1) 0 c (by omega) (by omega) (by simpa using hc.row hj) (fun _ _ _ => rfl)
set_option maxRecDepth 100000 in
set_option maxHeartbeats 4000000 in
/-- X3_clear -/
theorem c_X3_clear {G : GG} {l : Launch} {c : CC} (hG : InjG G) (hl0 : l.stackTraces = false) {σ : St} (hc : Cls G c σ) (x : Int32) : MC G l yX3_clear (.code yX3_clear cX3_clear 4 (some .int) :: gws) (rmF 7 8 48 116) [.ref (G.1 0), .int x] c (pI (fQ G c (f_clear σ x))) (pxE (f_clear σ x) [eIO]) := by
  refine MC.of (by decide) hl0 hG (Nat.le_of_ble_eq_true rfl) (fun X hX h hN hQ hr => ?_)
  subst hX
  refine r_aload_n h 0 rfl rfl dX3_clear_0 ?_
  refine r_iload_n h 1 rfl rfl dX3_clear_1 ?_
  refine r_cV h k_X3_34 (i := 0) (As := [.int x]) (rest := []) (c_X3_sourceAt h.i h.t hc x) (by omega) hc.o rfl rfl rfl (Nat.le_of_ble_eq_true rfl) ⟨by decide, by decide, by decide, by decide⟩ dX3_clear_2 (fun E hE => VX.out h hN hQ ⟨by decide, by decide⟩ (by obtain ⟨rfl, hE⟩ := hE; exact pxE.mk 0 (by simp [f_clear, opn, hE]) rfl)) (fun v1 c2 p3 => ?_)
  obtain ⟨r, rfl, j, hj, rfl, rfl, rfl⟩ := p3
  have hLj := hc.rl hj
  have hLlj := hLj.1
  refine r_astore_n h ([(2, .ref (G.1 (3 + 2 * j))), (0, .ref (G.1 0)), (1, .int (nI j))]) rfl dX3_clear_5 (by decide) rfl ?_
  refine r_aload_n h 0 rfl rfl dX3_clear_6 ?_
  refine r_cV h k_X3_42 (i := 3 + 2 * j) (As := []) (rest := []) (c_X0_size h.i h.t (by omega) (hc.row hj)) (by omega) (hc.row hj).1 rfl rfl rfl (Nat.le_of_ble_eq_true rfl) ⟨by decide, by decide, by decide, by decide⟩ dX3_clear_7 (fun _ z => z.elim) (fun v4 c5 p6 => ?_)
  obtain ⟨r, rfl, rfl, rfl⟩ := p6
  refine r_istore_n h ([(3, .int (nI ((σ.1 j).length))), (2, .ref (G.1 (3 + 2 * j))), (0, .ref (G.1 0)), (1, .int (nI j))]) rfl dX3_clear_10 (by decide) rfl ?_
  refine r_aload_n h 1 rfl rfl dX3_clear_11 ?_
  refine r_cV h k_X3_66 (i := 3 + 2 * j) (As := []) (rest := []) (c_X0_makeEmpty h.i h.t (by omega) (hc.row hj)) (by omega) (hc.row hj).1 rfl rfl rfl (Nat.le_of_ble_eq_true rfl) ⟨by decide, by decide, by decide, by decide⟩ dX3_clear_12 (fun _ z => z.elim) (fun v10 c7 p11 => ?_)
  obtain ⟨rfl, w8, k9⟩ := p11
  refine r_iload_n h 0 rfl rfl dX3_clear_15 ?_
  exact r_iret h hQ hr dX3_clear_16 ⟨by decide, by decide⟩ ⟨_, rfl, fQ.of (show f_clear σ (nI j) = (0, nI (σ.1 j).length, stS σ j []) by simp [f_clear, opn, ixB_yes hj, ixN_nI hj]) (rfl) (hc.setRow hj (fun y a _ => k9 y a) w8 ⟨by decide, allB_nil⟩) (fun y hy => (k9 y (by omega)))⟩
set_option maxRecDepth 100000 in
set_option maxHeartbeats 4000000 in
/-- X3_length -/
theorem c_X3_length {G : GG} {l : Launch} {c : CC} (hG : InjG G) (hl0 : l.stackTraces = false) {σ : St} (hc : Cls G c σ) (x : Int32) : MC G l yX3_length (.code yX3_length cX3_length 2 (some .int) :: gws) (rmF 7 8 48 116) [.ref (G.1 0), .int x] c (pI (fQ G c (f_length σ x))) (pxE (f_length σ x) [eIO]) := by
  refine MC.of (by decide) hl0 hG (Nat.le_of_ble_eq_true rfl) (fun X hX h hN hQ hr => ?_)
  subst hX
  refine r_aload_n h 0 rfl rfl dX3_length_0 ?_
  refine r_iload_n h 1 rfl rfl dX3_length_1 ?_
  refine r_cV h k_X3_34 (i := 0) (As := [.int x]) (rest := []) (c_X3_sourceAt h.i h.t hc x) (by omega) hc.o rfl rfl rfl (Nat.le_of_ble_eq_true rfl) ⟨by decide, by decide, by decide, by decide⟩ dX3_length_2 (fun E hE => VX.out h hN hQ ⟨by decide, by decide⟩ (by obtain ⟨rfl, hE⟩ := hE; exact pxE.mk 0 (by simp [f_length, opn, hE]) rfl)) (fun v1 c2 p3 => ?_)
  obtain ⟨r, rfl, j, hj, rfl, rfl, rfl⟩ := p3
  have hLj := hc.rl hj
  have hLlj := hLj.1
  refine r_cV h k_X3_42 (i := 3 + 2 * j) (As := []) (rest := []) (c_X0_size h.i h.t (by omega) (hc.row hj)) (by omega) (hc.row hj).1 rfl rfl rfl (Nat.le_of_ble_eq_true rfl) ⟨by decide, by decide, by decide, by decide⟩ dX3_length_5 (fun _ z => z.elim) (fun v4 c5 p6 => ?_)
  obtain ⟨r, rfl, rfl, rfl⟩ := p6
  exact r_iret h hQ hr dX3_length_8 ⟨by decide, by decide⟩ ⟨_, rfl, fQ.of (show f_length σ (nI j) = (0, nI (σ.1 j).length, σ) by simp [f_length, opn, ixB_yes hj, ixN_nI hj]) (rfl) (hc) (fun _ _ => rfl)⟩
set_option maxRecDepth 100000 in
set_option maxHeartbeats 4000000 in
/-- X3_ends -/
theorem c_X3_ends {G : GG} {l : Launch} {c : CC} (hG : InjG G) (hl0 : l.stackTraces = false) {σ : St} (hc : Cls G c σ) (x : Int32) : MC G l yX3_ends (.code yX3_ends cX3_ends 2 (some .int) :: gws) (rmF 7 8 48 116) [.ref (G.1 0), .int x] c (pI (fQ G c (f_ends σ x))) (pxE (f_ends σ x) [eIO]) := by
  refine MC.of (by decide) hl0 hG (Nat.le_of_ble_eq_true rfl) (fun X hX h hN hQ hr => ?_)
  subst hX
  refine r_aload_n h 0 rfl rfl dX3_ends_0 ?_
  refine r_iload_n h 1 rfl rfl dX3_ends_1 ?_
  refine r_cV h k_X3_34 (i := 0) (As := [.int x]) (rest := []) (c_X3_sourceAt h.i h.t hc x) (by omega) hc.o rfl rfl rfl (Nat.le_of_ble_eq_true rfl) ⟨by decide, by decide, by decide, by decide⟩ dX3_ends_2 (fun E hE => VX.out h hN hQ ⟨by decide, by decide⟩ (by obtain ⟨rfl, hE⟩ := hE; exact pxE.mk 0 (by simp [f_ends, opn, hE]) rfl)) (fun v1 c2 p3 => ?_)
  obtain ⟨r, rfl, j, hj, rfl, rfl, rfl⟩ := p3
  have hLj := hc.rl hj
  have hLlj := hLj.1
  refine r_cV h k_X3_77 (i := 3 + 2 * j) (As := []) (rest := []) (c_X0_countEnds h.i h.t (by omega) (hc.row hj)) (by omega) (hc.row hj).1 rfl rfl rfl (Nat.le_of_ble_eq_true rfl) ⟨by decide, by decide, by decide, by decide⟩ dX3_ends_5 (fun _ z => z.elim) (fun v4 c5 p6 => ?_)
  obtain ⟨r, rfl, rfl, rfl⟩ := p6
  exact r_iret h hQ hr dX3_ends_8 ⟨by decide, by decide⟩ ⟨_, rfl, fQ.of (show f_ends σ (nI j) = (0, nI (ecT (σ.1 j) (σ.1 j).length), σ) by simp [f_ends, opn, ixB_yes hj, ixN_nI hj]) (rfl) (hc) (fun _ _ => rfl)⟩
set_option maxRecDepth 100000 in
set_option maxHeartbeats 4000000 in
/-- X3_byteAt -/
theorem c_X3_byteAt {G : GG} {l : Launch} {c : CC} (hG : InjG G) (hl0 : l.stackTraces = false) {σ : St} (hc : Cls G c σ) (x y : Int32) : MC G l yX3_byteAt (.code yX3_byteAt cX3_byteAt 4 (some .int) :: gws) (rmF 7 8 48 116) [.ref (G.1 0), .int x, .int y] c (pI (fQ G c (f_byteAt σ x y))) (pxE (f_byteAt σ x y) [eIO]) := by
  refine MC.of (by decide) hl0 hG (Nat.le_of_ble_eq_true rfl) (fun X hX h hN hQ hr => ?_)
  subst hX
  refine r_aload_n h 0 rfl rfl dX3_byteAt_0 ?_
  refine r_iload_n h 1 rfl rfl dX3_byteAt_1 ?_
  refine r_cV h k_X3_34 (i := 0) (As := [.int x]) (rest := []) (c_X3_sourceAt h.i h.t hc x) (by omega) hc.o rfl rfl rfl (Nat.le_of_ble_eq_true rfl) ⟨by decide, by decide, by decide, by decide⟩ dX3_byteAt_2 (fun E hE => VX.out h hN hQ ⟨by decide, by decide⟩ (by obtain ⟨rfl, hE⟩ := hE; exact pxE.mk 0 (by simp [f_byteAt, opn, hE]) rfl)) (fun v1 c2 p3 => ?_)
  obtain ⟨r, rfl, j, hj, rfl, rfl, rfl⟩ := p3
  have hLj := hc.rl hj
  have hLlj := hLj.1
  refine r_astore_n h ([(3, .ref (G.1 (3 + 2 * j))), (0, .ref (G.1 0)), (1, .int (nI j)), (2, .int y)]) rfl dX3_byteAt_5 (by decide) rfl ?_
  refine r_aload_n h 0 rfl rfl dX3_byteAt_6 ?_
  refine r_iload_n h 3 rfl rfl dX3_byteAt_7 ?_
  refine r_cS h k_X3_69 (As := [.ref (G.1 (3 + 2 * j)), .int y]) (rest := []) (c_X3_requirePlace h.i h.t (by omega) (hc.row hj) y) rfl rfl (Nat.le_of_ble_eq_true rfl) ⟨by decide, by decide, by decide, by decide⟩ dX3_byteAt_8 (fun E hE => VX.out h hN hQ ⟨by decide, by decide⟩ (by obtain ⟨rfl, hE⟩ := hE; exact pxE.mk 0 (by simp [f_byteAt, opn, hE, ixB_yes hj, ixN_nI hj]) rfl)) (fun v4 c5 p6 => ?_)
  obtain ⟨rfl, rfl, p, hp, rfl⟩ := p6
  refine r_aload_n h 0 rfl rfl dX3_byteAt_11 ?_
  refine r_iload_n h 3 rfl rfl dX3_byteAt_12 ?_
  refine r_cV h k_X3_73 (i := 3 + 2 * j) (As := [.int (nI p)]) (rest := []) (c_X0_at h.i h.t (by omega) (hc.row hj) (nI (p))) (by omega) (hc.row hj).1 rfl rfl rfl (Nat.le_of_ble_eq_true rfl) ⟨by decide, by decide, by decide, by decide⟩ dX3_byteAt_13 (fun _ z => z.elim) (fun v7 c8 p9 => ?_)
  obtain ⟨r, rfl, rfl, rfl⟩ := p9
  rw [atP_nI hp (by omega)]
  exact r_iret h hQ hr dX3_byteAt_16 ⟨by decide, by decide⟩ ⟨_, rfl, fQ.of (show f_byteAt σ (nI j) (nI p) = (0, (σ.1 j).getD p 0, σ) by simp [f_byteAt, opn, ixB_yes hj, ixN_nI hj, plB_yes hp (by omega), ixN_n (show p < 2147483648 by omega)]) (rfl) (hc) (fun _ _ => rfl)⟩
