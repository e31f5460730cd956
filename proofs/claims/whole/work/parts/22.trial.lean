/-! THE TRIAL -/
set_option maxRecDepth 100000 in
set_option maxHeartbeats 4000000 in
/-- X2_joinedAt -/
theorem c_X2_joinedAt {G : GG} {l : Launch} {c : CC} (hG : InjG G) (hl0 : l.stackTraces = false) {a b : Nat} (ha : a + 1 < 25) (hb : b + 1 < 25) {A B : List Int32} (hA : RowAt G c a A) (hB : RowAt G c b B) (j : Nat) (hj : j < A.length + B.length) : MC G l yX2_joinedAt (.code yX2_joinedAt cX2_joinedAt 3 (some .int) :: gws) (rmF 1 0 0 21) [.ref (G.1 a), .ref (G.1 b), .int (nI j)] c (pI (fun r c' => c = c' ∧ (A ++ B).getD j 0 = r)) (pF) := by
  refine MC.of (by decide) hl0 hG (Nat.le_of_ble_eq_true rfl) (fun X hX h hN hQ hr => ?_)
  subst hX
  have hle1 := hA.le
  have hle2 := hB.le
  refine r_iload_n h 2 rfl rfl dX2_joinedAt_0 ?_
  refine r_aload_n h 0 rfl rfl dX2_joinedAt_1 ?_
  refine r_cV h k_X2_49 (i := a) (As := []) (rest := [.int (nI j)]) (c_X0_size h.i h.t (by omega) hA) (by omega) hA.1 rfl rfl rfl (Nat.le_of_ble_eq_true rfl) ⟨by decide, by decide, by decide, by decide⟩ dX2_joinedAt_2 (fun _ z => z.elim) (fun v1 c2 p3 => ?_)
  obtain ⟨r, rfl, rfl, rfl⟩ := p3
  refine rn_icmp_ge h (a := j) (b := A.length) (by omega) (by omega) 16 dX2_joinedAt_5 (by decide) (fun q => ?_) (fun q => ?_)
  · refine r_aload_n h 1 rfl rfl dX2_joinedAt_16 ?_
    refine r_iload_n h 2 rfl rfl dX2_joinedAt_17 ?_
    refine r_aload_n h 0 rfl rfl dX2_joinedAt_18 ?_
    refine r_cV h k_X2_49 (i := a) (As := []) (rest := [.int (nI j), .ref (G.1 b)]) (c_X0_size h.i h.t (by omega) hA) (by omega) hA.1 rfl rfl rfl (Nat.le_of_ble_eq_true rfl) ⟨by decide, by decide, by decide, by decide⟩ dX2_joinedAt_19 (fun _ z => z.elim) (fun v4 c5 p6 => ?_)
    obtain ⟨r, rfl, rfl, rfl⟩ := p6
    refine r_isub h (pk_sub (a := j) (b := A.length) (by omega)) dX2_joinedAt_22 ?_
    refine r_cV h k_X2_71 (i := b) (As := [.int (nI (j - A.length))]) (rest := []) (c_X0_at h.i h.t (by omega) hB (nI (j - A.length))) (by omega) hB.1 rfl rfl rfl (Nat.le_of_ble_eq_true rfl) ⟨by decide, by decide, by decide, by decide⟩ dX2_joinedAt_23 (fun _ z => z.elim) (fun v7 c8 p9 => ?_)
    obtain ⟨r, rfl, rfl, rfl⟩ := p9
    rw [atP_nI (show j - A.length < B.length by omega) (by omega)]
    exact r_iret h hQ hr dX2_joinedAt_26 ⟨by decide, by decide⟩ ⟨_, rfl, rfl, getD_r q⟩
  · refine r_aload_n h 0 rfl rfl dX2_joinedAt_8 ?_
    refine r_iload_n h 2 rfl rfl dX2_joinedAt_9 ?_
    refine r_cV h k_X2_71 (i := a) (As := [.int (nI j)]) (rest := []) (c_X0_at h.i h.t (by omega) hA (nI (j))) (by omega) hA.1 rfl rfl rfl (Nat.le_of_ble_eq_true rfl) ⟨by decide, by decide, by decide, by decide⟩ dX2_joinedAt_10 (fun _ z => z.elim) (fun v10 c11 p12 => ?_)
    obtain ⟨r, rfl, rfl, rfl⟩ := p12
    rw [atP_nI q (by omega)]
    refine r_goto h 26 dX2_joinedAt_13 (by decide) ?_
    exact r_iret h hQ hr dX2_joinedAt_26 ⟨by decide, by decide⟩ ⟨_, rfl, rfl, getD_l q⟩
set_option maxRecDepth 100000 in
set_option maxHeartbeats 4000000 in
/-- X2_putDue -/
theorem c_X2_putDue {G : GG} {l : Launch} {c : CC} (hG : InjG G) (hl0 : l.stackTraces = false) {pl ln : Int32} {tg : Int64} (h25 : c 25 = .inr (4, [.ref (G.1 26), .ref (G.1 29), .ref (G.1 31), .int pl, .int ln, .long (tg)])) {D : List Int32} (hD : RowAt G c 29 D) {a b : Nat} (ha : a + 1 < 25) (hb : b + 1 < 25) {A B : List Int32} (hA : RowAt G c a A) (hB : RowAt G c b B) (s m n : Nat) (hn : n = s + m) (hn2 : n ≤ A.length + B.length) (hm : D.length + m ≤ 240) (as : Bool) : MC G l yX2_putDue (.code yX2_putDue cX2_putDue 9 none :: gws) (rmF 2 0 0 43) [.ref (G.1 25), .ref (G.1 a), .ref (G.1 b), .int (nI s), .int (nI n), .int (if as = true then 1 else 0)] c (pV (fun c' => RowAt G c' 29 (D ++ dF as (fun i => (A ++ B).getD (s + i) 0) m m) ∧ ∀ y : Nat, y ≠ 29 → y ≠ 30 → c' y = c y)) (pF) := by
  refine MC.of (by decide) hl0 hG (Nat.le_of_ble_eq_true rfl) (fun X hX h hN hQ hr => ?_)
  subst hX
  have hle1 := hA.le
  have hle2 := hB.le
  refine r_iload_n h 3 rfl rfl dX2_putDue_0 ?_
  refine r_istore h ([(6, .int (nI s)), (0, .ref (G.1 25)), (1, .ref (G.1 a)), (2, .ref (G.1 b)), (3, .int (nI s)), (4, .int (nI n)), (5, .int (if as = true then 1 else 0))]) dX2_putDue_1 (by decide) rfl ?_
  have loop : ∀ (q j : Nat) (c1 : CC), m + 1 ≤ j + q → j ≤ m → RowAt G c1 29 (D ++ dF as (fun i => (A ++ B).getD (s + i) 0) m j) → (∀ y : Nat, y ≠ 29 → y ≠ 30 → c1 y = c y) → V G X c1 [(0, .ref (G.1 25)), (1, .ref (G.1 a)), (2, .ref (G.1 b)), (4, .int (nI n)), (5, .int (if as = true then 1 else 0)), (6, .int (nI (s + j)))] 0 0 3 [] := by
    intro q
    induction q with
    | zero => intro j c1 a1 a2; exact absurd a1 (by omega)
    | succ q ih =>
      intro j c1 a1 a2 w1 k1
      have hdl := dF_len as (fun i => (A ++ B).getD (s + i) 0) m j
      have g1 := (k1 (25) (by omega) (by omega)).trans h25
      have g2 := hA.mono (k1 (a) (by omega) (by omega)) (k1 (a + 1) (by omega) (by omega))
      have g3 := hB.mono (k1 (b) (by omega) (by omega)) (k1 (b + 1) (by omega) (by omega))
      refine r_iload h 5 rfl dX2_putDue_3 ?_
      refine r_iload h 3 rfl dX2_putDue_5 ?_
      refine rn_icmp_ge h (a := s + j) (b := n) (by omega) (by omega) 89 dX2_putDue_7 (by decide) (fun z => ?_) (fun z => ?_)
      · exact r_vret h hQ hr dX2_putDue_89 ⟨by decide, by decide⟩ ⟨rfl, by rw [show j = m by omega] at w1; exact w1, k1⟩
      · refine r_aload_n h 1 rfl rfl dX2_putDue_10 ?_
        refine r_aload_n h 2 rfl rfl dX2_putDue_11 ?_
        refine r_iload h 5 rfl dX2_putDue_12 ?_
        refine r_cS h k_X2_63 (As := [.ref (G.1 a), .ref (G.1 b), .int (nI (s + j))]) (rest := []) (c_X2_joinedAt h.i h.t ha hb g2 g3 (s + j) (by omega)) rfl rfl (Nat.le_of_ble_eq_true rfl) ⟨by decide, by decide, by decide, by decide⟩ dX2_putDue_14 (fun _ z => z.elim) (fun v4 c5 p6 => ?_)
        obtain ⟨r, rfl, rfl, rfl⟩ := p6
        refine r_istore h ([(7, .int ((A ++ B).getD (s + j) 0)), (0, .ref (G.1 25)), (1, .ref (G.1 a)), (2, .ref (G.1 b)), (4, .int (nI n)), (5, .int (if as = true then 1 else 0)), (6, .int (nI (s + j)))]) dX2_putDue_17 (by decide) rfl ?_
        refine r_iload h 6 rfl dX2_putDue_19 ?_
        refine r_iconst h (v := nI 1) (by decide) dX2_putDue_21 ?_
        refine r_iadd h (nI_add (s + j) (1)) dX2_putDue_22 ?_
        refine r_iload h 4 rfl dX2_putDue_23 ?_
        suffices KK : V G X c1 [(8, .int (if j + 1 < m then (A ++ B).getD (s + (j + 1)) 0 else -1)), (7, .int ((A ++ B).getD (s + j) 0)), (0, .ref (G.1 25)), (1, .ref (G.1 a)), (2, .ref (G.1 b)), (4, .int (nI n)), (5, .int (if as = true then 1 else 0)), (6, .int (nI (s + j)))] 0 0 43 [] from ?_
        · refine rn_icmp_ge h (a := s + j + 1) (b := n) (by omega) (by omega) 40 dX2_putDue_25 (by decide) (fun z2 => ?_) (fun z2 => ?_)
          · refine r_iconst h (v := -1) (by decide) dX2_putDue_40 ?_
            refine r_istore h ([(8, .int (-1)), (7, .int ((A ++ B).getD (s + j) 0)), (0, .ref (G.1 25)), (1, .ref (G.1 a)), (2, .ref (G.1 b)), (4, .int (nI n)), (5, .int (if as = true then 1 else 0)), (6, .int (nI (s + j)))]) dX2_putDue_41 (by decide) rfl ?_
            rw [if_neg (show ¬ j + 1 < m by omega)] at KK
            exact KK
          · refine r_aload_n h 2 rfl rfl dX2_putDue_28 ?_
            refine r_aload_n h 3 rfl rfl dX2_putDue_29 ?_
            refine r_iload h 6 rfl dX2_putDue_30 ?_
            refine r_iconst h (v := nI 1) (by decide) dX2_putDue_32 ?_
            refine r_iadd h (nI_add (s + j) (1)) dX2_putDue_33 ?_
            refine r_cS h k_X2_63 (As := [.ref (G.1 a), .ref (G.1 b), .int (nI (s + j + 1))]) (rest := []) (c_X2_joinedAt h.i h.t ha hb g2 g3 (s + j + 1) (by omega)) rfl rfl (Nat.le_of_ble_eq_true rfl) ⟨by decide, by decide, by decide, by decide⟩ dX2_putDue_34 (fun _ z => z.elim) (fun v7 c8 p9 => ?_)
            obtain ⟨r, rfl, rfl, rfl⟩ := p9
            refine r_goto h 41 dX2_putDue_37 (by decide) ?_
            refine r_istore h ([(8, .int ((A ++ B).getD (s + j + 1) 0)), (7, .int ((A ++ B).getD (s + j) 0)), (0, .ref (G.1 25)), (1, .ref (G.1 a)), (2, .ref (G.1 b)), (4, .int (nI n)), (5, .int (if as = true then 1 else 0)), (6, .int (nI (s + j)))]) dX2_putDue_41 (by decide) rfl ?_
            rw [if_pos (show j + 1 < m by omega)] at KK
            exact KK
        · generalize hyy : (if j + 1 < m then (A ++ B).getD (s + (j + 1)) 0 else -1) = yy
          have hst : dF as (fun i => (A ++ B).getD (s + i) 0) m (j + 1) = dF as (fun i => (A ++ B).getD (s + i) 0) m j ++ dS as ((A ++ B).getD (s + j) 0) yy := by rw [← hyy]; rfl
          refine r_iload h 6 rfl dX2_putDue_43 ?_
          refine rb_if_eq h 55 dX2_putDue_45 (by decide) (fun u => ?_) (fun u => ?_)
          · refine r_aload_n h 2 rfl rfl dX2_putDue_55 ?_
            refine r_getf h F_X2_21 (i := 25) (by omega) g1 rfl dX2_putDue_56 ?_
            refine r_iload h 1 rfl dX2_putDue_59 ?_
            refine r_cV h k_X2_67 (i := 29) (As := [.int ((A ++ B).getD (s + j) 0)]) (rest := []) (c_X0_put h.i h.t (by omega) w1 (by rw [List.length_append]; omega) ((A ++ B).getD (s + j) 0)) (by omega) w1.1 rfl rfl rfl (Nat.le_of_ble_eq_true rfl) ⟨by decide, by decide, by decide, by decide⟩ dX2_putDue_61 (fun _ z => z.elim) (fun v13 c10 p14 => ?_)
            obtain ⟨rfl, w11, k12⟩ := p14
            have g15 := (k12 (25) (by omega) (by omega)).trans g1
            have g16 := g2.mono (k12 (a) (by omega) (by omega)) (k12 (a + 1) (by omega) (by omega))
            have g17 := g3.mono (k12 (b) (by omega) (by omega)) (k12 (b + 1) (by omega) (by omega))
            have w11 : RowAt G c10 (29) (D ++ dF as (fun i => (A ++ B).getD (s + i) 0) m (j + 1)) := by rw [hst, dS_n (fun z => u z.1), ← List.append_assoc]; exact w11
            refine r_goto h 83 dX2_putDue_64 (by decide) ?_
            refine r_iinc h 7 ([(6, .int (nI (s + j + 1))), (8, .int yy), (7, .int ((A ++ B).getD (s + j) 0)), (0, .ref (G.1 25)), (1, .ref (G.1 a)), (2, .ref (G.1 b)), (4, .int (nI n)), (5, .int (if as = true then 1 else 0))]) rfl (inc_1 (s + j)) dX2_putDue_83 (by decide) rfl ?_
            refine r_goto h 3 dX2_putDue_86 (by decide) ?_
            refine V_lv [3, 4, 5, 6, 7, 0] rfl ?_
            exact ih (j + 1) c10 (by omega) (by omega) w11 (fun y p q => (k12 y p q).trans (k1 y p q))
          · refine r_iload h 1 rfl dX2_putDue_48 ?_
            refine r_bipush h (v := nI 13) (by decide) dX2_putDue_50 ?_
            refine r_icmp_eq h 67 dX2_putDue_52 (by decide) (fun v => ?_) (fun v => ?_)
            · refine r_iload h 0 rfl dX2_putDue_67 ?_
              refine r_bipush h (v := nI 10) (by decide) dX2_putDue_69 ?_
              refine r_icmp_eq h 83 dX2_putDue_71 (by decide) (fun v3 => ?_) (fun v3 => ?_)
              · have w2 : RowAt G c1 29 (D ++ dF as (fun i => (A ++ B).getD (s + i) 0) m (j + 1)) := by rw [hst, dS_y ⟨u, v⟩ v3, List.append_nil]; exact w1
                refine r_iinc h 7 ([(6, .int (nI (s + j + 1))), (8, .int yy), (7, .int ((A ++ B).getD (s + j) 0)), (0, .ref (G.1 25)), (1, .ref (G.1 a)), (2, .ref (G.1 b)), (4, .int (nI n)), (5, .int (if as = true then 1 else 0))]) rfl (inc_1 (s + j)) dX2_putDue_83 (by decide) rfl ?_
                refine r_goto h 3 dX2_putDue_86 (by decide) ?_
                refine V_lv [3, 4, 5, 6, 7, 0] rfl ?_
                exact ih (j + 1) c1 (by omega) (by omega) w2 (k1)
              · refine r_aload_n h 2 rfl rfl dX2_putDue_74 ?_
                refine r_getf h F_X2_21 (i := 25) (by omega) g1 rfl dX2_putDue_75 ?_
                refine r_bipush h (v := nI 10) (by decide) dX2_putDue_78 ?_
                refine r_cV h k_X2_67 (i := 29) (As := [.int (nI 10)]) (rest := []) (c_X0_put h.i h.t (by omega) w1 (by rw [List.length_append]; omega) (nI (10))) (by omega) w1.1 rfl rfl rfl (Nat.le_of_ble_eq_true rfl) ⟨by decide, by decide, by decide, by decide⟩ dX2_putDue_80 (fun _ z => z.elim) (fun v21 c18 p22 => ?_)
                obtain ⟨rfl, w19, k20⟩ := p22
                have g23 := (k20 (25) (by omega) (by omega)).trans g1
                have g24 := g2.mono (k20 (a) (by omega) (by omega)) (k20 (a + 1) (by omega) (by omega))
                have g25 := g3.mono (k20 (b) (by omega) (by omega)) (k20 (b + 1) (by omega) (by omega))
                have w19 : RowAt G c18 (29) (D ++ dF as (fun i => (A ++ B).getD (s + i) 0) m (j + 1)) := by rw [hst, dS_z ⟨u, v⟩ v3, ← List.append_assoc]; exact w19
                refine r_iinc h 7 ([(6, .int (nI (s + j + 1))), (8, .int yy), (7, .int ((A ++ B).getD (s + j) 0)), (0, .ref (G.1 25)), (1, .ref (G.1 a)), (2, .ref (G.1 b)), (4, .int (nI n)), (5, .int (if as = true then 1 else 0))]) rfl (inc_1 (s + j)) dX2_putDue_83 (by decide) rfl ?_
                refine r_goto h 3 dX2_putDue_86 (by decide) ?_
                refine V_lv [3, 4, 5, 6, 7, 0] rfl ?_
                exact ih (j + 1) c18 (by omega) (by omega) w19 (fun y p q => (k20 y p q).trans (k1 y p q))
            · refine r_aload_n h 2 rfl rfl dX2_putDue_55 ?_
              refine r_getf h F_X2_21 (i := 25) (by omega) g1 rfl dX2_putDue_56 ?_
              refine r_iload h 1 rfl dX2_putDue_59 ?_
              refine r_cV h k_X2_67 (i := 29) (As := [.int ((A ++ B).getD (s + j) 0)]) (rest := []) (c_X0_put h.i h.t (by omega) w1 (by rw [List.length_append]; omega) ((A ++ B).getD (s + j) 0)) (by omega) w1.1 rfl rfl rfl (Nat.le_of_ble_eq_true rfl) ⟨by decide, by decide, by decide, by decide⟩ dX2_putDue_61 (fun _ z => z.elim) (fun v29 c26 p30 => ?_)
              obtain ⟨rfl, w27, k28⟩ := p30
              have g31 := (k28 (25) (by omega) (by omega)).trans g1
              have g32 := g2.mono (k28 (a) (by omega) (by omega)) (k28 (a + 1) (by omega) (by omega))
              have g33 := g3.mono (k28 (b) (by omega) (by omega)) (k28 (b + 1) (by omega) (by omega))
              have w27 : RowAt G c26 (29) (D ++ dF as (fun i => (A ++ B).getD (s + i) 0) m (j + 1)) := by rw [hst, dS_n (fun z => v z.2), ← List.append_assoc]; exact w27
              refine r_goto h 83 dX2_putDue_64 (by decide) ?_
              refine r_iinc h 7 ([(6, .int (nI (s + j + 1))), (8, .int yy), (7, .int ((A ++ B).getD (s + j) 0)), (0, .ref (G.1 25)), (1, .ref (G.1 a)), (2, .ref (G.1 b)), (4, .int (nI n)), (5, .int (if as = true then 1 else 0))]) rfl (inc_1 (s + j)) dX2_putDue_83 (by decide) rfl ?_
              refine r_goto h 3 dX2_putDue_86 (by decide) ?_
              refine V_lv [3, 4, 5, 6, 7, 0] rfl ?_
              exact ih (j + 1) c26 (by omega) (by omega) w27 (fun y p q => (k28 y p q).trans (k1 y p q))
  refine V_lv [1, 2, 3, 5, 6, 0] rfl ?_
  exact loop (m + 1) 0 c (by omega) (by omega) (by rw [show dF as (fun i => (A ++ B).getD (s + i) 0) m 0 = [] from rfl, List.append_nil]; exact hD) (fun _ _ _ => rfl)
