/-! THE TRIAL -/
set_option maxRecDepth 100000 in
set_option maxHeartbeats 4000000 in
/-- X2_joinedAt -/
theorem c_X2_joinedAt {G : GG} {l : Launch} {c : CC} (hG : InjG G) (hl0 : l.stackTraces = false) {a b : Nat} (ha : a + 1 < 25) (hb : b + 1 < 25) {A B : List Int32} (hA : RowAt G c a A) (hB : RowAt G c b B) (j : Nat) (hj : j < A.length + B.length) : MC G l yX2_joinedAt (.code yX2_joinedAt cX2_joinedAt 3 (some .int) :: gws) (rmF 1 0 0 21) [.ref (G.1 a), .ref (G.1 b), .int (nI j)] c (pI (fun r c' => c = c' ∧ (A ++ B).getD j 0 = r)) (pF) := by
  refine MC.of (by decide) hl0 hG (Nat.le_of_ble_eq_true rfl) (fun X hX h hN hQ hr => ?_)
  subst hX
  have hle1 := hA.le
  have hle2 := hB.le
  refine r_iload_n h 2 rfl rfl dX2_joinedAt_0 ?_
  refine r_aload_n h 0 rfl rfl dX2_joinedAt_1 ?_
  refine r_cV h k_X2_49 (i := a) (As := []) (rest := [.int (nI j)]) (c_X0_size h.i h.t (by omega) hA) (by omega) hA.1 rfl rfl rfl (Nat.le_of_ble_eq_true rfl) ⟨by decide, by decide, by decide, by decide⟩ dX2_joinedAt_2 (fun _ z => z.elim) (fun v1 c2 p3 => ?_)
  obtain ⟨r, rfl, rfl, rfl⟩ := p3
  refine rn_icmp_ge h (a := j) (b := A.length) (by omega) (by omega) 16 dX2_joinedAt_5 (by decide) (fun q => ?_) (fun q => ?_)
  · refine r_aload_n h 1 rfl rfl dX2_joinedAt_16 ?_
    refine r_iload_n h 2 rfl rfl dX2_joinedAt_17 ?_
    refine r_aload_n h 0 rfl rfl dX2_joinedAt_18 ?_
    refine r_cV h k_X2_49 (i := a) (As := []) (rest := [.int (nI j), .ref (G.1 b)]) (c_X0_size h.i h.t (by omega) hA) (by omega) hA.1 rfl rfl rfl (Nat.le_of_ble_eq_true rfl) ⟨by decide, by decide, by decide, by decide⟩ dX2_joinedAt_19 (fun _ z => z.elim) (fun v4 c5 p6 => ?_)
    obtain ⟨r, rfl, rfl, rfl⟩ := p6
    refine r_isub h (pk_sub (a := j) (b := A.length) (by omega)) dX2_joinedAt_22 ?_
    refine r_cV h k_X2_71 (i := b) (As := [.int (nI (j - A.length))]) (rest := []) (c_X0_at h.i h.t (by omega) hB (nI (j - A.length))) (by omega) hB.1 rfl rfl rfl (Nat.le_of_ble_eq_true rfl) ⟨by decide, by decide, by decide, by decide⟩ dX2_joinedAt_23 (fun _ z => z.elim) (fun v7 c8 p9 => ?_)
    obtain ⟨r, rfl, rfl, rfl⟩ := p9
    rw [atP_nI (show j - A.length < B.length by omega) (by omega)]
    exact r_iret h hQ hr dX2_joinedAt_26 ⟨by decide, by decide⟩ ⟨_, rfl, rfl, getD_r q⟩
  · refine r_aload_n h 0 rfl rfl dX2_joinedAt_8 ?_
    refine r_iload_n h 2 rfl rfl dX2_joinedAt_9 ?_
    refine r_cV h k_X2_71 (i := a) (As := [.int (nI j)]) (rest := []) (c_X0_at h.i h.t (by omega) hA (nI (j))) (by omega) hA.1 rfl rfl rfl (Nat.le_of_ble_eq_true rfl) ⟨by decide, by decide, by decide, by decide⟩ dX2_joinedAt_10 (fun _ z => z.elim) (fun v10 c11 p12 => ?_)
    obtain ⟨r, rfl, rfl, rfl⟩ := p12
    rw [atP_nI q (by omega)]
    refine r_goto h 26 dX2_joinedAt_13 (by decide) ?_
    exact r_iret h hQ hr dX2_joinedAt_26 ⟨by decide, by decide⟩ ⟨_, rfl, rfl, getD_l q⟩
set_option maxRecDepth 100000 in
set_option maxHeartbeats 4000000 in
/-- X2_putDue -/
theorem c_X2_putDue {G : GG} {l : Launch} {c : CC} (hG : InjG G) (hl0 : l.stackTraces = false) {pl ln : Int32} {tg : Int64} (h25 : c 25 = .inr (4, [.ref (G.1 26), .ref (G.1 29), .ref (G.1 31), .int pl, .int ln, .long (tg)])) {D : List Int32} (hD : RowAt G c 29 D) {a b : Nat} (ha : a + 1 < 25) (hb : b + 1 < 25) {A B : List Int32} (hA : RowAt G c a A) (hB : RowAt G c b B) (s m n : Nat) (hn : n = s + m) (hn2 : n ≤ A.length + B.length) (hm : D.length + m ≤ 240) (as : Bool) : MC G l yX2_putDue (.code yX2_putDue cX2_putDue 9 none :: gws) (rmF 2 0 0 43) [.ref (G.1 25), .ref (G.1 a), .ref (G.1 b), .int (nI s), .int (nI n), .int (if as = true then 1 else 0)] c (pV (fun c' => RowAt G c' 29 (D ++ dF as (fun i => (A ++ B).getD (s + i) 0) m m) ∧ ∀ y : Nat, y ≠ 29 → y ≠ 30 → c' y = c y)) (pF) := by
  refine MC.of (by decide) hl0 hG (Nat.le_of_ble_eq_true rfl) (fun X hX h hN hQ hr => ?_)
  subst hX
  have hle1 := hA.le
  have hle2 := hB.le
  refine r_iload_n h 3 rfl rfl dX2_putDue_0 ?_
  refine r_istore h ([(6, .int (nI s)), (0, .ref (G.1 25)), (1, .ref (G.1 a)), (2, .ref (G.1 b)), (3, .int (nI s)), (4, .int (nI n)), (5, .int (if as = true then 1 else 0))]) dX2_putDue_1 (by decide) rfl ?_
  have loop : ∀ (q j : Nat) (c1 : CC), m + 1 ≤ j + q → j ≤ m → RowAt G c1 29 (D ++ dF as (fun i => (A ++ B).getD (s + i) 0) m j) → (∀ y : Nat, y ≠ 29 → y ≠ 30 → c1 y = c y) → V G X c1 [(0, .ref (G.1 25)), (1, .ref (G.1 a)), (2, .ref (G.1 b)), (4, .int (nI n)), (5, .int (if as = true then 1 else 0)), (6, .int (nI (s + j)))] 0 0 3 [] := by
    intro q
    induction q with
    | zero => intro j c1 a1 a2; exact absurd a1 (by omega)
    | succ q ih =>
      intro j c1 a1 a2 w1 k1
      have hdl := dF_len as (fun i => (A ++ B).getD (s + i) 0) m j
      have g1 := (k1 (25) (by omega) (by omega)).trans h25
      have g2 := hA.mono (k1 (a) (by omega) (by omega)) (k1 (a + 1) (by omega) (by omega))
      have g3 := hB.mono (k1 (b) (by omega) (by omega)) (k1 (b + 1) (by omega) (by omega))
      refine r_iload h 5 rfl dX2_putDue_3 ?_
      refine r_iload h 3 rfl dX2_putDue_5 ?_
      refine rn_icmp_ge h (a := s + j) (b := n) (by omega) (by omega) 89 dX2_putDue_7 (by decide) (fun z => ?_) (fun z => ?_)
      · exact r_vret h hQ hr dX2_putDue_89 ⟨by decide, by decide⟩ ⟨rfl, by rw [show j = m by omega] at w1; exact w1, k1⟩
      · refine r_aload_n h 1 rfl rfl dX2_putDue_10 ?_
        refine r_aload_n h 2 rfl rfl dX2_putDue_11 ?_
        refine r_iload h 5 rfl dX2_putDue_12 ?_
        refine r_cS h k_X2_63 (As := [.ref (G.1 a), .ref (G.1 b), .int (nI (s + j))]) (rest := []) (c_X2_joinedAt h.i h.t ha hb g2 g3 (s + j) (by omega)) rfl rfl (Nat.le_of_ble_eq_true rfl) ⟨by decide, by decide, by decide, by decide⟩ dX2_putDue_14 (fun _ z => z.elim) (fun v4 c5 p6 => ?_)
        obtain ⟨r, rfl, rfl, rfl⟩ := p6
        refine r_istore h ([(7, .int ((A ++ B).getD (s + j) 0)), (0, .ref (G.1 25)), (1, .ref (G.1 a)), (2, .ref (G.1 b)), (4, .int (nI n)), (5, .int (if as = true then 1 else 0)), (6, .int (nI (s + j)))]) dX2_putDue_17 (by decide) rfl ?_
        refine r_iload h 6 rfl dX2_putDue_19 ?_
        refine r_iconst h (v := nI 1) (by decide) dX2_putDue_21 ?_
        refine r_iadd h (nI_add (s + j) (1)) dX2_putDue_22 ?_
        refine r_iload h 4 rfl dX2_putDue_23 ?_
        suffices KK : V G X c1 [(8, .int (if j + 1 < m then (A ++ B).getD (s + (j + 1)) 0 else -1)), (7, .int ((A ++ B).getD (s + j) 0)), (0, .ref (G.1 25)), (1, .ref (G.1 a)), (2, .ref (G.1 b)), (4, .int (nI n)), (5, .int (if as = true then 1 else 0)), (6, .int (nI (s + j)))] 0 0 43 [] from ?_
        · refine rn_icmp_ge h (a := s + j + 1) (b := n) (by omega) (by omega) 40 dX2_putDue_25 (by decide) (fun z2 => ?_) (fun z2 => ?_)
          · refine r_iconst h (v := -1) (by decide) dX2_putDue_40 ?_
            refine r_istore h ([(8, .int (-1)), (7, .int ((A ++ B).getD (s + j) 0)), (0, .ref (G.1 25)), (1, .ref (G.1 a)), (2, .ref (G.1 b)), (4, .int (nI n)), (5, .int (if as = true then 1 else 0)), (6, .int (nI (s + j)))]) dX2_putDue_41 (by decide) rfl ?_
            rw [if_neg (show ¬ j + 1 < m by omega)] at KK
            exact KK
          · refine r_aload_n h 2 rfl rfl dX2_putDue_28 ?_
            refine r_aload_n h 3 rfl rfl dX2_putDue_29 ?_
            refine r_iload h 6 rfl dX2_putDue_30 ?_
            refine r_iconst h (v := nI 1) (by decide) dX2_putDue_32 ?_
            refine r_iadd h (nI_add (s + j) (1)) dX2_putDue_33 ?_
            refine r_cS h k_X2_63 (As := [.ref (G.1 a), .ref (G.1 b), .int (nI (s + j + 1))]) (rest := []) (c_X2_joinedAt h.i h.t ha hb g2 g3 (s + j + 1) (by omega)) rfl rfl (Nat.le_of_ble_eq_true rfl) ⟨by decide, by decide, by decide, by decide⟩ dX2_putDue_34 (fun _ z => z.elim) (fun v7 c8 p9 => ?_)
            obtain ⟨r, rfl, rfl, rfl⟩ := p9
            refine r_goto h 41 dX2_putDue_37 (by decide) ?_
            refine r_istore h ([(8, .int ((A ++ B).getD (s + j + 1) 0)), (7, .int ((A ++ B).getD (s + j) 0)), (0, .ref (G.1 25)), (1, .ref (G.1 a)), (2, .ref (G.1 b)), (4, .int (nI n)), (5, .int (if as = true then 1 else 0)), (6, .int (nI (s + j)))]) dX2_putDue_41 (by decide) rfl ?_
            rw [if_pos (show j + 1 < m by omega)] at KK
            exact KK
        · generalize hyy : (if j + 1 < m then (A ++ B).getD (s + (j + 1)) 0 else -1) = yy
          have hst : dF as (fun i => (A ++ B).getD (s + i) 0) m (j + 1) = dF as (fun i => (A ++ B).getD (s + i) 0) m j ++ dS as ((A ++ B).getD (s + j) 0) yy := by rw [← hyy]; rfl
          refine r_iload h 6 rfl dX2_putDue_43 ?_
          refine rb_if_eq h 55 dX2_putDue_45 (by decide) (fun u => ?_) (fun u => ?_)
          · refine r_aload_n h 2 rfl rfl dX2_putDue_55 ?_
            refine r_getf h F_X2_21 (i := 25) (by omega) g1 rfl dX2_putDue_56 ?_
            refine r_iload h 1 rfl dX2_putDue_59 ?_
            refine r_cV h k_X2_67 (i := 29) (As := [.int ((A ++ B).getD (s + j) 0)]) (rest := []) (c_X0_put h.i h.t (by omega) w1 (by rw [List.length_append]; omega) ((A ++ B).getD (s + j) 0)) (by omega) w1.1 rfl rfl rfl (Nat.le_of_ble_eq_true rfl) ⟨by decide, by decide, by decide, by decide⟩ dX2_putDue_61 (fun _ z => z.elim) (fun v13 c10 p14 => ?_)
            obtain ⟨rfl, w11, k12⟩ := p14
            have g15 := (k12 (25) (by omega) (by omega)).trans g1
            have g16 := g2.mono (k12 (a) (by omega) (by omega)) (k12 (a + 1) (by omega) (by omega))
            have g17 := g3.mono (k12 (b) (by omega) (by omega)) (k12 (b + 1) (by omega) (by omega))
            have w11 : RowAt G c10 (29) (D ++ dF as (fun i => (A ++ B).getD (s + i) 0) m (j + 1)) := by rw [hst, dS_n (fun z => u z.1), ← List.append_assoc]; exact w11
            refine r_goto h 83 dX2_putDue_64 (by decide) ?_
            refine r_iinc h 7 ([(6, .int (nI (s + j + 1))), (8, .int yy), (7, .int ((A ++ B).getD (s + j) 0)), (0, .ref (G.1 25)), (1, .ref (G.1 a)), (2, .ref (G.1 b)), (4, .int (nI n)), (5, .int (if as = true then 1 else 0))]) rfl (inc_1 (s + j)) dX2_putDue_83 (by decide) rfl ?_
            refine r_goto h 3 dX2_putDue_86 (by decide) ?_
            refine V_lv [3, 4, 5, 6, 7, 0] rfl ?_
            exact ih (j + 1) c10 (by omega) (by omega) w11 (fun y p q => (k12 y p q).trans (k1 y p q))
          · refine r_iload h 1 rfl dX2_putDue_48 ?_
            refine r_bipush h (v := nI 13) (by decide) dX2_putDue_50 ?_
            refine r_icmp_eq h 67 dX2_putDue_52 (by decide) (fun v => ?_) (fun v => ?_)
            · refine r_iload h 0 rfl dX2_putDue_67 ?_
              refine r_bipush h (v := nI 10) (by decide) dX2_putDue_69 ?_
              refine r_icmp_eq h 83 dX2_putDue_71 (by decide) (fun v3 => ?_) (fun v3 => ?_)
              · have w2 : RowAt G c1 29 (D ++ dF as (fun i => (A ++ B).getD (s + i) 0) m (j + 1)) := by rw [hst, dS_y ⟨u, v⟩ v3, List.append_nil]; exact w1
                refine r_iinc h 7 ([(6, .int (nI (s + j + 1))), (8, .int yy), (7, .int ((A ++ B).getD (s + j) 0)), (0, .ref (G.1 25)), (1, .ref (G.1 a)), (2, .ref (G.1 b)), (4, .int (nI n)), (5, .int (if as = true then 1 else 0))]) rfl (inc_1 (s + j)) dX2_putDue_83 (by decide) rfl ?_
                refine r_goto h 3 dX2_putDue_86 (by decide) ?_
                refine V_lv [3, 4, 5, 6, 7, 0] rfl ?_
                exact ih (j + 1) c1 (by omega) (by omega) w2 (k1)
              · refine r_aload_n h 2 rfl rfl dX2_putDue_74 ?_
                refine r_getf h F_X2_21 (i := 25) (by omega) g1 rfl dX2_putDue_75 ?_
                refine r_bipush h (v := nI 10) (by decide) dX2_putDue_78 ?_
                refine r_cV h k_X2_67 (i := 29) (As := [.int (nI 10)]) (rest := []) (c_X0_put h.i h.t (by omega) w1 (by rw [List.length_append]; omega) (nI (10))) (by omega) w1.1 rfl rfl rfl (Nat.le_of_ble_eq_true rfl) ⟨by decide, by decide, by decide, by decide⟩ dX2_putDue_80 (fun _ z => z.elim) (fun v21 c18 p22 => ?_)
                obtain ⟨rfl, w19, k20⟩ := p22
                have g23 := (k20 (25) (by omega) (by omega)).trans g1
                have g24 := g2.mono (k20 (a) (by omega) (by omega)) (k20 (a + 1) (by omega) (by omega))
                have g25 := g3.mono (k20 (b) (by omega) (by omega)) (k20 (b + 1) (by omega) (by omega))
                have w19 : RowAt G c18 (29) (D ++ dF as (fun i => (A ++ B).getD (s + i) 0) m (j + 1)) := by rw [hst, dS_z ⟨u, v⟩ v3, ← List.append_assoc]; exact w19
                refine r_iinc h 7 ([(6, .int (nI (s + j + 1))), (8, .int yy), (7, .int ((A ++ B).getD (s + j) 0)), (0, .ref (G.1 25)), (1, .ref (G.1 a)), (2, .ref (G.1 b)), (4, .int (nI n)), (5, .int (if as = true then 1 else 0))]) rfl (inc_1 (s + j)) dX2_putDue_83 (by decide) rfl ?_
                refine r_goto h 3 dX2_putDue_86 (by decide) ?_
                refine V_lv [3, 4, 5, 6, 7, 0] rfl ?_
                exact ih (j + 1) c18 (by omega) (by omega) w19 (fun y p q => (k20 y p q).trans (k1 y p q))
            · refine r_aload_n h 2 rfl rfl dX2_putDue_55 ?_
              refine r_getf h F_X2_21 (i := 25) (by omega) g1 rfl dX2_putDue_56 ?_
              refine r_iload h 1 rfl dX2_putDue_59 ?_
              refine r_cV h k_X2_67 (i := 29) (As := [.int ((A ++ B).getD (s + j) 0)]) (rest := []) (c_X0_put h.i h.t (by omega) w1 (by rw [List.length_append]; omega) ((A ++ B).getD (s + j) 0)) (by omega) w1.1 rfl rfl rfl (Nat.le_of_ble_eq_true rfl) ⟨by decide, by decide, by decide, by decide⟩ dX2_putDue_61 (fun _ z => z.elim) (fun v29 c26 p30 => ?_)
              obtain ⟨rfl, w27, k28⟩ := p30
              have g31 := (k28 (25) (by omega) (by omega)).trans g1
              have g32 := g2.mono (k28 (a) (by omega) (by omega)) (k28 (a + 1) (by omega) (by omega))
              have g33 := g3.mono (k28 (b) (by omega) (by omega)) (k28 (b + 1) (by omega) (by omega))
              have w27 : RowAt G c26 (29) (D ++ dF as (fun i => (A ++ B).getD (s + i) 0) m (j + 1)) := by rw [hst, dS_n (fun z => v z.2), ← List.append_assoc]; exact w27
              refine r_goto h 83 dX2_putDue_64 (by decide) ?_
              refine r_iinc h 7 ([(6, .int (nI (s + j + 1))), (8, .int yy), (7, .int ((A ++ B).getD (s + j) 0)), (0, .ref (G.1 25)), (1, .ref (G.1 a)), (2, .ref (G.1 b)), (4, .int (nI n)), (5, .int (if as = true then 1 else 0))]) rfl (inc_1 (s + j)) dX2_putDue_83 (by decide) rfl ?_
              refine r_goto h 3 dX2_putDue_86 (by decide) ?_
              refine V_lv [3, 4, 5, 6, 7, 0] rfl ?_
              exact ih (j + 1) c26 (by omega) (by omega) w27 (fun y p q => (k28 y p q).trans (k1 y p q))
  refine V_lv [1, 2, 3, 5, 6, 0] rfl ?_
  exact loop (m + 1) 0 c (by omega) (by omega) (by rw [show dF as (fun i => (A ++ B).getD (s + i) 0) m 0 = [] from rfl, List.append_nil]; exact hD) (fun _ _ _ => rfl)
set_option maxRecDepth 100000 in
set_option maxHeartbeats 4000000 in
/-- X2_fillDue -/
theorem c_X2_fillDue {G : GG} {l : Launch} {c : CC} (hG : InjG G) (hl0 : l.stackTraces = false) {pl ln : Int32} {tg : Int64} (h25 : c 25 = .inr (4, [.ref (G.1 26), .ref (G.1 29), .ref (G.1 31), .int pl, .int ln, .long (tg)])) {D : List Int32} (hD : RowAt G c 29 D) {a b : Nat} (ha : a + 1 < 25) (hb : b + 1 < 25) {A B : List Int32} (hA : RowAt G c a A) (hB : RowAt G c b B) (hba : allB A) (hbb : allB B) (hlen : A.length + B.length ≤ 240) (K : Int32) : MC G l yX2_fillDue (.code yX2_fillDue cX2_fillDue 6 none :: gws) (rmF 3 0 0 71) [.ref (G.1 25), .int K, .ref (G.1 a), .ref (G.1 b)] c (pV (fun c' => RowAt G c' 29 (outK K A B) ∧ ∀ y : Nat, y ≠ 29 → y ≠ 30 → c' y = c y)) (pF) := by
  refine MC.of (by decide) hl0 hG (Nat.le_of_ble_eq_true rfl) (fun X hX h hN hQ hr => ?_)
  subst hX
  have hle1 := hA.le
  have hle2 := hB.le
  refine r_aload_n h 2 rfl rfl dX2_fillDue_0 ?_
  refine r_cV h k_X2_49 (i := a) (As := []) (rest := []) (c_X0_size h.i h.t (by omega) hA) (by omega) hA.1 rfl rfl rfl (Nat.le_of_ble_eq_true rfl) ⟨by decide, by decide, by decide, by decide⟩ dX2_fillDue_1 (fun _ z => z.elim) (fun v1 c2 p3 => ?_)
  obtain ⟨r, rfl, rfl, rfl⟩ := p3
  refine r_istore h ([(4, .int (nI (A.length))), (0, .ref (G.1 25)), (1, .int K), (2, .ref (G.1 a)), (3, .ref (G.1 b))]) dX2_fillDue_4 (by decide) rfl ?_
  refine r_iload h 0 rfl dX2_fillDue_6 ?_
  refine r_aload_n h 4 rfl rfl dX2_fillDue_8 ?_
  refine r_cV h k_X2_49 (i := b) (As := []) (rest := [.int (nI (A.length))]) (c_X0_size h.i h.t (by omega) hB) (by omega) hB.1 rfl rfl rfl (Nat.le_of_ble_eq_true rfl) ⟨by decide, by decide, by decide, by decide⟩ dX2_fillDue_9 (fun _ z => z.elim) (fun v4 c5 p6 => ?_)
  obtain ⟨r, rfl, rfl, rfl⟩ := p6
  refine r_iadd h (nI_add (A.length) (B.length)) dX2_fillDue_12 ?_
  refine r_istore h ([(5, .int (nI (A.length + B.length))), (4, .int (nI (A.length))), (0, .ref (G.1 25)), (1, .int K), (2, .ref (G.1 a)), (3, .ref (G.1 b))]) dX2_fillDue_13 (by decide) rfl ?_
  refine r_aload_n h 2 rfl rfl dX2_fillDue_15 ?_
  refine r_getf h F_X2_21 (i := 25) (by omega) h25 rfl dX2_fillDue_16 ?_
  refine r_cV h k_X2_53 (i := 29) (As := []) (rest := []) (c_X0_makeEmpty h.i h.t (by omega) hD) (by omega) hD.1 rfl rfl rfl (Nat.le_of_ble_eq_true rfl) ⟨by decide, by decide, by decide, by decide⟩ dX2_fillDue_19 (fun _ z => z.elim) (fun v10 c7 p11 => ?_)
  obtain ⟨rfl, w8, k9⟩ := p11
  have g12 := (k9 (25) (by omega)).trans h25
  have g13 := hA.mono (k9 (a) (by omega)) (k9 (a + 1) (by omega))
  have g14 := hB.mono (k9 (b) (by omega)) (k9 (b + 1) (by omega))
  suffices KK : ∀ c1 : CC, RowAt G c1 29 (pD1 K A B) → (∀ y : Nat, y ≠ 29 → y ≠ 30 → c1 y = c y) → V G X c1 [(5, .int (nI (A.length + B.length))), (4, .int (nI (A.length))), (0, .ref (G.1 25)), (1, .int K), (2, .ref (G.1 a)), (3, .ref (G.1 b))] 0 0 61 [] from ?_
  · refine r_iload_n h 3 rfl rfl dX2_fillDue_22 ?_
    refine r_iconst h (v := nI 4) (by decide) dX2_fillDue_23 ?_
    refine r_icmp_eq h 32 dX2_fillDue_24 (by decide) (fun u4 => ?_) (fun u4 => ?_)
    · refine r_aload_n h 2 rfl rfl dX2_fillDue_32 ?_
      refine r_aload_n h 4 rfl rfl dX2_fillDue_33 ?_
      refine r_aload_n h 5 rfl rfl dX2_fillDue_34 ?_
      refine r_iconst h (v := nI 0) (by decide) dX2_fillDue_35 ?_
      refine r_iload h 0 rfl dX2_fillDue_36 ?_
      refine r_iload_n h 3 rfl rfl dX2_fillDue_38 ?_
      refine r_cN h k_X2_56 (As := [.int K]) (rest := [.int (nI (A.length + B.length)), .int (nI 0), .ref (G.1 b), .ref (G.1 a), .ref (G.1 25)]) (c_X3_isLined h.i h.t K) rfl rfl (Nat.le_of_ble_eq_true rfl) ⟨by decide, by decide, by decide, by decide⟩ dX2_fillDue_39 (fun _ z => z.elim) (fun v15 c16 p17 => ?_)
      obtain ⟨r, rfl, rfl, rfl⟩ := p17
      rw [show (.int (nI 0) : Value) = .int (nI 0) from rfl]
      refine r_cV h k_X2_59 (i := 25) (As := [.ref (G.1 a), .ref (G.1 b), .int (nI 0), .int (nI (A.length + B.length)), .int (if isLi K = true then 1 else 0)]) (rest := []) (c_X2_putDue h.i h.t g12 w8 ha hb g13 g14 (0) (A.length + B.length) (A.length + B.length) (by omega) (by omega) (by first | omega | (simp; omega)) (isLi K)) (by omega) g12 rfl rfl rfl (Nat.le_of_ble_eq_true rfl) ⟨by decide, by decide, by decide, by decide⟩ dX2_fillDue_42 (fun _ z => z.elim) (fun v21 c18 p22 => ?_)
      obtain ⟨rfl, w19, k20⟩ := p22
      have g23 := (k20 (25) (by omega) (by omega)).trans g12
      have g24 := g13.mono (k20 (a) (by omega) (by omega)) (k20 (a + 1) (by omega) (by omega))
      have g25 := g14.mono (k20 (b) (by omega) (by omega)) (k20 (b + 1) (by omega) (by omega))
      have w19 : RowAt G c18 29 (pD1 K A B) := by rw [← dF_both hba hbb (by omega) (Or.inl u4)]; exact w19
      refine r_goto h 61 dX2_fillDue_45 (by decide) ?_
      exact KK _ w19 (fun y p q => (k20 y p q).trans (k9 y p))
    · refine r_iload_n h 3 rfl rfl dX2_fillDue_27 ?_
      refine r_iconst h (v := nI 5) (by decide) dX2_fillDue_28 ?_
      refine r_icmp_ne h 48 dX2_fillDue_29 (by decide) (fun u5 => ?_) (fun u5 => ?_)
      · refine r_aload_n h 2 rfl rfl dX2_fillDue_48 ?_
        refine r_aload_n h 4 rfl rfl dX2_fillDue_49 ?_
        refine r_aload_n h 5 rfl rfl dX2_fillDue_50 ?_
        refine r_iconst h (v := nI 0) (by decide) dX2_fillDue_51 ?_
        refine r_iload h 1 rfl dX2_fillDue_52 ?_
        refine r_iload_n h 3 rfl rfl dX2_fillDue_54 ?_
        refine r_cN h k_X2_56 (As := [.int K]) (rest := [.int (nI (A.length)), .int (nI 0), .ref (G.1 b), .ref (G.1 a), .ref (G.1 25)]) (c_X3_isLined h.i h.t K) rfl rfl (Nat.le_of_ble_eq_true rfl) ⟨by decide, by decide, by decide, by decide⟩ dX2_fillDue_55 (fun _ z => z.elim) (fun v37 c38 p39 => ?_)
        obtain ⟨r, rfl, rfl, rfl⟩ := p39
        rw [show (.int (nI 0) : Value) = .int (nI 0) from rfl]
        refine r_cV h k_X2_59 (i := 25) (As := [.ref (G.1 a), .ref (G.1 b), .int (nI 0), .int (nI (A.length)), .int (if isLi K = true then 1 else 0)]) (rest := []) (c_X2_putDue h.i h.t g12 w8 ha hb g13 g14 (0) (A.length) (A.length) (by omega) (by omega) (by first | omega | (simp; omega)) (isLi K)) (by omega) g12 rfl rfl rfl (Nat.le_of_ble_eq_true rfl) ⟨by decide, by decide, by decide, by decide⟩ dX2_fillDue_58 (fun _ z => z.elim) (fun v43 c40 p44 => ?_)
        obtain ⟨rfl, w41, k42⟩ := p44
        have g45 := (k42 (25) (by omega) (by omega)).trans g12
        have g46 := g13.mono (k42 (a) (by omega) (by omega)) (k42 (a + 1) (by omega) (by omega))
        have g47 := g14.mono (k42 (b) (by omega) (by omega)) (k42 (b + 1) (by omega) (by omega))
        have w41 : RowAt G c40 29 (pD1 K A B) := by rw [← dF_first (B := B) hba (fun z => z.elim u4 u5)]; exact w41
        exact KK _ w41 (fun y p q => (k42 y p q).trans (k9 y p))
      · refine r_aload_n h 2 rfl rfl dX2_fillDue_32 ?_
        refine r_aload_n h 4 rfl rfl dX2_fillDue_33 ?_
        refine r_aload_n h 5 rfl rfl dX2_fillDue_34 ?_
        refine r_iconst h (v := nI 0) (by decide) dX2_fillDue_35 ?_
        refine r_iload h 0 rfl dX2_fillDue_36 ?_
        refine r_iload_n h 3 rfl rfl dX2_fillDue_38 ?_
        refine r_cN h k_X2_56 (As := [.int K]) (rest := [.int (nI (A.length + B.length)), .int (nI 0), .ref (G.1 b), .ref (G.1 a), .ref (G.1 25)]) (c_X3_isLined h.i h.t K) rfl rfl (Nat.le_of_ble_eq_true rfl) ⟨by decide, by decide, by decide, by decide⟩ dX2_fillDue_39 (fun _ z => z.elim) (fun v26 c27 p28 => ?_)
        obtain ⟨r, rfl, rfl, rfl⟩ := p28
        rw [show (.int (nI 0) : Value) = .int (nI 0) from rfl]
        refine r_cV h k_X2_59 (i := 25) (As := [.ref (G.1 a), .ref (G.1 b), .int (nI 0), .int (nI (A.length + B.length)), .int (if isLi K = true then 1 else 0)]) (rest := []) (c_X2_putDue h.i h.t g12 w8 ha hb g13 g14 (0) (A.length + B.length) (A.length + B.length) (by omega) (by omega) (by first | omega | (simp; omega)) (isLi K)) (by omega) g12 rfl rfl rfl (Nat.le_of_ble_eq_true rfl) ⟨by decide, by decide, by decide, by decide⟩ dX2_fillDue_42 (fun _ z => z.elim) (fun v32 c29 p33 => ?_)
        obtain ⟨rfl, w30, k31⟩ := p33
        have g34 := (k31 (25) (by omega) (by omega)).trans g12
        have g35 := g13.mono (k31 (a) (by omega) (by omega)) (k31 (a + 1) (by omega) (by omega))
        have g36 := g14.mono (k31 (b) (by omega) (by omega)) (k31 (b + 1) (by omega) (by omega))
        have w30 : RowAt G c29 29 (pD1 K A B) := by rw [← dF_both hba hbb (by omega) (Or.inr u5)]; exact w30
        refine r_goto h 61 dX2_fillDue_45 (by decide) ?_
        exact KK _ w30 (fun y p q => (k31 y p q).trans (k9 y p))
  · intro c1 w1 k1
    have g48 := (k1 (25) (by omega) (by omega)).trans h25
    have g49 := hA.mono (k1 (a) (by omega) (by omega)) (k1 (a + 1) (by omega) (by omega))
    have g50 := hB.mono (k1 (b) (by omega) (by omega)) (k1 (b + 1) (by omega) (by omega))
    refine r_iload_n h 3 rfl rfl dX2_fillDue_61 ?_
    refine r_bipush h (v := nI 7) (by decide) dX2_fillDue_62 ?_
    refine r_icmp_ne h 78 dX2_fillDue_64 (by decide) (fun u7 => ?_) (fun u7 => ?_)
    · exact r_vret h hQ hr dX2_fillDue_78 ⟨by decide, by decide⟩ ⟨rfl, by rw [← pD1_out u7]; exact w1, k1⟩
    · refine r_aload_n h 2 rfl rfl dX2_fillDue_67 ?_
      refine r_aload_n h 4 rfl rfl dX2_fillDue_68 ?_
      refine r_aload_n h 5 rfl rfl dX2_fillDue_69 ?_
      refine r_iload h 1 rfl dX2_fillDue_70 ?_
      refine r_iload h 0 rfl dX2_fillDue_72 ?_
      refine r_iconst h (v := nI 1) (by decide) dX2_fillDue_74 ?_
      have hd1 : (pD1 K A B).length ≤ A.length := by rw [pD1, if_neg (by rw [u7]; decide)]; exact fpK_len K A
      rw [show (nI 1 : Int32) = (if true = true then (1:Int32) else 0) from rfl]
      refine r_cV h k_X2_59 (i := 25) (As := [.ref (G.1 a), .ref (G.1 b), .int (nI (A.length)), .int (nI (A.length + B.length)), .int (if true = true then 1 else 0)]) (rest := []) (c_X2_putDue h.i h.t g48 w1 ha hb g49 g50 (A.length) (B.length) (A.length + B.length) (by omega) (by omega) (by first | omega | (simp; omega)) (true)) (by omega) g48 rfl rfl rfl (Nat.le_of_ble_eq_true rfl) ⟨by decide, by decide, by decide, by decide⟩ dX2_fillDue_75 (fun _ z => z.elim) (fun v54 c51 p55 => ?_)
      obtain ⟨rfl, w52, k53⟩ := p55
      have g56 := (k53 (25) (by omega) (by omega)).trans g48
      have g57 := g49.mono (k53 (a) (by omega) (by omega)) (k53 (a + 1) (by omega) (by omega))
      have g58 := g50.mono (k53 (b) (by omega) (by omega)) (k53 (b + 1) (by omega) (by omega))
      have w52 : RowAt G c51 29 (outK K A B) := by rw [← dF_second hbb u7]; exact w52
      exact r_vret h hQ hr dX2_fillDue_78 ⟨by decide, by decide⟩ ⟨rfl, w52, fun y p q => (k53 y p q).trans (k1 y p q)⟩
set_option maxRecDepth 100000 in
set_option maxHeartbeats 4000000 in
/-- X2_start -/
theorem c_X2_start {G : GG} {l : Launch} {c : CC} (hG : InjG G) (hl0 : l.stackTraces = false) {pl ln : Int32} {tg : Int64} (h25 : c 25 = .inr (4, [.ref (G.1 26), .ref (G.1 29), .ref (G.1 31), .int pl, .int ln, .long (tg)])) {t : Stm} (hs : StrAt G c 26 t) {a b : Nat} (ha : a + 1 < 25) (hb : b + 1 < 25) {A B : List Int32} (hA : RowAt G c a A) (hB : RowAt G c b B) (hba : allB A) (hbb : allB B) (hlen : A.length + B.length ≤ 240) (K : Int32) : MC G l yX2_start (.code yX2_start cX2_start 4 none :: gws) (rmF 4 0 0 91) [.ref (G.1 25), .int K, .ref (G.1 a), .ref (G.1 b)] c (pV (fun c' => Du G c' (pOp K A B) ∧ StrAt G c' 26 (pOp K A B) ∧ ∀ y : Nat, y ≠ 25 → y ≠ 26 → y ≠ 27 → y ≠ 28 → c' y = c y)) (pF) := by
  refine MC.of (by decide) hl0 hG (Nat.le_of_ble_eq_true rfl) (fun X hX h hN hQ hr => ?_)
  subst hX
  obtain ⟨_, hrow, _, _, _, h0, _, _⟩ := id hs
  refine r_aload_n h 0 rfl rfl dX2_start_0 ?_
  refine r_getf h F_X2_12 (i := 25) (by omega) h25 rfl dX2_start_1 ?_
  refine r_iload_n h 1 rfl rfl dX2_start_4 ?_
  refine r_aload_n h 2 rfl rfl dX2_start_5 ?_
  refine r_aload_n h 3 rfl rfl dX2_start_6 ?_
  refine r_cV h k_X2_108 (i := 26) (As := [.int K, .ref (G.1 a), .ref (G.1 b)]) (rest := []) (c_X1_begin h.i h.t (by omega) h0 hrow (by omega) (by omega) hA hB (by omega) (by omega) hlen K hba hbb) (by omega) h0 rfl rfl rfl (Nat.le_of_ble_eq_true rfl) ⟨by decide, by decide, by decide, by decide⟩ dX2_start_7 (fun _ z => z.elim) (fun v4 c1 p5 => ?_)
  obtain ⟨rfl, w2, k3⟩ := p5
  have g6 := (k3 (25) (by omega) (by omega) (by omega)).trans h25
  have g7 := hA.mono (k3 (a) (by omega) (by omega) (by omega)) (k3 (a + 1) (by omega) (by omega) (by omega))
  have g8 := hB.mono (k3 (b) (by omega) (by omega) (by omega)) (k3 (b + 1) (by omega) (by omega) (by omega))
  refine r_aload_n h 0 rfl rfl dX2_start_10 ?_
  refine r_iconst h (v := nI 0) (by decide) dX2_start_11 ?_
  refine r_putf h F_X2_86 ft_X2 (i := 25) (by omega) g6 ([.ref (G.1 26), .ref (G.1 29), .ref (G.1 31), .int (nI 0), .int ln, .long (tg)]) rfl rfl rfl rfl (Nat.le_of_ble_eq_true rfl) dX2_start_12 (fun c9 h10 k11 => ?_)
  have g12 := g7.mono (k11 (a) (by omega)) (k11 (a + 1) (by omega))
  have g13 := g8.mono (k11 (b) (by omega)) (k11 (b + 1) (by omega))
  have g14 := w2.mono (k11 (26) (by omega)) (k11 (26 + 1) (by omega)) (k11 (26 + 2) (by omega))
  refine r_aload_n h 0 rfl rfl dX2_start_15 ?_
  refine r_iconst h (v := nI 0) (by decide) dX2_start_16 ?_
  refine r_putf h F_X2_99 ft_X2 (i := 25) (by omega) h10 ([.ref (G.1 26), .ref (G.1 29), .ref (G.1 31), .int (nI 0), .int (nI 0), .long (tg)]) rfl rfl rfl rfl (Nat.le_of_ble_eq_true rfl) dX2_start_17 (fun c15 h16 k17 => ?_)
  have g18 := g12.mono (k17 (a) (by omega)) (k17 (a + 1) (by omega))
  have g19 := g13.mono (k17 (b) (by omega)) (k17 (b + 1) (by omega))
  have g20 := g14.mono (k17 (26) (by omega)) (k17 (26 + 1) (by omega)) (k17 (26 + 2) (by omega))
  refine r_aload_n h 0 rfl rfl dX2_start_20 ?_
  refine r_ldc2 h K_X2_111 dX2_start_21 ?_
  refine r_putf h F_X2_113 ft_X2 (i := 25) (by omega) h16 ([.ref (G.1 26), .ref (G.1 29), .ref (G.1 31), .int (nI 0), .int (nI 0), .long (4294967295)]) rfl rfl rfl rfl (Nat.le_of_ble_eq_true rfl) dX2_start_24 (fun c21 h22 k23 => ?_)
  have g24 := g18.mono (k23 (a) (by omega)) (k23 (a + 1) (by omega))
  have g25 := g19.mono (k23 (b) (by omega)) (k23 (b + 1) (by omega))
  have g26 := g20.mono (k23 (26) (by omega)) (k23 (26 + 1) (by omega)) (k23 (26 + 2) (by omega))
  exact r_vret h hQ hr dX2_start_27 ⟨by decide, by decide⟩ ⟨rfl, ⟨_, h22, fun _ => rfl⟩, g26, fun y p q r u => (((k23 y p).trans (k17 y p)).trans (k11 y p)).trans (k3 y q r u)⟩
set_option maxRecDepth 100000 in
set_option maxHeartbeats 4000000 in
/-- X2_figuresAreDue -/
theorem c_X2_figuresAreDue {G : GG} {l : Launch} {c : CC} (hG : InjG G) (hl0 : l.stackTraces = false) {t : Stm} (hd : Du G c t) (hs : StrAt G c 26 t) : MC G l yX2_figuresAreDue (.code yX2_figuresAreDue cX2_figuresAreDue 1 (some .boolean) :: gws) (rmF 1 0 0 20) [.ref (G.1 25)] c (pI (fun r c' => nI 1 = r ∧ c = c')) (pF) := by
  refine MC.of (by decide) hl0 hG (Nat.le_of_ble_eq_true rfl) (fun X hX h hN hQ hr => ?_)
  subst hX
  obtain ⟨K, O, M, P, N, g, mk⟩ := t
  obtain ⟨hok, hrow, rg, mp, ml, h0, hrg, hmk⟩ := id hs
  have hP : P ≤ O.length := hok.1
  have hle : O.length ≤ 240 := hrow.le
  have hMl : M ≤ O.length := hok.2.2.2.1
  have hSl : seC K M ≤ M := by unfold seC; split <;> omega
  have hrow : RowAt G c (26 + 1) O := hrow
  have h0 : c 26 = .inr (3, [.ref (G.1 (26 + 1)), .int K, .int (nI (seC K M)), .int (nI P), .int N, .long (rg), .int mp, .int ml]) := h0
  obtain ⟨tg, h25, hr2⟩ := hd
  have h25 : c 25 = .inr (4, [.ref (G.1 26), .ref (G.1 29), .ref (G.1 31), .int (nI P), .int N, .long (tg)]) := h25
  refine r_aload_n h 0 rfl rfl dX2_figuresAreDue_0 ?_
  refine r_getf h F_X2_12 (i := 25) (by omega) h25 rfl dX2_figuresAreDue_1 ?_
  refine r_getN h F_X2_126 (i := 26) (by omega) h0 rfl dX2_figuresAreDue_4 ?_
  refine r_cN h k_X2_136 (As := [.int K]) (rest := []) (c_X3_hasLine h.i h.t K) rfl rfl (Nat.le_of_ble_eq_true rfl) ⟨by decide, by decide, by decide, by decide⟩ dX2_figuresAreDue_7 (fun _ z => z.elim) (fun v1 c2 p3 => ?_)
  obtain ⟨r, rfl, rfl, rfl⟩ := p3
  suffices KK : V G X c [(0, .ref (G.1 25))] 0 0 29 [] from ?_
  · refine rb_if_eq h 29 dX2_figuresAreDue_10 (by decide) (fun u => ?_) (fun u => ?_)
    · exact KK
    · refine r_aload_n h 0 rfl rfl dX2_figuresAreDue_13 ?_
      refine r_getf h F_X2_12 (i := 25) (by omega) h25 rfl dX2_figuresAreDue_14 ?_
      refine r_getN h F_X2_139 (i := 26) (by omega) h0 rfl dX2_figuresAreDue_17 ?_
      refine r_aload_n h 0 rfl rfl dX2_figuresAreDue_20 ?_
      refine r_getf h F_X2_99 (i := 25) (by omega) h25 rfl dX2_figuresAreDue_21 ?_
      refine r_icmp_eq h 29 dX2_figuresAreDue_24 (by decide) (fun v => ?_) (fun v => ?_)
      · exact KK
      · exact absurd rfl v
  · refine r_aload_n h 0 rfl rfl dX2_figuresAreDue_29 ?_
    refine r_getf h F_X2_12 (i := 25) (by omega) h25 rfl dX2_figuresAreDue_30 ?_
    refine r_getN h F_X2_126 (i := 26) (by omega) h0 rfl dX2_figuresAreDue_33 ?_
    refine r_cN h k_X2_129 (As := [.int K]) (rest := []) (c_X3_hasCheck h.i h.t K) rfl rfl (Nat.le_of_ble_eq_true rfl) ⟨by decide, by decide, by decide, by decide⟩ dX2_figuresAreDue_36 (fun _ z => z.elim) (fun v4 c5 p6 => ?_)
    obtain ⟨r, rfl, rfl, rfl⟩ := p6
    suffices KK : V G X c [(0, .ref (G.1 25))] 0 0 61 [] from ?_
    · refine rb_if_eq h 61 dX2_figuresAreDue_39 (by decide) (fun u => ?_) (fun u => ?_)
      · exact KK
      · refine r_aload_n h 0 rfl rfl dX2_figuresAreDue_42 ?_
        refine r_getf h F_X2_12 (i := 25) (by omega) h25 rfl dX2_figuresAreDue_43 ?_
        refine r_cV h k_X2_140 (i := 26) (As := []) (rest := []) (c_X1_checkNow h.i h.t (by omega) hs u) (by omega) h0 rfl rfl rfl (Nat.le_of_ble_eq_true rfl) ⟨by decide, by decide, by decide, by decide⟩ dX2_figuresAreDue_46 (fun _ z => z.elim) (fun v7 c8 p9 => ?_)
        obtain ⟨r, rfl, rfl, rfl⟩ := p9
        refine r_ldc2 h K_X2_111 dX2_figuresAreDue_49 ?_
        refine r_aload_n h 0 rfl rfl dX2_figuresAreDue_52 ?_
        refine r_getf h F_X2_113 (i := 25) (by omega) h25 rfl dX2_figuresAreDue_53 ?_
        refine r_lsub h rfl dX2_figuresAreDue_56 ?_
        refine r_lcmp h rfl dX2_figuresAreDue_57 ?_
        refine r_if_ne h 65 dX2_figuresAreDue_58 (by decide) (fun v => ?_) (fun v => ?_)
        · exact absurd (lg0.mpr (by rw [hr2 u])) v
        · exact KK
    · refine r_iconst h (v := nI 1) (by decide) dX2_figuresAreDue_61 ?_
      refine r_goto h 66 dX2_figuresAreDue_62 (by decide) ?_
      exact r_zret h hQ hr (by decide) dX2_figuresAreDue_66 ⟨by decide, by decide⟩ ⟨_, rfl, rfl, rfl⟩
set_option maxRecDepth 100000 in
set_option maxHeartbeats 4000000 in
/-- X2_nextDue -/
theorem c_X2_nextDue {G : GG} {l : Launch} {c : CC} (hG : InjG G) (hl0 : l.stackTraces = false) {u : Stm} (hd : Du G c u) {t : Stm} (hs : StrAt G c 26 t) (hK : sK t = sK u) {D : List Int32} (hDu : D = sO u) (hD : RowAt G c 29 D) (hp : sP u < (sO u).length) : MC G l yX2_nextDue (.code yX2_nextDue cX2_nextDue 2 (some .int) :: gws) (rmF 1 0 0 26) [.ref (G.1 25)] c (pI (fun r c' => nxA u = r ∧ Du G c' (pNx u) ∧ ∀ y : Nat, y ≠ 25 → c' y = c y)) (pF) := by
  refine MC.of (by decide) hl0 hG (Nat.le_of_ble_eq_true rfl) (fun X hX h hN hQ hr => ?_)
  subst hX
  subst hDu
  obtain ⟨K, O, M, P, N, g, mk⟩ := u
  obtain ⟨tg, h25, hr2⟩ := hd
  have h25 : c 25 = .inr (4, [.ref (G.1 26), .ref (G.1 29), .ref (G.1 31), .int (nI P), .int N, .long (tg)]) := h25
  have hp : P < O.length := hp
  have hD : RowAt G c 29 O := hD
  have hle := hD.le
  have hK : sK t = K := hK
  have hr2 : hasC K = true → tg = g := hr2
  obtain ⟨_, _, rg, mp, ml, h0, _, _⟩ := id hs
  have hA : nxA (K, O, M, P, N, g, mk) = O.getD P 0 := if_pos hp
  have hX : pNx (K, O, M, P, N, g, mk) = (K, O, M, P + 1, (if O.getD P 0 = nI 10 then N + nI 1 else N), wb g (O.getD P 0), mk) := if_pos hp
  refine r_aload_n h 0 rfl rfl dX2_nextDue_0 ?_
  refine r_getf h F_X2_21 (i := 25) (by omega) h25 rfl dX2_nextDue_1 ?_
  refine r_aload_n h 0 rfl rfl dX2_nextDue_4 ?_
  refine r_getf h F_X2_86 (i := 25) (by omega) h25 rfl dX2_nextDue_5 ?_
  refine r_cV h k_X2_71 (i := 29) (As := [.int (nI P)]) (rest := []) (c_X0_at h.i h.t (by omega) hD (nI (P))) (by omega) hD.1 rfl rfl rfl (Nat.le_of_ble_eq_true rfl) ⟨by decide, by decide, by decide, by decide⟩ dX2_nextDue_8 (fun _ z => z.elim) (fun v1 c2 p3 => ?_)
  obtain ⟨r, rfl, rfl, rfl⟩ := p3
  rw [atP_nI hp (by omega)]
  refine r_istore_n h ([(1, .int (O.getD (P) 0)), (0, .ref (G.1 25))]) rfl dX2_nextDue_11 (by decide) rfl ?_
  refine r_aload_n h 1 rfl rfl dX2_nextDue_12 ?_
  refine r_dup h rfl dX2_nextDue_13 ?_
  refine r_getf h F_X2_86 (i := 25) (by omega) h25 rfl dX2_nextDue_14 ?_
  refine r_iconst h (v := nI 1) (by decide) dX2_nextDue_17 ?_
  refine r_iadd h (nI_add (P) (1)) dX2_nextDue_18 ?_
  refine r_putf h F_X2_86 ft_X2 (i := 25) (by omega) h25 ([.ref (G.1 26), .ref (G.1 29), .ref (G.1 31), .int (nI (P + 1)), .int N, .long (tg)]) rfl rfl rfl rfl (Nat.le_of_ble_eq_true rfl) dX2_nextDue_19 (fun c4 h5 k6 => ?_)
  have g7 := hD.mono (k6 (29) (by omega)) (k6 (29 + 1) (by omega))
  have g8 := (k6 (26) (by omega)).trans h0
  refine r_iload_n h 0 rfl rfl dX2_nextDue_22 ?_
  refine r_bipush h (v := nI 10) (by decide) dX2_nextDue_23 ?_
  refine r_icmp_ne h 38 dX2_nextDue_25 (by decide) (fun v => ?_) (fun v => ?_)
  · refine r_aload_n h 1 rfl rfl dX2_nextDue_38 ?_
    refine r_getf h F_X2_12 (i := 25) (by omega) h5 rfl dX2_nextDue_39 ?_
    refine r_getN h F_X2_126 (i := 26) (by omega) g8 rfl dX2_nextDue_42 ?_
    refine r_cN h k_X2_129 (As := [.int (sK t)]) (rest := []) (c_X3_hasCheck h.i h.t (sK t)) rfl rfl (Nat.le_of_ble_eq_true rfl) ⟨by decide, by decide, by decide, by decide⟩ dX2_nextDue_45 (fun _ z => z.elim) (fun v9 c10 p11 => ?_)
    obtain ⟨r, rfl, rfl, rfl⟩ := p11
    refine rb_if_eq h 63 dX2_nextDue_48 (by decide) (fun u => ?_) (fun u => ?_)
    · refine r_iload_n h 0 rfl rfl dX2_nextDue_63 ?_
      exact r_iret h hQ hr dX2_nextDue_64 ⟨by decide, by decide⟩ ⟨_, rfl, hA, Du.nx h5 hp (if_neg v) (fun z => absurd (by rw [hK]; exact z) u), fun y p => (k6 y p)⟩
    · refine r_aload_n h 1 rfl rfl dX2_nextDue_51 ?_
      refine r_aload_n h 1 rfl rfl dX2_nextDue_52 ?_
      refine r_getf h F_X2_113 (i := 25) (by omega) h5 rfl dX2_nextDue_53 ?_
      refine r_iload_n h 0 rfl rfl dX2_nextDue_56 ?_
      refine r_cN h k_X2_132 (As := [.long (tg), .int (O.getD P 0)]) (rest := [.ref (G.1 25)]) (c_X3_withByte h.i h.t tg (O.getD P 0)) rfl rfl (Nat.le_of_ble_eq_true rfl) ⟨by decide, by decide, by decide, by decide⟩ dX2_nextDue_57 (fun _ z => z.elim) (fun v12 c13 p14 => ?_)
      obtain ⟨r, rfl, rfl, rfl⟩ := p14
      refine r_putf h F_X2_113 ft_X2 (i := 25) (by omega) h5 ([.ref (G.1 26), .ref (G.1 29), .ref (G.1 31), .int (nI (P + 1)), .int N, .long (wb tg (O.getD P 0))]) rfl rfl rfl rfl (Nat.le_of_ble_eq_true rfl) dX2_nextDue_60 (fun c15 h16 k17 => ?_)
      have g18 := g7.mono (k17 (29) (by omega)) (k17 (29 + 1) (by omega))
      have g19 := (k17 (26) (by omega)).trans g8
      refine r_iload_n h 0 rfl rfl dX2_nextDue_63 ?_
      exact r_iret h hQ hr dX2_nextDue_64 ⟨by decide, by decide⟩ ⟨_, rfl, hA, Du.nx h16 hp (if_neg v) (fun z => by rw [hr2 z]), fun y p => ((k17 y p).trans (k6 y p))⟩
  · refine r_aload_n h 1 rfl rfl dX2_nextDue_28 ?_
    refine r_dup h rfl dX2_nextDue_29 ?_
    refine r_getf h F_X2_99 (i := 25) (by omega) h5 rfl dX2_nextDue_30 ?_
    refine r_iconst h (v := nI 1) (by decide) dX2_nextDue_33 ?_
    refine r_iadd h rfl dX2_nextDue_34 ?_
    refine r_putf h F_X2_99 ft_X2 (i := 25) (by omega) h5 ([.ref (G.1 26), .ref (G.1 29), .ref (G.1 31), .int (nI (P + 1)), .int ((N) + (nI (1))), .long (tg)]) rfl rfl rfl rfl (Nat.le_of_ble_eq_true rfl) dX2_nextDue_35 (fun c20 h21 k22 => ?_)
    have g23 := g7.mono (k22 (29) (by omega)) (k22 (29 + 1) (by omega))
    have g24 := (k22 (26) (by omega)).trans g8
    refine r_aload_n h 1 rfl rfl dX2_nextDue_38 ?_
    refine r_getf h F_X2_12 (i := 25) (by omega) h21 rfl dX2_nextDue_39 ?_
    refine r_getN h F_X2_126 (i := 26) (by omega) g24 rfl dX2_nextDue_42 ?_
    refine r_cN h k_X2_129 (As := [.int (sK t)]) (rest := []) (c_X3_hasCheck h.i h.t (sK t)) rfl rfl (Nat.le_of_ble_eq_true rfl) ⟨by decide, by decide, by decide, by decide⟩ dX2_nextDue_45 (fun _ z => z.elim) (fun v25 c26 p27 => ?_)
    obtain ⟨r, rfl, rfl, rfl⟩ := p27
    refine rb_if_eq h 63 dX2_nextDue_48 (by decide) (fun u => ?_) (fun u => ?_)
    · refine r_iload_n h 0 rfl rfl dX2_nextDue_63 ?_
      exact r_iret h hQ hr dX2_nextDue_64 ⟨by decide, by decide⟩ ⟨_, rfl, hA, Du.nx h21 hp (if_pos v) (fun z => absurd (by rw [hK]; exact z) u), fun y p => ((k22 y p).trans (k6 y p))⟩
    · refine r_aload_n h 1 rfl rfl dX2_nextDue_51 ?_
      refine r_aload_n h 1 rfl rfl dX2_nextDue_52 ?_
      refine r_getf h F_X2_113 (i := 25) (by omega) h21 rfl dX2_nextDue_53 ?_
      refine r_iload_n h 0 rfl rfl dX2_nextDue_56 ?_
      refine r_cN h k_X2_132 (As := [.long (tg), .int (O.getD P 0)]) (rest := [.ref (G.1 25)]) (c_X3_withByte h.i h.t tg (O.getD P 0)) rfl rfl (Nat.le_of_ble_eq_true rfl) ⟨by decide, by decide, by decide, by decide⟩ dX2_nextDue_57 (fun _ z => z.elim) (fun v28 c29 p30 => ?_)
      obtain ⟨r, rfl, rfl, rfl⟩ := p30
      refine r_putf h F_X2_113 ft_X2 (i := 25) (by omega) h21 ([.ref (G.1 26), .ref (G.1 29), .ref (G.1 31), .int (nI (P + 1)), .int ((N) + (nI (1))), .long (wb tg (O.getD P 0))]) rfl rfl rfl rfl (Nat.le_of_ble_eq_true rfl) dX2_nextDue_60 (fun c31 h32 k33 => ?_)
      have g34 := g23.mono (k33 (29) (by omega)) (k33 (29 + 1) (by omega))
      have g35 := (k33 (26) (by omega)).trans g24
      refine r_iload_n h 0 rfl rfl dX2_nextDue_63 ?_
      exact r_iret h hQ hr dX2_nextDue_64 ⟨by decide, by decide⟩ ⟨_, rfl, hA, Du.nx h32 hp (if_pos v) (fun z => by rw [hr2 z]), fun y p => (((k33 y p).trans (k22 y p)).trans (k6 y p))⟩
