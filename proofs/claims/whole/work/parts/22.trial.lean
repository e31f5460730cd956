/-! THE TRIAL -/
set_option maxRecDepth 100000 in
set_option maxHeartbeats 4000000 in
/-- X2_joinedAt -/
theorem c_X2_joinedAt {G : GG} {l : Launch} {c : CC} (hG : InjG G) (hl0 : l.stackTraces = false) {a b : Nat} (ha : a + 1 < 25) (hb : b + 1 < 25) {A B : List Int32} (hA : RowAt G c a A) (hB : RowAt G c b B) (j : Nat) (hj : j < A.length + B.length) : MC G l yX2_joinedAt (.code yX2_joinedAt cX2_joinedAt 3 (some .int) :: gws) (rmF 1 0 0 21) [.ref (G.1 a), .ref (G.1 b), .int (nI j)] c (pI (fun r c' => c = c' ∧ (A ++ B).getD j 0 = r)) (pF) := by
  refine MC.of (by decide) hl0 hG (Nat.le_of_ble_eq_true rfl) (fun X hX h hN hQ hr => ?_)
  subst hX
  have hle1 := hA.le
  have hle2 := hB.le
  refine r_iload_n h 2 rfl rfl dX2_joinedAt_0 ?_
  refine r_aload_n h 0 rfl rfl dX2_joinedAt_1 ?_
  refine r_cV h k_X2_49 (i := a) (As := []) (rest := [.int (nI j)]) (c_X0_size h.i h.t (by omega) hA) (by omega) hA.1 rfl rfl rfl (Nat.le_of_ble_eq_true rfl) ⟨by decide, by decide, by decide, by decide⟩ dX2_joinedAt_2 (fun _ z => z.elim) (fun v1 c2 p3 => ?_)
  obtain ⟨r, rfl, rfl, rfl⟩ := p3
  refine rn_icmp_ge h (a := j) (b := A.length) (by omega) (by omega) 16 dX2_joinedAt_5 (by decide) (fun q => ?_) (fun q => ?_)
  · refine r_aload_n h 1 rfl rfl dX2_joinedAt_16 ?_
    refine r_iload_n h 2 rfl rfl dX2_joinedAt_17 ?_
    refine r_aload_n h 0 rfl rfl dX2_joinedAt_18 ?_
    refine r_cV h k_X2_49 (i := a) (As := []) (rest := [.int (nI j), .ref (G.1 b)]) (c_X0_size h.i h.t (by omega) hA) (by omega) hA.1 rfl rfl rfl (Nat.le_of_ble_eq_true rfl) ⟨by decide, by decide, by decide, by decide⟩ dX2_joinedAt_19 (fun _ z => z.elim) (fun v4 c5 p6 => ?_)
    obtain ⟨r, rfl, rfl, rfl⟩ := p6
    refine r_isub h (pk_sub (a := j) (b := A.length) (by omega)) dX2_joinedAt_22 ?_
    refine r_cV h k_X2_71 (i := b) (As := [.int (nI (j - A.length))]) (rest := []) (c_X0_at h.i h.t (by omega) hB (nI (j - A.length))) (by omega) hB.1 rfl rfl rfl (Nat.le_of_ble_eq_true rfl) ⟨by decide, by decide, by decide, by decide⟩ dX2_joinedAt_23 (fun _ z => z.elim) (fun v7 c8 p9 => ?_)
    obtain ⟨r, rfl, rfl, rfl⟩ := p9
    rw [atP_nI (show j - A.length < B.length by omega) (by omega)]
    exact r_iret h hQ hr dX2_joinedAt_26 ⟨by decide, by decide⟩ ⟨_, rfl, rfl, getD_r q⟩
  · refine r_aload_n h 0 rfl rfl dX2_joinedAt_8 ?_
    refine r_iload_n h 2 rfl rfl dX2_joinedAt_9 ?_
    refine r_cV h k_X2_71 (i := a) (As := [.int (nI j)]) (rest := []) (c_X0_at h.i h.t (by omega) hA (nI (j))) (by omega) hA.1 rfl rfl rfl (Nat.le_of_ble_eq_true rfl) ⟨by decide, by decide, by decide, by decide⟩ dX2_joinedAt_10 (fun _ z => z.elim) (fun v10 c11 p12 => ?_)
    obtain ⟨r, rfl, rfl, rfl⟩ := p12
    rw [atP_nI q (by omega)]
    refine r_goto h 26 dX2_joinedAt_13 (by decide) ?_
    exact r_iret h hQ hr dX2_joinedAt_26 ⟨by decide, by decide⟩ ⟨_, rfl, rfl, getD_l q⟩
set_option maxRecDepth 100000 in
set_option maxHeartbeats 4000000 in
/-- X2_putDue -/
theorem c_X2_putDue {G : GG} {l : Launch} {c : CC} (hG : InjG G) (hl0 : l.stackTraces = false) {pl ln : Int32} {tg : Int64} (h25 : c 25 = .inr (4, [.ref (G.1 26), .ref (G.1 29), .ref (G.1 31), .int pl, .int ln, .long (tg)])) {D : List Int32} (hD : RowAt G c 29 D) {a b : Nat} (ha : a + 1 < 25) (hb : b + 1 < 25) {A B : List Int32} (hA : RowAt G c a A) (hB : RowAt G c b B) (s m n : Nat) (hn : n = s + m) (hn2 : n ≤ A.length + B.length) (hm : D.length + m ≤ 240) (as : Bool) : MC G l yX2_putDue (.code yX2_putDue cX2_putDue 9 none :: gws) (rmF 2 0 0 43) [.ref (G.1 25), .ref (G.1 a), .ref (G.1 b), .int (nI s), .int (nI n), .int (if as = true then 1 else 0)] c (pV (fun c' => RowAt G c' 29 (D ++ dF as (fun i => (A ++ B).getD (s + i) 0) m m) ∧ ∀ y : Nat, y ≠ 29 → y ≠ 30 → c' y = c y)) (pF) := by
  refine MC.of (by decide) hl0 hG (Nat.le_of_ble_eq_true rfl) (fun X hX h hN hQ hr => ?_)
  subst hX
  have hle1 := hA.le
  have hle2 := hB.le
  refine r_iload_n h 3 rfl rfl dX2_putDue_0 ?_
  refine r_istore h ([(6, .int (nI s)), (0, .ref (G.1 25)), (1, .ref (G.1 a)), (2, .ref (G.1 b)), (3, .int (nI s)), (4, .int (nI n)), (5, .int (if as = true then 1 else 0))]) dX2_putDue_1 (by decide) rfl ?_
  have loop : ∀ (q j : Nat) (c1 : CC), m + 1 ≤ j + q → j ≤ m → RowAt G c1 29 (D ++ dF as (fun i => (A ++ B).getD (s + i) 0) m j) → (∀ y : Nat, y ≠ 29 → y ≠ 30 → c1 y = c y) → V G X c1 [(0, .ref (G.1 25)), (1, .ref (G.1 a)), (2, .ref (G.1 b)), (4, .int (nI n)), (5, .int (if as = true then 1 else 0)), (6, .int (nI (s + j)))] 0 0 3 [] := by
    intro q
    induction q with
    | zero => intro j c1 a1 a2; exact absurd a1 (by omega)
    | succ q ih =>
      intro j c1 a1 a2 w1 k1
      have hdl := dF_len as (fun i => (A ++ B).getD (s + i) 0) m j
      have g1 := (k1 (25) (by omega) (by omega)).trans h25
      have g2 := hA.mono (k1 (a) (by omega) (by omega)) (k1 (a + 1) (by omega) (by omega))
      have g3 := hB.mono (k1 (b) (by omega) (by omega)) (k1 (b + 1) (by omega) (by omega))
      refine r_iload h 5 rfl dX2_putDue_3 ?_
      refine r_iload h 3 rfl dX2_putDue_5 ?_
      refine rn_icmp_ge h (a := s + j) (b := n) (by omega) (by omega) 89 dX2_putDue_7 (by decide) (fun z => ?_) (fun z => ?_)
      · exact r_vret h hQ hr dX2_putDue_89 ⟨by decide, by decide⟩ ⟨rfl, by rw [show j = m by omega] at w1; exact w1, k1⟩
      · refine r_aload_n h 1 rfl rfl dX2_putDue_10 ?_
        refine r_aload_n h 2 rfl rfl dX2_putDue_11 ?_
        refine r_iload h 5 rfl dX2_putDue_12 ?_
        refine r_cS h k_X2_63 (As := [.ref (G.1 a), .ref (G.1 b), .int (nI (s + j))]) (rest := []) (c_X2_joinedAt h.i h.t ha hb g2 g3 (s + j) (by omega)) rfl rfl (Nat.le_of_ble_eq_true rfl) ⟨by decide, by decide, by decide, by decide⟩ dX2_putDue_14 (fun _ z => z.elim) (fun v4 c5 p6 => ?_)
        obtain ⟨r, rfl, rfl, rfl⟩ := p6
        refine r_istore h ([(7, .int ((A ++ B).getD (s + j) 0)), (0, .ref (G.1 25)), (1, .ref (G.1 a)), (2, .ref (G.1 b)), (4, .int (nI n)), (5, .int (if as = true then 1 else 0)), (6, .int (nI (s + j)))]) dX2_putDue_17 (by decide) rfl ?_
        refine r_iload h 6 rfl dX2_putDue_19 ?_
        refine r_iconst h (v := nI 1) (by decide) dX2_putDue_21 ?_
        refine r_iadd h (nI_add (s + j) (1)) dX2_putDue_22 ?_
        refine r_iload h 4 rfl dX2_putDue_23 ?_
        suffices KK : V G X c1 [(8, .int (if j + 1 < m then (A ++ B).getD (s + (j + 1)) 0 else -1)), (7, .int ((A ++ B).getD (s + j) 0)), (0, .ref (G.1 25)), (1, .ref (G.1 a)), (2, .ref (G.1 b)), (4, .int (nI n)), (5, .int (if as = true then 1 else 0)), (6, .int (nI (s + j)))] 0 0 43 [] from ?_
        · refine rn_icmp_ge h (a := s + j + 1) (b := n) (by omega) (by omega) 40 dX2_putDue_25 (by decide) (fun z2 => ?_) (fun z2 => ?_)
          · refine r_iconst h (v := -1) (by decide) dX2_putDue_40 ?_
            refine r_istore h ([(8, .int (-1)), (7, .int ((A ++ B).getD (s + j) 0)), (0, .ref (G.1 25)), (1, .ref (G.1 a)), (2, .ref (G.1 b)), (4, .int (nI n)), (5, .int (if as = true then 1 else 0)), (6, .int (nI (s + j)))]) dX2_putDue_41 (by decide) rfl ?_
            rw [if_neg (show ¬ j + 1 < m by omega)] at KK
            exact KK
          · refine r_aload_n h 2 rfl rfl dX2_putDue_28 ?_
            refine r_aload_n h 3 rfl rfl dX2_putDue_29 ?_
            refine r_iload h 6 rfl dX2_putDue_30 ?_
            refine r_iconst h (v := nI 1) (by decide) dX2_putDue_32 ?_
            refine r_iadd h (nI_add (s + j) (1)) dX2_putDue_33 ?_
            refine r_cS h k_X2_63 (As := [.ref (G.1 a), .ref (G.1 b), .int (nI (s + j + 1))]) (rest := []) (c_X2_joinedAt h.i h.t ha hb g2 g3 (s + j + 1) (by omega)) rfl rfl (Nat.le_of_ble_eq_true rfl) ⟨by decide, by decide, by decide, by decide⟩ dX2_putDue_34 (fun _ z => z.elim) (fun v7 c8 p9 => ?_)
            obtain ⟨r, rfl, rfl, rfl⟩ := p9
            refine r_goto h 41 dX2_putDue_37 (by decide) ?_
            refine r_istore h ([(8, .int ((A ++ B).getD (s + j + 1) 0)), (7, .int ((A ++ B).getD (s + j) 0)), (0, .ref (G.1 25)), (1, .ref (G.1 a)), (2, .ref (G.1 b)), (4, .int (nI n)), (5, .int (if as = true then 1 else 0)), (6, .int (nI (s + j)))]) dX2_putDue_41 (by decide) rfl ?_
            rw [if_pos (show j + 1 < m by omega)] at KK
            exact KK
        · generalize hyy : (if j + 1 < m then (A ++ B).getD (s + (j + 1)) 0 else -1) = yy
          have hst : dF as (fun i => (A ++ B).getD (s + i) 0) m (j + 1) = dF as (fun i => (A ++ B).getD (s + i) 0) m j ++ dS as ((A ++ B).getD (s + j) 0) yy := by rw [← hyy]; rfl
          refine r_iload h 6 rfl dX2_putDue_43 ?_
          refine rb_if_eq h 55 dX2_putDue_45 (by decide) (fun u => ?_) (fun u => ?_)
          · refine r_aload_n h 2 rfl rfl dX2_putDue_55 ?_
            refine r_getf h F_X2_21 (i := 25) (by omega) g1 rfl dX2_putDue_56 ?_
            refine r_iload h 1 rfl dX2_putDue_59 ?_
            refine r_cV h k_X2_67 (i := 29) (As := [.int ((A ++ B).getD (s + j) 0)]) (rest := []) (c_X0_put h.i h.t (by omega) w1 (by rw [List.length_append]; omega) ((A ++ B).getD (s + j) 0)) (by omega) w1.1 rfl rfl rfl (Nat.le_of_ble_eq_true rfl) ⟨by decide, by decide, by decide, by decide⟩ dX2_putDue_61 (fun _ z => z.elim) (fun v13 c10 p14 => ?_)
            obtain ⟨rfl, w11, k12⟩ := p14
            have g15 := (k12 (25) (by omega) (by omega)).trans g1
            have g16 := g2.mono (k12 (a) (by omega) (by omega)) (k12 (a + 1) (by omega) (by omega))
            have g17 := g3.mono (k12 (b) (by omega) (by omega)) (k12 (b + 1) (by omega) (by omega))
            have w11 : RowAt G c10 (29) (D ++ dF as (fun i => (A ++ B).getD (s + i) 0) m (j + 1)) := by rw [hst, dS_n (fun z => u z.1), ← List.append_assoc]; exact w11
            refine r_goto h 83 dX2_putDue_64 (by decide) ?_
            refine r_iinc h 7 ([(6, .int (nI (s + j + 1))), (8, .int yy), (7, .int ((A ++ B).getD (s + j) 0)), (0, .ref (G.1 25)), (1, .ref (G.1 a)), (2, .ref (G.1 b)), (4, .int (nI n)), (5, .int (if as = true then 1 else 0))]) rfl (inc_1 (s + j)) dX2_putDue_83 (by decide) rfl ?_
            refine r_goto h 3 dX2_putDue_86 (by decide) ?_
            refine V_lv [3, 4, 5, 6, 7, 0] rfl ?_
            exact ih (j + 1) c10 (by omega) (by omega) w11 (fun y p q => (k12 y p q).trans (k1 y p q))
          · refine r_iload h 1 rfl dX2_putDue_48 ?_
            refine r_bipush h (v := nI 13) (by decide) dX2_putDue_50 ?_
            refine r_icmp_eq h 67 dX2_putDue_52 (by decide) (fun v => ?_) (fun v => ?_)
            · refine r_iload h 0 rfl dX2_putDue_67 ?_
              refine r_bipush h (v := nI 10) (by decide) dX2_putDue_69 ?_
              refine r_icmp_eq h 83 dX2_putDue_71 (by decide) (fun v3 => ?_) (fun v3 => ?_)
              · have w2 : RowAt G c1 29 (D ++ dF as (fun i => (A ++ B).getD (s + i) 0) m (j + 1)) := by rw [hst, dS_y ⟨u, v⟩ v3, List.append_nil]; exact w1
                refine r_iinc h 7 ([(6, .int (nI (s + j + 1))), (8, .int yy), (7, .int ((A ++ B).getD (s + j) 0)), (0, .ref (G.1 25)), (1, .ref (G.1 a)), (2, .ref (G.1 b)), (4, .int (nI n)), (5, .int (if as = true then 1 else 0))]) rfl (inc_1 (s + j)) dX2_putDue_83 (by decide) rfl ?_
                refine r_goto h 3 dX2_putDue_86 (by decide) ?_
                refine V_lv [3, 4, 5, 6, 7, 0] rfl ?_
                exact ih (j + 1) c1 (by omega) (by omega) w2 (k1)
              · refine r_aload_n h 2 rfl rfl dX2_putDue_74 ?_
                refine r_getf h F_X2_21 (i := 25) (by omega) g1 rfl dX2_putDue_75 ?_
                refine r_bipush h (v := nI 10) (by decide) dX2_putDue_78 ?_
                refine r_cV h k_X2_67 (i := 29) (As := [.int (nI 10)]) (rest := []) (c_X0_put h.i h.t (by omega) w1 (by rw [List.length_append]; omega) (nI (10))) (by omega) w1.1 rfl rfl rfl (Nat.le_of_ble_eq_true rfl) ⟨by decide, by decide, by decide, by decide⟩ dX2_putDue_80 (fun _ z => z.elim) (fun v21 c18 p22 => ?_)
                obtain ⟨rfl, w19, k20⟩ := p22
                have g23 := (k20 (25) (by omega) (by omega)).trans g1
                have g24 := g2.mono (k20 (a) (by omega) (by omega)) (k20 (a + 1) (by omega) (by omega))
                have g25 := g3.mono (k20 (b) (by omega) (by omega)) (k20 (b + 1) (by omega) (by omega))
                have w19 : RowAt G c18 (29) (D ++ dF as (fun i => (A ++ B).getD (s + i) 0) m (j + 1)) := by rw [hst, dS_z ⟨u, v⟩ v3, ← List.append_assoc]; exact w19
                refine r_iinc h 7 ([(6, .int (nI (s + j + 1))), (8, .int yy), (7, .int ((A ++ B).getD (s + j) 0)), (0, .ref (G.1 25)), (1, .ref (G.1 a)), (2, .ref (G.1 b)), (4, .int (nI n)), (5, .int (if as = true then 1 else 0))]) rfl (inc_1 (s + j)) dX2_putDue_83 (by decide) rfl ?_
                refine r_goto h 3 dX2_putDue_86 (by decide) ?_
                refine V_lv [3, 4, 5, 6, 7, 0] rfl ?_
                exact ih (j + 1) c18 (by omega) (by omega) w19 (fun y p q => (k20 y p q).trans (k1 y p q))
            · refine r_aload_n h 2 rfl rfl dX2_putDue_55 ?_
              refine r_getf h F_X2_21 (i := 25) (by omega) g1 rfl dX2_putDue_56 ?_
              refine r_iload h 1 rfl dX2_putDue_59 ?_
              refine r_cV h k_X2_67 (i := 29) (As := [.int ((A ++ B).getD (s + j) 0)]) (rest := []) (c_X0_put h.i h.t (by omega) w1 (by rw [List.length_append]; omega) ((A ++ B).getD (s + j) 0)) (by omega) w1.1 rfl rfl rfl (Nat.le_of_ble_eq_true rfl) ⟨by decide, by decide, by decide, by decide⟩ dX2_putDue_61 (fun _ z => z.elim) (fun v29 c26 p30 => ?_)
              obtain ⟨rfl, w27, k28⟩ := p30
              have g31 := (k28 (25) (by omega) (by omega)).trans g1
              have g32 := g2.mono (k28 (a) (by omega) (by omega)) (k28 (a + 1) (by omega) (by omega))
              have g33 := g3.mono (k28 (b) (by omega) (by omega)) (k28 (b + 1) (by omega) (by omega))
              have w27 : RowAt G c26 (29) (D ++ dF as (fun i => (A ++ B).getD (s + i) 0) m (j + 1)) := by rw [hst, dS_n (fun z => v z.2), ← List.append_assoc]; exact w27
              refine r_goto h 83 dX2_putDue_64 (by decide) ?_
              refine r_iinc h 7 ([(6, .int (nI (s + j + 1))), (8, .int yy), (7, .int ((A ++ B).getD (s + j) 0)), (0, .ref (G.1 25)), (1, .ref (G.1 a)), (2, .ref (G.1 b)), (4, .int (nI n)), (5, .int (if as = true then 1 else 0))]) rfl (inc_1 (s + j)) dX2_putDue_83 (by decide) rfl ?_
              refine r_goto h 3 dX2_putDue_86 (by decide) ?_
              refine V_lv [3, 4, 5, 6, 7, 0] rfl ?_
              exact ih (j + 1) c26 (by omega) (by omega) w27 (fun y p q => (k28 y p q).trans (k1 y p q))
  refine V_lv [1, 2, 3, 5, 6, 0] rfl ?_
  exact loop (m + 1) 0 c (by omega) (by omega) (by rw [show dF as (fun i => (A ++ B).getD (s + i) 0) m 0 = [] from rfl, List.append_nil]; exact hD) (fun _ _ _ => rfl)
set_option maxRecDepth 100000 in
set_option maxHeartbeats 4000000 in
/-- X2_fillDue -/
theorem c_X2_fillDue {G : GG} {l : Launch} {c : CC} (hG : InjG G) (hl0 : l.stackTraces = false) {pl ln : Int32} {tg : Int64} (h25 : c 25 = .inr (4, [.ref (G.1 26), .ref (G.1 29), .ref (G.1 31), .int pl, .int ln, .long (tg)])) {D : List Int32} (hD : RowAt G c 29 D) {a b : Nat} (ha : a + 1 < 25) (hb : b + 1 < 25) {A B : List Int32} (hA : RowAt G c a A) (hB : RowAt G c b B) (hba : allB A) (hbb : allB B) (hlen : A.length + B.length ≤ 240) (K : Int32) : MC G l yX2_fillDue (.code yX2_fillDue cX2_fillDue 6 none :: gws) (rmF 3 0 0 71) [.ref (G.1 25), .int K, .ref (G.1 a), .ref (G.1 b)] c (pV (fun c' => RowAt G c' 29 (outK K A B) ∧ ∀ y : Nat, y ≠ 29 → y ≠ 30 → c' y = c y)) (pF) := by
  refine MC.of (by decide) hl0 hG (Nat.le_of_ble_eq_true rfl) (fun X hX h hN hQ hr => ?_)
  subst hX
  have hle1 := hA.le
  have hle2 := hB.le
  refine r_aload_n h 2 rfl rfl dX2_fillDue_0 ?_
  refine r_cV h k_X2_49 (i := a) (As := []) (rest := []) (c_X0_size h.i h.t (by omega) hA) (by omega) hA.1 rfl rfl rfl (Nat.le_of_ble_eq_true rfl) ⟨by decide, by decide, by decide, by decide⟩ dX2_fillDue_1 (fun _ z => z.elim) (fun v1 c2 p3 => ?_)
  obtain ⟨r, rfl, rfl, rfl⟩ := p3
  refine r_istore h ([(4, .int (nI (A.length))), (0, .ref (G.1 25)), (1, .int K), (2, .ref (G.1 a)), (3, .ref (G.1 b))]) dX2_fillDue_4 (by decide) rfl ?_
  refine r_iload h 0 rfl dX2_fillDue_6 ?_
  refine r_aload_n h 4 rfl rfl dX2_fillDue_8 ?_
  refine r_cV h k_X2_49 (i := b) (As := []) (rest := [.int (nI (A.length))]) (c_X0_size h.i h.t (by omega) hB) (by omega) hB.1 rfl rfl rfl (Nat.le_of_ble_eq_true rfl) ⟨by decide, by decide, by decide, by decide⟩ dX2_fillDue_9 (fun _ z => z.elim) (fun v4 c5 p6 => ?_)
  obtain ⟨r, rfl, rfl, rfl⟩ := p6
  refine r_iadd h (nI_add (A.length) (B.length)) dX2_fillDue_12 ?_
  refine r_istore h ([(5, .int (nI (A.length + B.length))), (4, .int (nI (A.length))), (0, .ref (G.1 25)), (1, .int K), (2, .ref (G.1 a)), (3, .ref (G.1 b))]) dX2_fillDue_13 (by decide) rfl ?_
  refine r_aload_n h 2 rfl rfl dX2_fillDue_15 ?_
  refine r_getf h F_X2_21 (i := 25) (by omega) h25 rfl dX2_fillDue_16 ?_
  refine r_cV h k_X2_53 (i := 29) (As := []) (rest := []) (c_X0_makeEmpty h.i h.t (by omega) hD) (by omega) hD.1 rfl rfl rfl (Nat.le_of_ble_eq_true rfl) ⟨by decide, by decide, by decide, by decide⟩ dX2_fillDue_19 (fun _ z => z.elim) (fun v10 c7 p11 => ?_)
  obtain ⟨rfl, w8, k9⟩ := p11
  have g12 := (k9 (25) (by omega)).trans h25
  have g13 := hA.mono (k9 (a) (by omega)) (k9 (a + 1) (by omega))
  have g14 := hB.mono (k9 (b) (by omega)) (k9 (b + 1) (by omega))
  suffices KK : ∀ c1 : CC, RowAt G c1 29 (pD1 K A B) → (∀ y : Nat, y ≠ 29 → y ≠ 30 → c1 y = c y) → V G X c1 [(5, .int (nI (A.length + B.length))), (4, .int (nI (A.length))), (0, .ref (G.1 25)), (1, .int K), (2, .ref (G.1 a)), (3, .ref (G.1 b))] 0 0 61 [] from ?_
  · refine r_iload_n h 3 rfl rfl dX2_fillDue_22 ?_
    refine r_iconst h (v := nI 4) (by decide) dX2_fillDue_23 ?_
    refine r_icmp_eq h 32 dX2_fillDue_24 (by decide) (fun u4 => ?_) (fun u4 => ?_)
    · refine r_aload_n h 2 rfl rfl dX2_fillDue_32 ?_
      refine r_aload_n h 4 rfl rfl dX2_fillDue_33 ?_
      refine r_aload_n h 5 rfl rfl dX2_fillDue_34 ?_
      refine r_iconst h (v := nI 0) (by decide) dX2_fillDue_35 ?_
      refine r_iload h 0 rfl dX2_fillDue_36 ?_
      refine r_iload_n h 3 rfl rfl dX2_fillDue_38 ?_
      refine r_cN h k_X2_56 (As := [.int K]) (rest := [.int (nI (A.length + B.length)), .int (nI 0), .ref (G.1 b), .ref (G.1 a), .ref (G.1 25)]) (c_X3_isLined h.i h.t K) rfl rfl (Nat.le_of_ble_eq_true rfl) ⟨by decide, by decide, by decide, by decide⟩ dX2_fillDue_39 (fun _ z => z.elim) (fun v15 c16 p17 => ?_)
      obtain ⟨r, rfl, rfl, rfl⟩ := p17
      rw [show (.int (nI 0) : Value) = .int (nI 0) from rfl]
      refine r_cV h k_X2_59 (i := 25) (As := [.ref (G.1 a), .ref (G.1 b), .int (nI 0), .int (nI (A.length + B.length)), .int (if isLi K = true then 1 else 0)]) (rest := []) (c_X2_putDue h.i h.t g12 w8 ha hb g13 g14 (0) (A.length + B.length) (A.length + B.length) (by omega) (by omega) (by first | omega | (simp; omega)) (isLi K)) (by omega) g12 rfl rfl rfl (Nat.le_of_ble_eq_true rfl) ⟨by decide, by decide, by decide, by decide⟩ dX2_fillDue_42 (fun _ z => z.elim) (fun v21 c18 p22 => ?_)
      obtain ⟨rfl, w19, k20⟩ := p22
      have g23 := (k20 (25) (by omega) (by omega)).trans g12
      have g24 := g13.mono (k20 (a) (by omega) (by omega)) (k20 (a + 1) (by omega) (by omega))
      have g25 := g14.mono (k20 (b) (by omega) (by omega)) (k20 (b + 1) (by omega) (by omega))
      have w19 : RowAt G c18 29 (pD1 K A B) := by rw [← dF_both hba hbb (by omega) (Or.inl u4)]; exact w19
      refine r_goto h 61 dX2_fillDue_45 (by decide) ?_
      exact KK _ w19 (fun y p q => (k20 y p q).trans (k9 y p))
    · refine r_iload_n h 3 rfl rfl dX2_fillDue_27 ?_
      refine r_iconst h (v := nI 5) (by decide) dX2_fillDue_28 ?_
      refine r_icmp_ne h 48 dX2_fillDue_29 (by decide) (fun u5 => ?_) (fun u5 => ?_)
      · refine r_aload_n h 2 rfl rfl dX2_fillDue_48 ?_
        refine r_aload_n h 4 rfl rfl dX2_fillDue_49 ?_
        refine r_aload_n h 5 rfl rfl dX2_fillDue_50 ?_
        refine r_iconst h (v := nI 0) (by decide) dX2_fillDue_51 ?_
        refine r_iload h 1 rfl dX2_fillDue_52 ?_
        refine r_iload_n h 3 rfl rfl dX2_fillDue_54 ?_
        refine r_cN h k_X2_56 (As := [.int K]) (rest := [.int (nI (A.length)), .int (nI 0), .ref (G.1 b), .ref (G.1 a), .ref (G.1 25)]) (c_X3_isLined h.i h.t K) rfl rfl (Nat.le_of_ble_eq_true rfl) ⟨by decide, by decide, by decide, by decide⟩ dX2_fillDue_55 (fun _ z => z.elim) (fun v37 c38 p39 => ?_)
        obtain ⟨r, rfl, rfl, rfl⟩ := p39
        rw [show (.int (nI 0) : Value) = .int (nI 0) from rfl]
        refine r_cV h k_X2_59 (i := 25) (As := [.ref (G.1 a), .ref (G.1 b), .int (nI 0), .int (nI (A.length)), .int (if isLi K = true then 1 else 0)]) (rest := []) (c_X2_putDue h.i h.t g12 w8 ha hb g13 g14 (0) (A.length) (A.length) (by omega) (by omega) (by first | omega | (simp; omega)) (isLi K)) (by omega) g12 rfl rfl rfl (Nat.le_of_ble_eq_true rfl) ⟨by decide, by decide, by decide, by decide⟩ dX2_fillDue_58 (fun _ z => z.elim) (fun v43 c40 p44 => ?_)
        obtain ⟨rfl, w41, k42⟩ := p44
        have g45 := (k42 (25) (by omega) (by omega)).trans g12
        have g46 := g13.mono (k42 (a) (by omega) (by omega)) (k42 (a + 1) (by omega) (by omega))
        have g47 := g14.mono (k42 (b) (by omega) (by omega)) (k42 (b + 1) (by omega) (by omega))
        have w41 : RowAt G c40 29 (pD1 K A B) := by rw [← dF_first (B := B) hba (fun z => z.elim u4 u5)]; exact w41
        exact KK _ w41 (fun y p q => (k42 y p q).trans (k9 y p))
      · refine r_aload_n h 2 rfl rfl dX2_fillDue_32 ?_
        refine r_aload_n h 4 rfl rfl dX2_fillDue_33 ?_
        refine r_aload_n h 5 rfl rfl dX2_fillDue_34 ?_
        refine r_iconst h (v := nI 0) (by decide) dX2_fillDue_35 ?_
        refine r_iload h 0 rfl dX2_fillDue_36 ?_
        refine r_iload_n h 3 rfl rfl dX2_fillDue_38 ?_
        refine r_cN h k_X2_56 (As := [.int K]) (rest := [.int (nI (A.length + B.length)), .int (nI 0), .ref (G.1 b), .ref (G.1 a), .ref (G.1 25)]) (c_X3_isLined h.i h.t K) rfl rfl (Nat.le_of_ble_eq_true rfl) ⟨by decide, by decide, by decide, by decide⟩ dX2_fillDue_39 (fun _ z => z.elim) (fun v26 c27 p28 => ?_)
        obtain ⟨r, rfl, rfl, rfl⟩ := p28
        rw [show (.int (nI 0) : Value) = .int (nI 0) from rfl]
        refine r_cV h k_X2_59 (i := 25) (As := [.ref (G.1 a), .ref (G.1 b), .int (nI 0), .int (nI (A.length + B.length)), .int (if isLi K = true then 1 else 0)]) (rest := []) (c_X2_putDue h.i h.t g12 w8 ha hb g13 g14 (0) (A.length + B.length) (A.length + B.length) (by omega) (by omega) (by first | omega | (simp; omega)) (isLi K)) (by omega) g12 rfl rfl rfl (Nat.le_of_ble_eq_true rfl) ⟨by decide, by decide, by decide, by decide⟩ dX2_fillDue_42 (fun _ z => z.elim) (fun v32 c29 p33 => ?_)
        obtain ⟨rfl, w30, k31⟩ := p33
        have g34 := (k31 (25) (by omega) (by omega)).trans g12
        have g35 := g13.mono (k31 (a) (by omega) (by omega)) (k31 (a + 1) (by omega) (by omega))
        have g36 := g14.mono (k31 (b) (by omega) (by omega)) (k31 (b + 1) (by omega) (by omega))
        have w30 : RowAt G c29 29 (pD1 K A B) := by rw [← dF_both hba hbb (by omega) (Or.inr u5)]; exact w30
        refine r_goto h 61 dX2_fillDue_45 (by decide) ?_
        exact KK _ w30 (fun y p q => (k31 y p q).trans (k9 y p))
  · intro c1 w1 k1
    have g48 := (k1 (25) (by omega) (by omega)).trans h25
    have g49 := hA.mono (k1 (a) (by omega) (by omega)) (k1 (a + 1) (by omega) (by omega))
    have g50 := hB.mono (k1 (b) (by omega) (by omega)) (k1 (b + 1) (by omega) (by omega))
    refine r_iload_n h 3 rfl rfl dX2_fillDue_61 ?_
    refine r_bipush h (v := nI 7) (by decide) dX2_fillDue_62 ?_
    refine r_icmp_ne h 78 dX2_fillDue_64 (by decide) (fun u7 => ?_) (fun u7 => ?_)
    · exact r_vret h hQ hr dX2_fillDue_78 ⟨by decide, by decide⟩ ⟨rfl, by rw [← pD1_out u7]; exact w1, k1⟩
    · refine r_aload_n h 2 rfl rfl dX2_fillDue_67 ?_
      refine r_aload_n h 4 rfl rfl dX2_fillDue_68 ?_
      refine r_aload_n h 5 rfl rfl dX2_fillDue_69 ?_
      refine r_iload h 1 rfl dX2_fillDue_70 ?_
      refine r_iload h 0 rfl dX2_fillDue_72 ?_
      refine r_iconst h (v := nI 1) (by decide) dX2_fillDue_74 ?_
      have hd1 : (pD1 K A B).length ≤ A.length := by rw [pD1, if_neg (by rw [u7]; decide)]; exact fpK_len K A
      rw [show (nI 1 : Int32) = (if true = true then (1:Int32) else 0) from rfl]
      refine r_cV h k_X2_59 (i := 25) (As := [.ref (G.1 a), .ref (G.1 b), .int (nI (A.length)), .int (nI (A.length + B.length)), .int (if true = true then 1 else 0)]) (rest := []) (c_X2_putDue h.i h.t g48 w1 ha hb g49 g50 (A.length) (B.length) (A.length + B.length) (by omega) (by omega) (by first | omega | (simp; omega)) (true)) (by omega) g48 rfl rfl rfl (Nat.le_of_ble_eq_true rfl) ⟨by decide, by decide, by decide, by decide⟩ dX2_fillDue_75 (fun _ z => z.elim) (fun v54 c51 p55 => ?_)
      obtain ⟨rfl, w52, k53⟩ := p55
      have g56 := (k53 (25) (by omega) (by omega)).trans g48
      have g57 := g49.mono (k53 (a) (by omega) (by omega)) (k53 (a + 1) (by omega) (by omega))
      have g58 := g50.mono (k53 (b) (by omega) (by omega)) (k53 (b + 1) (by omega) (by omega))
      have w52 : RowAt G c51 29 (outK K A B) := by rw [← dF_second hbb u7]; exact w52
      exact r_vret h hQ hr dX2_fillDue_78 ⟨by decide, by decide⟩ ⟨rfl, w52, fun y p q => (k53 y p q).trans (k1 y p q)⟩
set_option maxRecDepth 100000 in
set_option maxHeartbeats 4000000 in
/-- X2_start -/
theorem c_X2_start {G : GG} {l : Launch} {c : CC} (hG : InjG G) (hl0 : l.stackTraces = false) {pl ln : Int32} {tg : Int64} (h25 : c 25 = .inr (4, [.ref (G.1 26), .ref (G.1 29), .ref (G.1 31), .int pl, .int ln, .long (tg)])) {t : Stm} (hs : StrAt G c 26 t) {a b : Nat} (ha : a + 1 < 25) (hb : b + 1 < 25) {A B : List Int32} (hA : RowAt G c a A) (hB : RowAt G c b B) (hba : allB A) (hbb : allB B) (hlen : A.length + B.length ≤ 240) (K : Int32) : MC G l yX2_start (.code yX2_start cX2_start 4 none :: gws) (rmF 4 0 0 91) [.ref (G.1 25), .int K, .ref (G.1 a), .ref (G.1 b)] c (pV (fun c' => Du G c' (pOp K A B) ∧ StrAt G c' 26 (pOp K A B) ∧ ∀ y : Nat, y ≠ 25 → y ≠ 26 → y ≠ 27 → y ≠ 28 → c' y = c y)) (pF) := by
  refine MC.of (by decide) hl0 hG (Nat.le_of_ble_eq_true rfl) (fun X hX h hN hQ hr => ?_)
  subst hX
  obtain ⟨_, hrow, _, _, _, h0, _, _⟩ := id hs
  refine r_aload_n h 0 rfl rfl dX2_start_0 ?_
  refine r_getf h F_X2_12 (i := 25) (by omega) h25 rfl dX2_start_1 ?_
  refine r_iload_n h 1 rfl rfl dX2_start_4 ?_
  refine r_aload_n h 2 rfl rfl dX2_start_5 ?_
  refine r_aload_n h 3 rfl rfl dX2_start_6 ?_
  refine r_cV h k_X2_108 (i := 26) (As := [.int K, .ref (G.1 a), .ref (G.1 b)]) (rest := []) (c_X1_begin h.i h.t (by omega) h0 hrow (by omega) (by omega) hA hB (by omega) (by omega) hlen K hba hbb) (by omega) h0 rfl rfl rfl (Nat.le_of_ble_eq_true rfl) ⟨by decide, by decide, by decide, by decide⟩ dX2_start_7 (fun _ z => z.elim) (fun v4 c1 p5 => ?_)
  obtain ⟨rfl, w2, k3⟩ := p5
  have g6 := (k3 (25) (by omega) (by omega) (by omega)).trans h25
  have g7 := hA.mono (k3 (a) (by omega) (by omega) (by omega)) (k3 (a + 1) (by omega) (by omega) (by omega))
  have g8 := hB.mono (k3 (b) (by omega) (by omega) (by omega)) (k3 (b + 1) (by omega) (by omega) (by omega))
  refine r_aload_n h 0 rfl rfl dX2_start_10 ?_
  refine r_iconst h (v := nI 0) (by decide) dX2_start_11 ?_
  refine r_putf h F_X2_86 ft_X2 (i := 25) (by omega) g6 ([.ref (G.1 26), .ref (G.1 29), .ref (G.1 31), .int (nI 0), .int ln, .long (tg)]) rfl rfl rfl rfl (Nat.le_of_ble_eq_true rfl) dX2_start_12 (fun c9 h10 k11 => ?_)
  have g12 := g7.mono (k11 (a) (by omega)) (k11 (a + 1) (by omega))
  have g13 := g8.mono (k11 (b) (by omega)) (k11 (b + 1) (by omega))
  have g14 := w2.mono (k11 (26) (by omega)) (k11 (26 + 1) (by omega)) (k11 (26 + 2) (by omega))
  refine r_aload_n h 0 rfl rfl dX2_start_15 ?_
  refine r_iconst h (v := nI 0) (by decide) dX2_start_16 ?_
  refine r_putf h F_X2_99 ft_X2 (i := 25) (by omega) h10 ([.ref (G.1 26), .ref (G.1 29), .ref (G.1 31), .int (nI 0), .int (nI 0), .long (tg)]) rfl rfl rfl rfl (Nat.le_of_ble_eq_true rfl) dX2_start_17 (fun c15 h16 k17 => ?_)
  have g18 := g12.mono (k17 (a) (by omega)) (k17 (a + 1) (by omega))
  have g19 := g13.mono (k17 (b) (by omega)) (k17 (b + 1) (by omega))
  have g20 := g14.mono (k17 (26) (by omega)) (k17 (26 + 1) (by omega)) (k17 (26 + 2) (by omega))
  refine r_aload_n h 0 rfl rfl dX2_start_20 ?_
  refine r_ldc2 h K_X2_111 dX2_start_21 ?_
  refine r_putf h F_X2_113 ft_X2 (i := 25) (by omega) h16 ([.ref (G.1 26), .ref (G.1 29), .ref (G.1 31), .int (nI 0), .int (nI 0), .long (4294967295)]) rfl rfl rfl rfl (Nat.le_of_ble_eq_true rfl) dX2_start_24 (fun c21 h22 k23 => ?_)
  have g24 := g18.mono (k23 (a) (by omega)) (k23 (a + 1) (by omega))
  have g25 := g19.mono (k23 (b) (by omega)) (k23 (b + 1) (by omega))
  have g26 := g20.mono (k23 (26) (by omega)) (k23 (26 + 1) (by omega)) (k23 (26 + 2) (by omega))
  exact r_vret h hQ hr dX2_start_27 ⟨by decide, by decide⟩ ⟨rfl, ⟨_, h22, fun _ => rfl⟩, g26, fun y p q r u => (((k23 y p).trans (k17 y p)).trans (k11 y p)).trans (k3 y q r u)⟩
set_option maxRecDepth 100000 in
set_option maxHeartbeats 4000000 in
/-- X2_figuresAreDue -/
theorem c_X2_figuresAreDue {G : GG} {l : Launch} {c : CC} (hG : InjG G) (hl0 : l.stackTraces = false) {t : Stm} (hd : Du G c t) (hs : StrAt G c 26 t) : MC G l yX2_figuresAreDue (.code yX2_figuresAreDue cX2_figuresAreDue 1 (some .boolean) :: gws) (rmF 1 0 0 20) [.ref (G.1 25)] c (pI (fun r c' => nI 1 = r ∧ c = c')) (pF) := by
  refine MC.of (by decide) hl0 hG (Nat.le_of_ble_eq_true rfl) (fun X hX h hN hQ hr => ?_)
  subst hX
  obtain ⟨K, O, M, P, N, g, mk⟩ := t
  obtain ⟨hok, hrow, rg, mp, ml, h0, hrg, hmk⟩ := id hs
  have hP : P ≤ O.length := hok.1
  have hle : O.length ≤ 240 := hrow.le
  have hMl : M ≤ O.length := hok.2.2.2.1
  have hSl : seC K M ≤ M := by unfold seC; split <;> omega
  have hrow : RowAt G c (26 + 1) O := hrow
  have h0 : c 26 = .inr (3, [.ref (G.1 (26 + 1)), .int K, .int (nI (seC K M)), .int (nI P), .int N, .long (rg), .int mp, .int ml]) := h0
  obtain ⟨tg, h25, hr2⟩ := hd
  have h25 : c 25 = .inr (4, [.ref (G.1 26), .ref (G.1 29), .ref (G.1 31), .int (nI P), .int N, .long (tg)]) := h25
  refine r_aload_n h 0 rfl rfl dX2_figuresAreDue_0 ?_
  refine r_getf h F_X2_12 (i := 25) (by omega) h25 rfl dX2_figuresAreDue_1 ?_
  refine r_getN h F_X2_126 (i := 26) (by omega) h0 rfl dX2_figuresAreDue_4 ?_
  refine r_cN h k_X2_136 (As := [.int K]) (rest := []) (c_X3_hasLine h.i h.t K) rfl rfl (Nat.le_of_ble_eq_true rfl) ⟨by decide, by decide, by decide, by decide⟩ dX2_figuresAreDue_7 (fun _ z => z.elim) (fun v1 c2 p3 => ?_)
  obtain ⟨r, rfl, rfl, rfl⟩ := p3
  suffices KK : V G X c [(0, .ref (G.1 25))] 0 0 29 [] from ?_
  · refine rb_if_eq h 29 dX2_figuresAreDue_10 (by decide) (fun u => ?_) (fun u => ?_)
    · exact KK
    · refine r_aload_n h 0 rfl rfl dX2_figuresAreDue_13 ?_
      refine r_getf h F_X2_12 (i := 25) (by omega) h25 rfl dX2_figuresAreDue_14 ?_
      refine r_getN h F_X2_139 (i := 26) (by omega) h0 rfl dX2_figuresAreDue_17 ?_
      refine r_aload_n h 0 rfl rfl dX2_figuresAreDue_20 ?_
      refine r_getf h F_X2_99 (i := 25) (by omega) h25 rfl dX2_figuresAreDue_21 ?_
      refine r_icmp_eq h 29 dX2_figuresAreDue_24 (by decide) (fun v => ?_) (fun v => ?_)
      · exact KK
      · exact absurd rfl v
  · refine r_aload_n h 0 rfl rfl dX2_figuresAreDue_29 ?_
    refine r_getf h F_X2_12 (i := 25) (by omega) h25 rfl dX2_figuresAreDue_30 ?_
    refine r_getN h F_X2_126 (i := 26) (by omega) h0 rfl dX2_figuresAreDue_33 ?_
    refine r_cN h k_X2_129 (As := [.int K]) (rest := []) (c_X3_hasCheck h.i h.t K) rfl rfl (Nat.le_of_ble_eq_true rfl) ⟨by decide, by decide, by decide, by decide⟩ dX2_figuresAreDue_36 (fun _ z => z.elim) (fun v4 c5 p6 => ?_)
    obtain ⟨r, rfl, rfl, rfl⟩ := p6
    suffices KK : V G X c [(0, .ref (G.1 25))] 0 0 61 [] from ?_
    · refine rb_if_eq h 61 dX2_figuresAreDue_39 (by decide) (fun u => ?_) (fun u => ?_)
      · exact KK
      · refine r_aload_n h 0 rfl rfl dX2_figuresAreDue_42 ?_
        refine r_getf h F_X2_12 (i := 25) (by omega) h25 rfl dX2_figuresAreDue_43 ?_
        refine r_cV h k_X2_140 (i := 26) (As := []) (rest := []) (c_X1_checkNow h.i h.t (by omega) hs u) (by omega) h0 rfl rfl rfl (Nat.le_of_ble_eq_true rfl) ⟨by decide, by decide, by decide, by decide⟩ dX2_figuresAreDue_46 (fun _ z => z.elim) (fun v7 c8 p9 => ?_)
        obtain ⟨r, rfl, rfl, rfl⟩ := p9
        refine r_ldc2 h K_X2_111 dX2_figuresAreDue_49 ?_
        refine r_aload_n h 0 rfl rfl dX2_figuresAreDue_52 ?_
        refine r_getf h F_X2_113 (i := 25) (by omega) h25 rfl dX2_figuresAreDue_53 ?_
        refine r_lsub h rfl dX2_figuresAreDue_56 ?_
        refine r_lcmp h rfl dX2_figuresAreDue_57 ?_
        refine r_if_ne h 65 dX2_figuresAreDue_58 (by decide) (fun v => ?_) (fun v => ?_)
        · exact absurd (lg0.mpr (by rw [hr2 u])) v
        · exact KK
    · refine r_iconst h (v := nI 1) (by decide) dX2_figuresAreDue_61 ?_
      refine r_goto h 66 dX2_figuresAreDue_62 (by decide) ?_
      exact r_zret h hQ hr (by decide) dX2_figuresAreDue_66 ⟨by decide, by decide⟩ ⟨_, rfl, rfl, rfl⟩
set_option maxRecDepth 100000 in
set_option maxHeartbeats 4000000 in
/-- X2_nextDue -/
theorem c_X2_nextDue {G : GG} {l : Launch} {c : CC} (hG : InjG G) (hl0 : l.stackTraces = false) {u : Stm} (hd : Du G c u) {t : Stm} (hs : StrAt G c 26 t) (hK : sK t = sK u) {D : List Int32} (hDu : D = sO u) (hD : RowAt G c 29 D) (hp : sP u < (sO u).length) : MC G l yX2_nextDue (.code yX2_nextDue cX2_nextDue 2 (some .int) :: gws) (rmF 1 0 0 26) [.ref (G.1 25)] c (pI (fun r c' => nxA u = r ∧ Du G c' (pNx u) ∧ ∀ y : Nat, y ≠ 25 → c' y = c y)) (pF) := by
  refine MC.of (by decide) hl0 hG (Nat.le_of_ble_eq_true rfl) (fun X hX h hN hQ hr => ?_)
  subst hX
  subst hDu
  obtain ⟨K, O, M, P, N, g, mk⟩ := u
  obtain ⟨tg, h25, hr2⟩ := hd
  have h25 : c 25 = .inr (4, [.ref (G.1 26), .ref (G.1 29), .ref (G.1 31), .int (nI P), .int N, .long (tg)]) := h25
  have hp : P < O.length := hp
  have hD : RowAt G c 29 O := hD
  have hle := hD.le
  have hK : sK t = K := hK
  have hr2 : hasC K = true → tg = g := hr2
  obtain ⟨_, _, rg, mp, ml, h0, _, _⟩ := id hs
  have hA : nxA (K, O, M, P, N, g, mk) = O.getD P 0 := if_pos hp
  have hX : pNx (K, O, M, P, N, g, mk) = (K, O, M, P + 1, (if O.getD P 0 = nI 10 then N + nI 1 else N), wb g (O.getD P 0), mk) := if_pos hp
  refine r_aload_n h 0 rfl rfl dX2_nextDue_0 ?_
  refine r_getf h F_X2_21 (i := 25) (by omega) h25 rfl dX2_nextDue_1 ?_
  refine r_aload_n h 0 rfl rfl dX2_nextDue_4 ?_
  refine r_getf h F_X2_86 (i := 25) (by omega) h25 rfl dX2_nextDue_5 ?_
  refine r_cV h k_X2_71 (i := 29) (As := [.int (nI P)]) (rest := []) (c_X0_at h.i h.t (by omega) hD (nI (P))) (by omega) hD.1 rfl rfl rfl (Nat.le_of_ble_eq_true rfl) ⟨by decide, by decide, by decide, by decide⟩ dX2_nextDue_8 (fun _ z => z.elim) (fun v1 c2 p3 => ?_)
  obtain ⟨r, rfl, rfl, rfl⟩ := p3
  rw [atP_nI hp (by omega)]
  refine r_istore_n h ([(1, .int (O.getD (P) 0)), (0, .ref (G.1 25))]) rfl dX2_nextDue_11 (by decide) rfl ?_
  refine r_aload_n h 1 rfl rfl dX2_nextDue_12 ?_
  refine r_dup h rfl dX2_nextDue_13 ?_
  refine r_getf h F_X2_86 (i := 25) (by omega) h25 rfl dX2_nextDue_14 ?_
  refine r_iconst h (v := nI 1) (by decide) dX2_nextDue_17 ?_
  refine r_iadd h (nI_add (P) (1)) dX2_nextDue_18 ?_
  refine r_putf h F_X2_86 ft_X2 (i := 25) (by omega) h25 ([.ref (G.1 26), .ref (G.1 29), .ref (G.1 31), .int (nI (P + 1)), .int N, .long (tg)]) rfl rfl rfl rfl (Nat.le_of_ble_eq_true rfl) dX2_nextDue_19 (fun c4 h5 k6 => ?_)
  have g7 := hD.mono (k6 (29) (by omega)) (k6 (29 + 1) (by omega))
  have g8 := (k6 (26) (by omega)).trans h0
  refine r_iload_n h 0 rfl rfl dX2_nextDue_22 ?_
  refine r_bipush h (v := nI 10) (by decide) dX2_nextDue_23 ?_
  refine r_icmp_ne h 38 dX2_nextDue_25 (by decide) (fun v => ?_) (fun v => ?_)
  · refine r_aload_n h 1 rfl rfl dX2_nextDue_38 ?_
    refine r_getf h F_X2_12 (i := 25) (by omega) h5 rfl dX2_nextDue_39 ?_
    refine r_getN h F_X2_126 (i := 26) (by omega) g8 rfl dX2_nextDue_42 ?_
    refine r_cN h k_X2_129 (As := [.int (sK t)]) (rest := []) (c_X3_hasCheck h.i h.t (sK t)) rfl rfl (Nat.le_of_ble_eq_true rfl) ⟨by decide, by decide, by decide, by decide⟩ dX2_nextDue_45 (fun _ z => z.elim) (fun v9 c10 p11 => ?_)
    obtain ⟨r, rfl, rfl, rfl⟩ := p11
    refine rb_if_eq h 63 dX2_nextDue_48 (by decide) (fun u => ?_) (fun u => ?_)
    · refine r_iload_n h 0 rfl rfl dX2_nextDue_63 ?_
      exact r_iret h hQ hr dX2_nextDue_64 ⟨by decide, by decide⟩ ⟨_, rfl, hA, Du.nx h5 hp (if_neg v) (fun z => absurd (by rw [hK]; exact z) u), fun y p => (k6 y p)⟩
    · refine r_aload_n h 1 rfl rfl dX2_nextDue_51 ?_
      refine r_aload_n h 1 rfl rfl dX2_nextDue_52 ?_
      refine r_getf h F_X2_113 (i := 25) (by omega) h5 rfl dX2_nextDue_53 ?_
      refine r_iload_n h 0 rfl rfl dX2_nextDue_56 ?_
      refine r_cN h k_X2_132 (As := [.long (tg), .int (O.getD P 0)]) (rest := [.ref (G.1 25)]) (c_X3_withByte h.i h.t tg (O.getD P 0)) rfl rfl (Nat.le_of_ble_eq_true rfl) ⟨by decide, by decide, by decide, by decide⟩ dX2_nextDue_57 (fun _ z => z.elim) (fun v12 c13 p14 => ?_)
      obtain ⟨r, rfl, rfl, rfl⟩ := p14
      refine r_putf h F_X2_113 ft_X2 (i := 25) (by omega) h5 ([.ref (G.1 26), .ref (G.1 29), .ref (G.1 31), .int (nI (P + 1)), .int N, .long (wb tg (O.getD P 0))]) rfl rfl rfl rfl (Nat.le_of_ble_eq_true rfl) dX2_nextDue_60 (fun c15 h16 k17 => ?_)
      have g18 := g7.mono (k17 (29) (by omega)) (k17 (29 + 1) (by omega))
      have g19 := (k17 (26) (by omega)).trans g8
      refine r_iload_n h 0 rfl rfl dX2_nextDue_63 ?_
      exact r_iret h hQ hr dX2_nextDue_64 ⟨by decide, by decide⟩ ⟨_, rfl, hA, Du.nx h16 hp (if_neg v) (fun z => by rw [hr2 z]), fun y p => ((k17 y p).trans (k6 y p))⟩
  · refine r_aload_n h 1 rfl rfl dX2_nextDue_28 ?_
    refine r_dup h rfl dX2_nextDue_29 ?_
    refine r_getf h F_X2_99 (i := 25) (by omega) h5 rfl dX2_nextDue_30 ?_
    refine r_iconst h (v := nI 1) (by decide) dX2_nextDue_33 ?_
    refine r_iadd h rfl dX2_nextDue_34 ?_
    refine r_putf h F_X2_99 ft_X2 (i := 25) (by omega) h5 ([.ref (G.1 26), .ref (G.1 29), .ref (G.1 31), .int (nI (P + 1)), .int ((N) + (nI (1))), .long (tg)]) rfl rfl rfl rfl (Nat.le_of_ble_eq_true rfl) dX2_nextDue_35 (fun c20 h21 k22 => ?_)
    have g23 := g7.mono (k22 (29) (by omega)) (k22 (29 + 1) (by omega))
    have g24 := (k22 (26) (by omega)).trans g8
    refine r_aload_n h 1 rfl rfl dX2_nextDue_38 ?_
    refine r_getf h F_X2_12 (i := 25) (by omega) h21 rfl dX2_nextDue_39 ?_
    refine r_getN h F_X2_126 (i := 26) (by omega) g24 rfl dX2_nextDue_42 ?_
    refine r_cN h k_X2_129 (As := [.int (sK t)]) (rest := []) (c_X3_hasCheck h.i h.t (sK t)) rfl rfl (Nat.le_of_ble_eq_true rfl) ⟨by decide, by decide, by decide, by decide⟩ dX2_nextDue_45 (fun _ z => z.elim) (fun v25 c26 p27 => ?_)
    obtain ⟨r, rfl, rfl, rfl⟩ := p27
    refine rb_if_eq h 63 dX2_nextDue_48 (by decide) (fun u => ?_) (fun u => ?_)
    · refine r_iload_n h 0 rfl rfl dX2_nextDue_63 ?_
      exact r_iret h hQ hr dX2_nextDue_64 ⟨by decide, by decide⟩ ⟨_, rfl, hA, Du.nx h21 hp (if_pos v) (fun z => absurd (by rw [hK]; exact z) u), fun y p => ((k22 y p).trans (k6 y p))⟩
    · refine r_aload_n h 1 rfl rfl dX2_nextDue_51 ?_
      refine r_aload_n h 1 rfl rfl dX2_nextDue_52 ?_
      refine r_getf h F_X2_113 (i := 25) (by omega) h21 rfl dX2_nextDue_53 ?_
      refine r_iload_n h 0 rfl rfl dX2_nextDue_56 ?_
      refine r_cN h k_X2_132 (As := [.long (tg), .int (O.getD P 0)]) (rest := [.ref (G.1 25)]) (c_X3_withByte h.i h.t tg (O.getD P 0)) rfl rfl (Nat.le_of_ble_eq_true rfl) ⟨by decide, by decide, by decide, by decide⟩ dX2_nextDue_57 (fun _ z => z.elim) (fun v28 c29 p30 => ?_)
      obtain ⟨r, rfl, rfl, rfl⟩ := p30
      refine r_putf h F_X2_113 ft_X2 (i := 25) (by omega) h21 ([.ref (G.1 26), .ref (G.1 29), .ref (G.1 31), .int (nI (P + 1)), .int ((N) + (nI (1))), .long (wb tg (O.getD P 0))]) rfl rfl rfl rfl (Nat.le_of_ble_eq_true rfl) dX2_nextDue_60 (fun c31 h32 k33 => ?_)
      have g34 := g23.mono (k33 (29) (by omega)) (k33 (29 + 1) (by omega))
      have g35 := (k33 (26) (by omega)).trans g24
      refine r_iload_n h 0 rfl rfl dX2_nextDue_63 ?_
      exact r_iret h hQ hr dX2_nextDue_64 ⟨by decide, by decide⟩ ⟨_, rfl, hA, Du.nx h32 hp (if_pos v) (fun z => by rw [hr2 z]), fun y p => (((k33 y p).trans (k22 y p)).trans (k6 y p))⟩
set_option maxRecDepth 100000 in
set_option maxHeartbeats 4000000 in
/-- X2_readsRest -/
theorem c_X2_readsRest {G : GG} {l : Launch} {c : CC} (hG : InjG G) (hl0 : l.stackTraces = false) {t : Stm} (hd : Du G c t) (hs : StrAt G c 26 t) (hD : RowAt G c 29 (sO t)) : MC G l yX2_readsRest (.code yX2_readsRest cX2_readsRest 3 (some .boolean) :: gws) (rmF 2 0 0 47) [.ref (G.1 25)] c (pI (fun r c' => nI 1 = r ∧ Du G c' (pPn ((sO t).length - sP t) t) ∧ StrAt G c' 26 (pPn ((sO t).length - sP t) t) ∧ ∀ y : Nat, y ≠ 25 → y ≠ 26 → c' y = c y)) (pF) := by
  refine MC.of (by decide) hl0 hG (Nat.le_of_ble_eq_true rfl) (fun X hX h hN hQ hr => ?_)
  subst hX
  have hP : sP t ≤ (sO t).length := hs.1.1
  have hle : (sO t).length ≤ 240 := hD.le
  obtain ⟨tg1, h2, r3⟩ := id hd
  refine r_aload_n h 0 rfl rfl dX2_readsRest_0 ?_
  refine r_getf h F_X2_21 (i := 25) (by omega) h2 rfl dX2_readsRest_1 ?_
  refine r_cV h k_X2_49 (i := 29) (As := []) (rest := []) (c_X0_size h.i h.t (by omega) hD) (by omega) hD.1 rfl rfl rfl (Nat.le_of_ble_eq_true rfl) ⟨by decide, by decide, by decide, by decide⟩ dX2_readsRest_4 (fun _ z => z.elim) (fun v4 c5 p6 => ?_)
  obtain ⟨r, rfl, rfl, rfl⟩ := p6
  refine r_aload_n h 0 rfl rfl dX2_readsRest_7 ?_
  refine r_getf h F_X2_86 (i := 25) (by omega) h2 rfl dX2_readsRest_8 ?_
  refine r_isub h (pk_sub (a := (sO t).length) (b := sP t) (by omega)) dX2_readsRest_11 ?_
  refine r_istore_n h ([(1, .int (nI ((sO t).length - sP t))), (0, .ref (G.1 25))]) rfl dX2_readsRest_12 (by decide) rfl ?_
  refine r_iconst h (v := nI 0) (by decide) dX2_readsRest_13 ?_
  refine r_istore_n h ([(2, .int (nI 0)), (1, .int (nI ((sO t).length - sP t))), (0, .ref (G.1 25))]) rfl dX2_readsRest_14 (by decide) rfl ?_
  generalize hm : (sO t).length - sP t = m at hQ ⊢
  have loop : ∀ (q j : Nat) (c1 : CC), m + 1 ≤ j + q → j ≤ m → Du G c1 (pPn j t) → StrAt G c1 26 (pPn j t) → (∀ y : Nat, y ≠ 25 → y ≠ 26 → c1 y = c y) → V G X c1 [(0, .ref (G.1 25)), (1, .int (nI m)), (2, .int (nI j))] 0 0 15 [] := by
    intro q
    induction q with
    | zero => intro j c1 a1 a2; exact absurd a1 (by omega)
    | succ q ih =>
      intro j c1 a1 a2 d1 s1 k1
      have hD1 : RowAt G c1 29 (sO t) := hD.mono (k1 29 (by omega) (by omega)) (k1 30 (by omega) (by omega))
      obtain ⟨tg7, h8, r9⟩ := id d1
      refine r_iload_n h 2 rfl rfl dX2_readsRest_15 ?_
      refine r_iload_n h 1 rfl rfl dX2_readsRest_16 ?_
      refine rn_icmp_ge h (a := j) (b := m) (by omega) (by omega) 49 dX2_readsRest_17 (by decide) (fun z => ?_) (fun z => ?_)
      · have hjm : j = m := by omega
        have hend := nx_end (t := pPn j t) (by rw [pPn_P t j (by omega), pPn_O]; omega)
        refine r_aload_n h 0 rfl rfl dX2_readsRest_49 ?_
        refine r_getf h F_X2_12 (i := 25) (by omega) h8 rfl dX2_readsRest_50 ?_
        obtain ⟨_, o10⟩ := s1.obj
        refine r_cV h k_X2_123 (i := 26) (As := []) (rest := []) (c_X1_next h.i h.t (by omega) s1) (by omega) o10 rfl rfl rfl (Nat.le_of_ble_eq_true rfl) ⟨by decide, by decide, by decide, by decide⟩ dX2_readsRest_53 (fun _ z => z.elim) (fun v14 c11 p15 => ?_)
        obtain ⟨r, rfl, w12, rfl, k13⟩ := p15
        have g16 := d1.mono (k13 25 (by omega))
        have g17 := hD1.mono (k13 (29) (by omega)) (k13 (29 + 1) (by omega))
        have g18 := (k13 (25) (by omega)).trans h8
        rw [hend.1]
        rw [hend.2] at w12
        refine r_iconst h (v := -1) (by decide) dX2_readsRest_56 ?_
        refine r_icmp_ne h 71 dX2_readsRest_57 (by decide) (fun v => ?_) (fun v => ?_)
        · exact absurd rfl v
        · refine r_aload_n h 0 rfl rfl dX2_readsRest_60 ?_
          obtain ⟨_, o19⟩ := g16.obj
          refine r_cV h k_X2_90 (i := 25) (As := []) (rest := []) (c_X2_figuresAreDue h.i h.t g16 w12) (by omega) o19 rfl rfl rfl (Nat.le_of_ble_eq_true rfl) ⟨by decide, by decide, by decide, by decide⟩ dX2_readsRest_61 (fun _ z => z.elim) (fun v20 c21 p22 => ?_)
          obtain ⟨r, rfl, rfl, rfl⟩ := p22
          refine rn_if_eq h (a := 1) (by omega) 71 dX2_readsRest_64 (by decide) (fun u1 => ?_) (fun u1 => ?_)
          · exact absurd u1 (by decide)
          · refine r_iconst h (v := nI 1) (by decide) dX2_readsRest_67 ?_
            refine r_goto h 72 dX2_readsRest_68 (by decide) ?_
            subst hjm
            exact r_zret h hQ hr (by decide) dX2_readsRest_72 ⟨by decide, by decide⟩ ⟨_, rfl, rfl, g16, w12, fun y p1 p2 => ((k13 y (by omega)).trans (k1 y (by omega) (by omega)))⟩
      · refine r_aload_n h 0 rfl rfl dX2_readsRest_20 ?_
        refine r_getf h F_X2_12 (i := 25) (by omega) h8 rfl dX2_readsRest_21 ?_
        obtain ⟨_, o23⟩ := s1.obj
        refine r_cV h k_X2_123 (i := 26) (As := []) (rest := []) (c_X1_next h.i h.t (by omega) s1) (by omega) o23 rfl rfl rfl (Nat.le_of_ble_eq_true rfl) ⟨by decide, by decide, by decide, by decide⟩ dX2_readsRest_24 (fun _ z => z.elim) (fun v27 c24 p28 => ?_)
        obtain ⟨r, rfl, w25, rfl, k26⟩ := p28
        have g29 := d1.mono (k26 25 (by omega))
        have g30 := hD1.mono (k26 (29) (by omega)) (k26 (29 + 1) (by omega))
        have g31 := (k26 (25) (by omega)).trans h8
        refine r_aload_n h 0 rfl rfl dX2_readsRest_27 ?_
        obtain ⟨_, o32⟩ := g29.obj
        refine r_cV h k_X2_120 (i := 25) (As := []) (rest := [.int (nxA (pPn j t))]) (c_X2_nextDue h.i h.t g29 w25 (by rw [pNx_K]) (pPn_O t j).symm g30 (by rw [pPn_P t j (by omega), pPn_O]; omega)) (by omega) o32 rfl rfl rfl (Nat.le_of_ble_eq_true rfl) ⟨by decide, by decide, by decide, by decide⟩ dX2_readsRest_28 (fun _ z => z.elim) (fun v36 c33 p37 => ?_)
        obtain ⟨r, rfl, rfl, d34, k35⟩ := p37
        have g38 := g30.mono (k35 (29) (by omega)) (k35 (29 + 1) (by omega))
        have g39 := w25.mono (k35 (26) (by omega)) (k35 (26 + 1) (by omega)) (k35 (26 + 2) (by omega))
        refine r_icmp_ne h 41 dX2_readsRest_31 (by decide) (fun v => ?_) (fun v => ?_)
        · exact absurd rfl v
        · refine r_aload_n h 0 rfl rfl dX2_readsRest_34 ?_
          obtain ⟨_, o40⟩ := d34.obj
          refine r_cV h k_X2_90 (i := 25) (As := []) (rest := []) (c_X2_figuresAreDue h.i h.t d34 g39) (by omega) o40 rfl rfl rfl (Nat.le_of_ble_eq_true rfl) ⟨by decide, by decide, by decide, by decide⟩ dX2_readsRest_35 (fun _ z => z.elim) (fun v41 c42 p43 => ?_)
          obtain ⟨r, rfl, rfl, rfl⟩ := p43
          refine rn_if_ne h (a := 1) (by omega) 43 dX2_readsRest_38 (by decide) (fun u1 => ?_) (fun u1 => ?_)
          · refine r_iinc h 2 ([(2, .int (nI (j + 1))), (0, .ref (G.1 25)), (1, .int (nI m))]) rfl (inc_1 (j)) dX2_readsRest_43 (by decide) rfl ?_
            refine r_goto h 15 dX2_readsRest_46 (by decide) ?_
            refine V_lv [1, 2, 0] rfl ?_
            exact ih (j + 1) c33 (by omega) (by omega) d34 g39 (fun y p1 p2 => (((k35 y (by omega)).trans (k26 y (by omega))).trans (k1 y (by omega) (by omega))))
          · exact absurd u1 (by decide)
  refine V_lv [2, 1, 0] rfl ?_
  exact loop (m + 1) 0 c (by omega) (by omega) hd hs (fun _ _ _ => rfl)
set_option maxRecDepth 100000 in
set_option maxHeartbeats 4000000 in
/-- X2_skipsThird -/
theorem c_X2_skipsThird {G : GG} {l : Launch} {c : CC} (hG : InjG G) (hl0 : l.stackTraces = false) {t : Stm} (hd : Du G c t) (hs : StrAt G c 26 t) (hD : RowAt G c 29 (sO t)) (h0P : sP t = 0) : MC G l yX2_skipsThird (.code yX2_skipsThird cX2_skipsThird 4 (some .boolean) :: gws) (rmF 3 0 0 70) [.ref (G.1 25)] c (pI (fun r c' => nI 1 = r ∧ Du G c' (pPn ((sO t).length / 3) t) ∧ StrAt G c' 26 (pPn ((sO t).length / 3) t) ∧ ∀ y : Nat, y ≠ 25 → y ≠ 26 → c' y = c y)) (pF) := by
  refine MC.of (by decide) hl0 hG (Nat.le_of_ble_eq_true rfl) (fun X hX h hN hQ hr => ?_)
  subst hX
  have hle : (sO t).length ≤ 240 := hD.le
  obtain ⟨tg1, h2, r3⟩ := id hd
  refine r_aload_n h 0 rfl rfl dX2_skipsThird_0 ?_
  refine r_getf h F_X2_21 (i := 25) (by omega) h2 rfl dX2_skipsThird_1 ?_
  refine r_cV h k_X2_49 (i := 29) (As := []) (rest := []) (c_X0_size h.i h.t (by omega) hD) (by omega) hD.1 rfl rfl rfl (Nat.le_of_ble_eq_true rfl) ⟨by decide, by decide, by decide, by decide⟩ dX2_skipsThird_4 (fun _ z => z.elim) (fun v4 c5 p6 => ?_)
  obtain ⟨r, rfl, rfl, rfl⟩ := p6
  refine r_iconst h (v := nI 3) (by decide) dX2_skipsThird_7 ?_
  refine r_idiv h (by decide) (pk_div (a := (sO t).length) (d := 3) (by omega) (by decide) (by decide)) dX2_skipsThird_8 ?_
  refine r_istore_n h ([(1, .int (nI (((sO t).length) / 3))), (0, .ref (G.1 25))]) rfl dX2_skipsThird_9 (by decide) rfl ?_
  refine r_aload_n h 1 rfl rfl dX2_skipsThird_10 ?_
  refine r_getf h F_X2_12 (i := 25) (by omega) h2 rfl dX2_skipsThird_11 ?_
  refine r_iload_n h 0 rfl rfl dX2_skipsThird_14 ?_
  generalize hm : (sO t).length / 3 = m at hQ ⊢
  obtain ⟨_, o7⟩ := hs.obj
  refine r_cV h k_X2_117 (i := 26) (As := [.int (nI m)]) (rest := []) (c_X1_pass h.i h.t (by omega) hs m (by omega)) (by omega) o7 rfl rfl rfl (Nat.le_of_ble_eq_true rfl) ⟨by decide, by decide, by decide, by decide⟩ dX2_skipsThird_15 (fun _ z => z.elim) (fun v11 c8 p12 => ?_)
  obtain ⟨r, rfl, w9, rfl, k10⟩ := p12
  have g13 := hd.mono (k10 25 (by omega))
  have g14 := hD.mono (k10 (29) (by omega)) (k10 (29 + 1) (by omega))
  have g15 := (k10 (25) (by omega)).trans h2
  rw [Nat.min_eq_left (show m ≤ (sO t).length - sP t by omega)] at w9 ⊢
  refine r_istore_n h ([(2, .int (nI m)), (1, .int (nI m)), (0, .ref (G.1 25))]) rfl dX2_skipsThird_18 (by decide) rfl ?_
  refine r_iconst h (v := nI 0) (by decide) dX2_skipsThird_19 ?_
  refine r_istore_n h ([(3, .int (nI 0)), (2, .int (nI m)), (1, .int (nI m)), (0, .ref (G.1 25))]) rfl dX2_skipsThird_20 (by decide) rfl ?_
  have loop : ∀ (q j : Nat) (c1 : CC), m + 1 ≤ j + q → j ≤ m → Du G c1 (pPn j t) → (∀ y : Nat, y ≠ 25 → c1 y = c8 y) → V G X c1 [(0, .ref (G.1 25)), (1, .int (nI m)), (2, .int (nI m)), (3, .int (nI j))] 0 0 21 [] := by
    intro q
    induction q with
    | zero => intro j c1 a1 a2; exact absurd a1 (by omega)
    | succ q ih =>
      intro j c1 a1 a2 d1 k1
      have g16 := g14.mono (k1 (29) (by omega)) (k1 (29 + 1) (by omega))
      have g17 := w9.mono (k1 (26) (by omega)) (k1 (26 + 1) (by omega)) (k1 (26 + 2) (by omega))
      refine r_iload_n h 3 rfl rfl dX2_skipsThird_21 ?_
      refine r_iload_n h 1 rfl rfl dX2_skipsThird_22 ?_
      refine rn_icmp_ge h (a := j) (b := m) (by omega) (by omega) 37 dX2_skipsThird_23 (by decide) (fun z => ?_) (fun z => ?_)
      · have hjm : j = m := by omega
        subst hjm
        refine r_iload_n h 2 rfl rfl dX2_skipsThird_37 ?_
        refine r_iload_n h 1 rfl rfl dX2_skipsThird_38 ?_
        refine rn_icmp_ne h (a := j) (b := j) (by omega) (by omega) 53 dX2_skipsThird_39 (by decide) (fun v => ?_) (fun v => ?_)
        · exact absurd v (by omega)
        · refine r_aload_n h 0 rfl rfl dX2_skipsThird_42 ?_
          obtain ⟨_, o18⟩ := d1.obj
          refine r_cV h k_X2_90 (i := 25) (As := []) (rest := []) (c_X2_figuresAreDue h.i h.t d1 g17) (by omega) o18 rfl rfl rfl (Nat.le_of_ble_eq_true rfl) ⟨by decide, by decide, by decide, by decide⟩ dX2_skipsThird_43 (fun _ z => z.elim) (fun v19 c20 p21 => ?_)
          obtain ⟨r, rfl, rfl, rfl⟩ := p21
          refine rn_if_eq h (a := 1) (by omega) 53 dX2_skipsThird_46 (by decide) (fun u1 => ?_) (fun u1 => ?_)
          · exact absurd u1 (by decide)
          · refine r_iconst h (v := nI 1) (by decide) dX2_skipsThird_49 ?_
            refine r_goto h 54 dX2_skipsThird_50 (by decide) ?_
            exact r_zret h hQ hr (by decide) dX2_skipsThird_54 ⟨by decide, by decide⟩ ⟨_, rfl, rfl, d1, g17, fun y p1 p2 => ((k1 y (by omega)).trans (k10 y (by omega)))⟩
      · refine r_aload_n h 0 rfl rfl dX2_skipsThird_26 ?_
        obtain ⟨_, o22⟩ := d1.obj
        refine r_cV h k_X2_120 (i := 25) (As := []) (rest := []) (c_X2_nextDue h.i h.t d1 g17 (by rw [pPn_K, pPn_K]) (pPn_O t j).symm g16 (by rw [pPn_P t j (by omega), pPn_O]; omega)) (by omega) o22 rfl rfl rfl (Nat.le_of_ble_eq_true rfl) ⟨by decide, by decide, by decide, by decide⟩ dX2_skipsThird_27 (fun _ z => z.elim) (fun v26 c23 p27 => ?_)
        obtain ⟨r, rfl, rfl, d24, k25⟩ := p27
        have g28 := g16.mono (k25 (29) (by omega)) (k25 (29 + 1) (by omega))
        have g29 := g17.mono (k25 (26) (by omega)) (k25 (26 + 1) (by omega)) (k25 (26 + 2) (by omega))
        refine r_pop h rfl dX2_skipsThird_30 ?_
        refine r_iinc h 3 ([(3, .int (nI (j + 1))), (0, .ref (G.1 25)), (1, .int (nI m)), (2, .int (nI m))]) rfl (inc_1 (j)) dX2_skipsThird_31 (by decide) rfl ?_
        refine r_goto h 21 dX2_skipsThird_34 (by decide) ?_
        refine V_lv [1, 2, 3, 0] rfl ?_
        exact ih (j + 1) c23 (by omega) (by omega) d24 (fun y p => (k25 y p).trans (k1 y p))
  refine V_lv [3, 2, 1, 0] rfl ?_
  exact loop (m + 1) 0 c8 (by omega) (by omega) g13 (fun _ _ => rfl)
set_option maxRecDepth 100000 in
set_option maxHeartbeats 4000000 in
/-- X2_partIsDue -/
theorem c_X2_partIsDue {G : GG} {l : Launch} {c : CC} (hG : InjG G) (hl0 : l.stackTraces = false) {t : Stm} (u : Nat) (hd : Du G c t) (hs : StrAt G c 26 (pPn u t)) (hD : RowAt G c 29 (sO t)) (hp : RowAt G c 31 (((sO t).drop (sP t)).take u)) (hu : sP t + u ≤ (sO t).length) : MC G l yX2_partIsDue (.code yX2_partIsDue cX2_partIsDue 2 (some .boolean) :: gws) (rmF 2 0 0 47) [.ref (G.1 25)] c (pI (fun r c' => nI 1 = r ∧ Du G c' (pPn u t) ∧ ∀ y : Nat, y ≠ 25 → c' y = c y)) (pF) := by
  refine MC.of (by decide) hl0 hG (Nat.le_of_ble_eq_true rfl) (fun X hX h hN hQ hr => ?_)
  subst hX
  have hle : (sO t).length ≤ 240 := hD.le
  have hpl : (((sO t).drop (sP t)).take u).length = u := by rw [List.length_take, List.length_drop]; omega
  refine r_iconst h (v := nI 0) (by decide) dX2_partIsDue_0 ?_
  refine r_istore_n h ([(1, .int (nI 0)), (0, .ref (G.1 25))]) rfl dX2_partIsDue_1 (by decide) rfl ?_
  have loop : ∀ (q j : Nat) (c1 : CC), u + 1 ≤ j + q → j ≤ u → Du G c1 (pPn j t) → (∀ y : Nat, y ≠ 25 → c1 y = c y) → V G X c1 [(0, .ref (G.1 25)), (1, .int (nI j))] 0 0 2 [] := by
    intro q
    induction q with
    | zero => intro j c1 a1 a2; exact absurd a1 (by omega)
    | succ q ih =>
      intro j c1 a1 a2 d1 k1
      have g1 := hs.mono (k1 (26) (by omega)) (k1 (26 + 1) (by omega)) (k1 (26 + 2) (by omega))
      have g2 := hD.mono (k1 (29) (by omega)) (k1 (29 + 1) (by omega))
      have g3 := hp.mono (k1 (31) (by omega)) (k1 (31 + 1) (by omega))
      obtain ⟨tg4, h5, r6⟩ := id d1
      refine r_iload_n h 1 rfl rfl dX2_partIsDue_2 ?_
      refine r_aload_n h 0 rfl rfl dX2_partIsDue_3 ?_
      refine r_getf h F_X2_25 (i := 25) (by omega) h5 rfl dX2_partIsDue_4 ?_
      refine r_cV h k_X2_49 (i := 31) (As := []) (rest := [.int (nI j)]) (c_X0_size h.i h.t (by omega) g3) (by omega) g3.1 rfl rfl rfl (Nat.le_of_ble_eq_true rfl) ⟨by decide, by decide, by decide, by decide⟩ dX2_partIsDue_7 (fun _ z => z.elim) (fun v7 c8 p9 => ?_)
      obtain ⟨r, rfl, rfl, rfl⟩ := p9
      rw [hpl]
      refine rn_icmp_ge h (a := j) (b := u) (by omega) (by omega) 36 dX2_partIsDue_10 (by decide) (fun z => ?_) (fun z => ?_)
      · have hjm : j = u := by omega
        subst hjm
        refine r_aload_n h 0 rfl rfl dX2_partIsDue_36 ?_
        obtain ⟨_, o10⟩ := d1.obj
        refine r_cV h k_X2_90 (i := 25) (As := []) (rest := []) (c_X2_figuresAreDue h.i h.t d1 g1) (by omega) o10 rfl rfl rfl (Nat.le_of_ble_eq_true rfl) ⟨by decide, by decide, by decide, by decide⟩ dX2_partIsDue_37 (fun _ z => z.elim) (fun v11 c12 p13 => ?_)
        obtain ⟨r, rfl, rfl, rfl⟩ := p13
        exact r_zret h hQ hr (by decide) dX2_partIsDue_40 ⟨by decide, by decide⟩ ⟨_, rfl, rfl, d1, fun y p1 => (k1 y (by omega))⟩
      · refine r_aload_n h 0 rfl rfl dX2_partIsDue_13 ?_
        refine r_getf h F_X2_25 (i := 25) (by omega) h5 rfl dX2_partIsDue_14 ?_
        refine r_iload_n h 1 rfl rfl dX2_partIsDue_17 ?_
        refine r_cV h k_X2_71 (i := 31) (As := [.int (nI j)]) (rest := []) (c_X0_at h.i h.t (by omega) g3 (nI (j))) (by omega) g3.1 rfl rfl rfl (Nat.le_of_ble_eq_true rfl) ⟨by decide, by decide, by decide, by decide⟩ dX2_partIsDue_18 (fun _ z => z.elim) (fun v14 c15 p16 => ?_)
        obtain ⟨r, rfl, rfl, rfl⟩ := p16
        rw [atP_nI (show j < _ by rw [hpl]; exact z) (by omega)]
        have hx : (((sO t).drop (sP t)).take u).getD j 0 = nxA (pPn j t) := by rw [nx_at (by omega), List.getD_eq_getElem?_getD, List.getElem?_take_of_lt z, ← List.getD_eq_getElem?_getD, getD_drop]
        rw [hx]
        refine r_aload_n h 0 rfl rfl dX2_partIsDue_21 ?_
        obtain ⟨_, o17⟩ := d1.obj
        refine r_cV h k_X2_120 (i := 25) (As := []) (rest := [.int (nxA (pPn j t))]) (c_X2_nextDue h.i h.t d1 g1 (by rw [pPn_K, pPn_K]) (pPn_O t j).symm g2 (by rw [pPn_P t j (by omega), pPn_O]; omega)) (by omega) o17 rfl rfl rfl (Nat.le_of_ble_eq_true rfl) ⟨by decide, by decide, by decide, by decide⟩ dX2_partIsDue_22 (fun _ z => z.elim) (fun v21 c18 p22 => ?_)
        obtain ⟨r, rfl, rfl, d19, k20⟩ := p22
        have g23 := g1.mono (k20 (26) (by omega)) (k20 (26 + 1) (by omega)) (k20 (26 + 2) (by omega))
        have g24 := g2.mono (k20 (29) (by omega)) (k20 (29 + 1) (by omega))
        have g25 := g3.mono (k20 (31) (by omega)) (k20 (31 + 1) (by omega))
        refine r_icmp_eq h 30 dX2_partIsDue_25 (by decide) (fun v => ?_) (fun v => ?_)
        · refine r_iinc h 1 ([(1, .int (nI (j + 1))), (0, .ref (G.1 25))]) rfl (inc_1 (j)) dX2_partIsDue_30 (by decide) rfl ?_
          refine r_goto h 2 dX2_partIsDue_33 (by decide) ?_
          refine V_lv [1, 0] rfl ?_
          exact ih (j + 1) c18 (by omega) (by omega) d19 (fun y a => (k20 y a).trans (k1 y a))
        · exact absurd rfl v
  refine V_lv [1, 0] rfl ?_
  exact loop (u + 1) 0 c (by omega) (by omega) hd (fun _ _ => rfl)
set_option maxRecDepth 100000 in
set_option maxHeartbeats 4000000 in
/-- X2_holdsByBytes -/
theorem c_X2_holdsByBytes {G : GG} {l : Launch} {c : CC} (hG : InjG G) (hl0 : l.stackTraces = false) {D0 : List Int32} (hT : TrD G c D0) {a b : Nat} (ha : a + 1 < 25) (hb : b + 1 < 25) {A B : List Int32} (hA : RowAt G c a A) (hB : RowAt G c b B) (hba : allB A) (hbb : allB B) (hlen : A.length + B.length ≤ 240) (K : Int32) (hD0 : D0 = outK K A B)  : MC G l yX2_holdsByBytes (.code yX2_holdsByBytes cX2_holdsByBytes 4 (some .boolean) :: gws) (rmF 5 0 0 114) [.ref (G.1 25), .int K, .ref (G.1 a), .ref (G.1 b)] c (pI (fun r c' => nI 1 = r ∧ TrD G c' D0 ∧ ∀ y : Nat, y < 25 ∨ 33 ≤ y → c' y = c y)) (pF) := by
  refine MC.of (by decide) hl0 hG (Nat.le_of_ble_eq_true rfl) (fun X hX h hN hQ hr => ?_)
  subst hX
  obtain ⟨⟨pl, ln, tg, h25⟩, ⟨t, hs⟩, hD, Lp, hp⟩ := id hT
  subst hD0
  have hle : (outK K A B).length ≤ 240 := hD.le
  refine r_aload_n h 0 rfl rfl dX2_holdsByBytes_0 ?_
  refine r_iload_n h 1 rfl rfl dX2_holdsByBytes_1 ?_
  refine r_aload_n h 2 rfl rfl dX2_holdsByBytes_2 ?_
  refine r_aload_n h 3 rfl rfl dX2_holdsByBytes_3 ?_
  refine r_cV h k_X2_75 (i := 25) (As := [.int K, .ref (G.1 a), .ref (G.1 b)]) (rest := []) (c_X2_start h.i h.t h25 hs ha hb hA hB hba hbb hlen K) (by omega) h25 rfl rfl rfl (Nat.le_of_ble_eq_true rfl) ⟨by decide, by decide, by decide, by decide⟩ dX2_holdsByBytes_4 (fun _ z => z.elim) (fun v5 c1 p6 => ?_)
  obtain ⟨rfl, d2, w3, k4⟩ := p6
  have g7 := hA.mono (k4 (a) (by omega) (by omega) (by omega) (by omega)) (k4 (a + 1) (by omega) (by omega) (by omega) (by omega))
  have g8 := hB.mono (k4 (b) (by omega) (by omega) (by omega) (by omega)) (k4 (b + 1) (by omega) (by omega) (by omega) (by omega))
  have g9 := hD.mono (k4 (29) (by omega) (by omega) (by omega) (by omega)) (k4 (29 + 1) (by omega) (by omega) (by omega) (by omega))
  have g10 := hp.mono (k4 (31) (by omega) (by omega) (by omega) (by omega)) (k4 (31 + 1) (by omega) (by omega) (by omega) (by omega))
  refine r_aload_n h 0 rfl rfl dX2_holdsByBytes_7 ?_
  obtain ⟨_, o11⟩ := d2.obj
  refine r_cV h k_X2_78 (i := 25) (As := []) (rest := []) (c_X2_readsRest h.i h.t d2 w3 g9) (by omega) o11 rfl rfl rfl (Nat.le_of_ble_eq_true rfl) ⟨by decide, by decide, by decide, by decide⟩ dX2_holdsByBytes_8 (fun _ z => z.elim) (fun v16 c12 p17 => ?_)
  obtain ⟨r, rfl, rfl, d13, w14, k15⟩ := p17
  have g18 := g7.mono (k15 (a) (by omega) (by omega)) (k15 (a + 1) (by omega) (by omega))
  have g19 := g8.mono (k15 (b) (by omega) (by omega)) (k15 (b + 1) (by omega) (by omega))
  have g20 := g9.mono (k15 (29) (by omega) (by omega)) (k15 (29 + 1) (by omega) (by omega))
  have g21 := g10.mono (k15 (31) (by omega) (by omega)) (k15 (31 + 1) (by omega) (by omega))
  exact r_zret h hQ hr (by decide) dX2_holdsByBytes_11 ⟨by decide, by decide⟩ ⟨_, rfl, rfl, TrD.of d13 w14 g20 g21, fun y p1 => ((k15 y (by omega) (by omega)).trans (k4 y (by omega) (by omega) (by omega) (by omega)))⟩
set_option maxRecDepth 100000 in
set_option maxHeartbeats 4000000 in
/-- X2_holdsBehindSkip -/
theorem c_X2_holdsBehindSkip {G : GG} {l : Launch} {c : CC} (hG : InjG G) (hl0 : l.stackTraces = false) {D0 : List Int32} (hT : TrD G c D0) {a b : Nat} (ha : a + 1 < 25) (hb : b + 1 < 25) {A B : List Int32} (hA : RowAt G c a A) (hB : RowAt G c b B) (hba : allB A) (hbb : allB B) (hlen : A.length + B.length ≤ 240) (K : Int32) (hD0 : D0 = outK K A B)  : MC G l yX2_holdsBehindSkip (.code yX2_holdsBehindSkip cX2_holdsBehindSkip 4 (some .boolean) :: gws) (rmF 5 0 0 114) [.ref (G.1 25), .int K, .ref (G.1 a), .ref (G.1 b)] c (pI (fun r c' => nI 1 = r ∧ TrD G c' D0 ∧ ∀ y : Nat, y < 25 ∨ 33 ≤ y → c' y = c y)) (pF) := by
  refine MC.of (by decide) hl0 hG (Nat.le_of_ble_eq_true rfl) (fun X hX h hN hQ hr => ?_)
  subst hX
  obtain ⟨⟨pl, ln, tg, h25⟩, ⟨t, hs⟩, hD, Lp, hp⟩ := id hT
  subst hD0
  have hle : (outK K A B).length ≤ 240 := hD.le
  refine r_aload_n h 0 rfl rfl dX2_holdsBehindSkip_0 ?_
  refine r_iload_n h 1 rfl rfl dX2_holdsBehindSkip_1 ?_
  refine r_aload_n h 2 rfl rfl dX2_holdsBehindSkip_2 ?_
  refine r_aload_n h 3 rfl rfl dX2_holdsBehindSkip_3 ?_
  refine r_cV h k_X2_75 (i := 25) (As := [.int K, .ref (G.1 a), .ref (G.1 b)]) (rest := []) (c_X2_start h.i h.t h25 hs ha hb hA hB hba hbb hlen K) (by omega) h25 rfl rfl rfl (Nat.le_of_ble_eq_true rfl) ⟨by decide, by decide, by decide, by decide⟩ dX2_holdsBehindSkip_4 (fun _ z => z.elim) (fun v5 c1 p6 => ?_)
  obtain ⟨rfl, d2, w3, k4⟩ := p6
  have g7 := hA.mono (k4 (a) (by omega) (by omega) (by omega) (by omega)) (k4 (a + 1) (by omega) (by omega) (by omega) (by omega))
  have g8 := hB.mono (k4 (b) (by omega) (by omega) (by omega) (by omega)) (k4 (b + 1) (by omega) (by omega) (by omega) (by omega))
  have g9 := hD.mono (k4 (29) (by omega) (by omega) (by omega) (by omega)) (k4 (29 + 1) (by omega) (by omega) (by omega) (by omega))
  have g10 := hp.mono (k4 (31) (by omega) (by omega) (by omega) (by omega)) (k4 (31 + 1) (by omega) (by omega) (by omega) (by omega))
  refine r_aload_n h 0 rfl rfl dX2_holdsBehindSkip_7 ?_
  obtain ⟨_, o11⟩ := d2.obj
  refine r_cV h k_X2_96 (i := 25) (As := []) (rest := []) (c_X2_skipsThird h.i h.t d2 w3 g9 rfl) (by omega) o11 rfl rfl rfl (Nat.le_of_ble_eq_true rfl) ⟨by decide, by decide, by decide, by decide⟩ dX2_holdsBehindSkip_8 (fun _ z => z.elim) (fun v16 c12 p17 => ?_)
  obtain ⟨r, rfl, rfl, d13, w14, k15⟩ := p17
  have g18 := g7.mono (k15 (a) (by omega) (by omega)) (k15 (a + 1) (by omega) (by omega))
  have g19 := g8.mono (k15 (b) (by omega) (by omega)) (k15 (b + 1) (by omega) (by omega))
  have g20 := g9.mono (k15 (29) (by omega) (by omega)) (k15 (29 + 1) (by omega) (by omega))
  have g21 := g10.mono (k15 (31) (by omega) (by omega)) (k15 (31 + 1) (by omega) (by omega))
  refine rn_if_eq h (a := 1) (by omega) 25 dX2_holdsBehindSkip_11 (by decide) (fun u1 => ?_) (fun u1 => ?_)
  · exact absurd u1 (by decide)
  · refine r_aload_n h 0 rfl rfl dX2_holdsBehindSkip_14 ?_
    have e22 : RowAt G c12 29 (sO (pPn ((outK K A B).length / 3) (pOp K A B))) := by rw [show sO (pPn ((outK K A B).length / 3) (pOp K A B)) = outK K A B from (pPn_O (pOp K A B) _).trans rfl]; exact g20
    obtain ⟨_, o23⟩ := d13.obj
    refine r_cV h k_X2_78 (i := 25) (As := []) (rest := []) (c_X2_readsRest h.i h.t d13 w14 e22) (by omega) o23 rfl rfl rfl (Nat.le_of_ble_eq_true rfl) ⟨by decide, by decide, by decide, by decide⟩ dX2_holdsBehindSkip_15 (fun _ z => z.elim) (fun v28 c24 p29 => ?_)
    obtain ⟨r, rfl, rfl, d25, w26, k27⟩ := p29
    have g30 := g18.mono (k27 (a) (by omega) (by omega)) (k27 (a + 1) (by omega) (by omega))
    have g31 := g19.mono (k27 (b) (by omega) (by omega)) (k27 (b + 1) (by omega) (by omega))
    have g32 := e22.mono (k27 (29) (by omega) (by omega)) (k27 (29 + 1) (by omega) (by omega))
    have g33 := g21.mono (k27 (31) (by omega) (by omega)) (k27 (31 + 1) (by omega) (by omega))
    have e34 : RowAt G c24 29 (outK K A B) := by rw [← show sO (pPn ((outK K A B).length / 3) (pOp K A B)) = outK K A B from (pPn_O (pOp K A B) _).trans rfl]; exact g32
    refine rn_if_eq h (a := 1) (by omega) 25 dX2_holdsBehindSkip_18 (by decide) (fun u1 => ?_) (fun u1 => ?_)
    · exact absurd u1 (by decide)
    · refine r_iconst h (v := nI 1) (by decide) dX2_holdsBehindSkip_21 ?_
      refine r_goto h 26 dX2_holdsBehindSkip_22 (by decide) ?_
      exact r_zret h hQ hr (by decide) dX2_holdsBehindSkip_26 ⟨by decide, by decide⟩ ⟨_, rfl, rfl, TrD.of d25 w26 e34 g33, fun y p1 => (((k27 y (by omega) (by omega)).trans (k15 y (by omega) (by omega))).trans (k4 y (by omega) (by omega) (by omega) (by omega)))⟩
set_option maxRecDepth 100000 in
set_option maxHeartbeats 4000000 in
/-- X2_holdsInParts -/
theorem c_X2_holdsInParts {G : GG} {l : Launch} {c : CC} (hG : InjG G) (hl0 : l.stackTraces = false) {D0 : List Int32} (hT : TrD G c D0) {a b : Nat} (ha : a + 1 < 25) (hb : b + 1 < 25) {A B : List Int32} (hA : RowAt G c a A) (hB : RowAt G c b B) (hba : allB A) (hbb : allB B) (hlen : A.length + B.length ≤ 240) (K : Int32) (hD0 : D0 = outK K A B)  : MC G l yX2_holdsInParts (.code yX2_holdsInParts cX2_holdsInParts 5 (some .boolean) :: gws) (rmF 5 0 0 114) [.ref (G.1 25), .int K, .ref (G.1 a), .ref (G.1 b)] c (pI (fun r c' => nI 1 = r ∧ TrD G c' D0 ∧ ∀ y : Nat, y < 25 ∨ 33 ≤ y → c' y = c y)) (pF) := by
  refine MC.of (by decide) hl0 hG (Nat.le_of_ble_eq_true rfl) (fun X hX h hN hQ hr => ?_)
  subst hX
  obtain ⟨⟨pl, ln, tg, h25⟩, ⟨t, hs⟩, hD, Lp, hp⟩ := id hT
  subst hD0
  have hle : (outK K A B).length ≤ 240 := hD.le
  refine r_aload_n h 0 rfl rfl dX2_holdsInParts_0 ?_
  refine r_iload_n h 1 rfl rfl dX2_holdsInParts_1 ?_
  refine r_aload_n h 2 rfl rfl dX2_holdsInParts_2 ?_
  refine r_aload_n h 3 rfl rfl dX2_holdsInParts_3 ?_
  refine r_cV h k_X2_75 (i := 25) (As := [.int K, .ref (G.1 a), .ref (G.1 b)]) (rest := []) (c_X2_start h.i h.t h25 hs ha hb hA hB hba hbb hlen K) (by omega) h25 rfl rfl rfl (Nat.le_of_ble_eq_true rfl) ⟨by decide, by decide, by decide, by decide⟩ dX2_holdsInParts_4 (fun _ z => z.elim) (fun v5 c1 p6 => ?_)
  obtain ⟨rfl, d2, w3, k4⟩ := p6
  have g7 := hA.mono (k4 (a) (by omega) (by omega) (by omega) (by omega)) (k4 (a + 1) (by omega) (by omega) (by omega) (by omega))
  have g8 := hB.mono (k4 (b) (by omega) (by omega) (by omega) (by omega)) (k4 (b + 1) (by omega) (by omega) (by omega) (by omega))
  have g9 := hD.mono (k4 (29) (by omega) (by omega) (by omega) (by omega)) (k4 (29 + 1) (by omega) (by omega) (by omega) (by omega))
  have g10 := hp.mono (k4 (31) (by omega) (by omega) (by omega) (by omega)) (k4 (31 + 1) (by omega) (by omega) (by omega) (by omega))
  refine r_iconst h (v := nI 0) (by decide) dX2_holdsInParts_7 ?_
  refine r_istore h ([(4, .int (nI 0)), (0, .ref (G.1 25)), (1, .int K), (2, .ref (G.1 a)), (3, .ref (G.1 b))]) dX2_holdsInParts_8 (by decide) rfl ?_
  have loop : ∀ (q j : Nat) (c1 : CC) (u : Stm) (L1 : List Int32), 242 ≤ j + q → j ≤ sP u → sO u = outK K A B → Du G c1 u → StrAt G c1 26 u → RowAt G c1 29 (sO u) → RowAt G c1 31 L1 → (∀ y : Nat, y < 25 ∨ 33 ≤ y → c1 y = c y) → V G X c1 [(0, .ref (G.1 25)), (4, .int (nI j))] 0 0 10 [] := by
    intro q
    induction q with
    | zero => intro j c1 u L1 a1 a2 a3 d1 s1; have := s1.1.1; rw [a3] at this; exact absurd a1 (by omega)
    | succ q ih =>
      intro j c1 u L1 a1 a2 a3 d1 s1 r1 p1 k1
      have hPu := s1.1.1
      have hlu : (sO u).length ≤ 240 := by rw [a3]; exact hle
      obtain ⟨tg11, h12, r13⟩ := id d1
      refine r_iload h 1 rfl dX2_holdsInParts_10 ?_
      refine r_sipush h (v := nI 240) (by decide) dX2_holdsInParts_12 ?_
      refine rn_icmp_gt h (a := j) (b := 240) (by omega) (by omega) 76 dX2_holdsInParts_15 (by decide) (fun z => ?_) (fun z => ?_)
      · exact absurd z (by omega)
      · refine r_aload_n h 0 rfl rfl dX2_holdsInParts_18 ?_
        refine r_getf h F_X2_12 (i := 25) (by omega) h12 rfl dX2_holdsInParts_19 ?_
        refine r_iconst h (v := nI 3) (by decide) dX2_holdsInParts_22 ?_
        refine r_aload_n h 0 rfl rfl dX2_holdsInParts_23 ?_
        refine r_getf h F_X2_25 (i := 25) (by omega) h12 rfl dX2_holdsInParts_24 ?_
        obtain ⟨_, o14⟩ := s1.obj
        refine r_cV h k_X2_82 (i := 26) (As := [.int (nI 3), .ref (G.1 31)]) (rest := []) (c_X1_takePart h.i h.t (by omega) s1 3 (by omega) (k := 31) (by omega) p1 (by omega)) (by omega) o14 rfl rfl rfl (Nat.le_of_ble_eq_true rfl) ⟨by decide, by decide, by decide, by decide⟩ dX2_holdsInParts_27 (fun _ z => z.elim) (fun v19 c15 p20 => ?_)
        obtain ⟨r, rfl, w16, w17, hr3, k18⟩ := p20
        have g21 := d1.mono (k18 25 (by omega) (by omega) (by omega))
        have g22 := r1.mono (k18 (29) (by omega) (by omega) (by omega)) (k18 (29 + 1) (by omega) (by omega) (by omega))
        have g23 := (k18 (25) (by omega) (by omega) (by omega)).trans h12
        have hle3 := pTk_le (n := 3) s1.1
        refine r_iconst h (v := -1) (by decide) dX2_holdsInParts_30 ?_
        refine r_icmp_ne h 61 dX2_holdsInParts_31 (by decide) (fun v => ?_) (fun v => ?_)
        · have h0 : ¬ pTk 3 u = 0 := fun z3 => v (by rw [if_pos z3] at hr3; exact hr3.symm)
          rw [if_neg h0] at w17
          refine r_aload_n h 0 rfl rfl dX2_holdsInParts_61 ?_
          obtain ⟨_, o31⟩ := g21.obj
          refine r_cV h k_X2_93 (i := 25) (As := []) (rest := []) (c_X2_partIsDue h.i h.t (pTk 3 u) g21 w16 g22 w17 hle3) (by omega) o31 rfl rfl rfl (Nat.le_of_ble_eq_true rfl) ⟨by decide, by decide, by decide, by decide⟩ dX2_holdsInParts_62 (fun _ z => z.elim) (fun v35 c32 p36 => ?_)
          obtain ⟨r, rfl, rfl, d33, k34⟩ := p36
          have g37 := g22.mono (k34 (29) (by omega)) (k34 (29 + 1) (by omega))
          have g38 := w16.mono (k34 (26) (by omega)) (k34 (26 + 1) (by omega)) (k34 (26 + 2) (by omega))
          have g39 := w17.mono (k34 (31) (by omega)) (k34 (31 + 1) (by omega))
          refine rn_if_ne h (a := 1) (by omega) 70 dX2_holdsInParts_65 (by decide) (fun u1 => ?_) (fun u1 => ?_)
          · refine r_iinc h 1 ([(4, .int (nI (j + 1))), (0, .ref (G.1 25))]) rfl (inc_1 (j)) dX2_holdsInParts_70 (by decide) rfl ?_
            refine r_goto h 10 dX2_holdsInParts_73 (by decide) ?_
            have e29 : RowAt G c32 29 (sO (pPn (pTk 3 u) u)) := by rw [pPn_O]; exact g37
            refine V_lv [1, 0] rfl ?_
            exact ih (j + 1) c32 (pPn (pTk 3 u) u) _ (by omega) (by rw [pPn_P u _ hle3]; omega) (by rw [pPn_O, a3]) d33 g38 e29 g39 (fun y p1 => (((k34 y (by omega)).trans (k18 y (by omega) (by omega) (by omega))).trans (k1 y (by omega))))
          · exact absurd u1 (by decide)
        · have h0 : pTk 3 u = 0 := Classical.byContradiction (fun z3 => by rw [if_neg z3] at hr3; exact nI_m1 (by omega) (hr3.trans v))
          have hend := pTk_0 (by omega) h0 s1.1
          rw [h0] at w16
          rw [if_pos h0] at w17
          refine r_aload_n h 0 rfl rfl dX2_holdsInParts_34 ?_
          refine r_getf h F_X2_86 (i := 25) (by omega) g23 rfl dX2_holdsInParts_35 ?_
          refine r_aload_n h 0 rfl rfl dX2_holdsInParts_38 ?_
          refine r_getf h F_X2_21 (i := 25) (by omega) g23 rfl dX2_holdsInParts_39 ?_
          refine r_cV h k_X2_49 (i := 29) (As := []) (rest := [.int (nI (sP u))]) (c_X0_size h.i h.t (by omega) g22) (by omega) g22.1 rfl rfl rfl (Nat.le_of_ble_eq_true rfl) ⟨by decide, by decide, by decide, by decide⟩ dX2_holdsInParts_42 (fun _ z => z.elim) (fun v24 c25 p26 => ?_)
          obtain ⟨r, rfl, rfl, rfl⟩ := p26
          refine rn_icmp_ne h (a := sP u) (b := (sO u).length) (by omega) (by omega) 59 dX2_holdsInParts_45 (by decide) (fun u2 => ?_) (fun u2 => ?_)
          · exact absurd u2 (by omega)
          · refine r_aload_n h 0 rfl rfl dX2_holdsInParts_48 ?_
            obtain ⟨_, o27⟩ := g21.obj
            refine r_cV h k_X2_90 (i := 25) (As := []) (rest := []) (c_X2_figuresAreDue h.i h.t g21 w16) (by omega) o27 rfl rfl rfl (Nat.le_of_ble_eq_true rfl) ⟨by decide, by decide, by decide, by decide⟩ dX2_holdsInParts_49 (fun _ z => z.elim) (fun v28 c29 p30 => ?_)
            obtain ⟨r, rfl, rfl, rfl⟩ := p30
            refine rn_if_eq h (a := 1) (by omega) 59 dX2_holdsInParts_52 (by decide) (fun u1 => ?_) (fun u1 => ?_)
            · exact absurd u1 (by decide)
            · refine r_iconst h (v := nI 1) (by decide) dX2_holdsInParts_55 ?_
              refine r_goto h 60 dX2_holdsInParts_56 (by decide) ?_
              have e29 := g22
              rw [a3] at e29
              exact r_zret h hQ hr (by decide) dX2_holdsInParts_60 ⟨by decide, by decide⟩ ⟨_, rfl, rfl, TrD.of g21 w16 e29 w17, fun y p1 => ((k18 y (by omega) (by omega) (by omega)).trans (k1 y (by omega)))⟩
  refine V_lv [1, 0] rfl ?_
  exact loop 242 0 c1 (pOp K A B) Lp (by omega) (Nat.zero_le _) rfl d2 w3 g9 g10 (fun y p1 => (k4 y (by omega) (by omega) (by omega) (by omega)))
set_option maxRecDepth 100000 in
set_option maxHeartbeats 4000000 in
/-- X2_holdsBroughtBack -/
theorem c_X2_holdsBroughtBack {G : GG} {l : Launch} {c : CC} (hG : InjG G) (hl0 : l.stackTraces = false) {D0 : List Int32} (hT : TrD G c D0) {a b : Nat} (ha : a + 1 < 25) (hb : b + 1 < 25) {A B : List Int32} (hA : RowAt G c a A) (hB : RowAt G c b B) (hba : allB A) (hbb : allB B) (hlen : A.length + B.length ≤ 240) (K : Int32) (hD0 : D0 = outK K A B) (hKn : ¬ K = -1)  : MC G l yX2_holdsBroughtBack (.code yX2_holdsBroughtBack cX2_holdsBroughtBack 6 (some .boolean) :: gws) (rmF 5 0 0 114) [.ref (G.1 25), .int K, .ref (G.1 a), .ref (G.1 b)] c (pI (fun r c' => nI 1 = r ∧ TrD G c' D0 ∧ ∀ y : Nat, y < 25 ∨ 33 ≤ y → c' y = c y)) (pF) := by
  refine MC.of (by decide) hl0 hG (Nat.le_of_ble_eq_true rfl) (fun X hX h hN hQ hr => ?_)
  subst hX
  obtain ⟨⟨pl, ln, tg, h25⟩, ⟨t, hs⟩, hD, Lp, hp⟩ := id hT
  subst hD0
  have hle : (outK K A B).length ≤ 240 := hD.le
  refine r_aload_n h 0 rfl rfl dX2_holdsBroughtBack_0 ?_
  refine r_iload_n h 1 rfl rfl dX2_holdsBroughtBack_1 ?_
  refine r_aload_n h 2 rfl rfl dX2_holdsBroughtBack_2 ?_
  refine r_aload_n h 3 rfl rfl dX2_holdsBroughtBack_3 ?_
  refine r_cV h k_X2_75 (i := 25) (As := [.int K, .ref (G.1 a), .ref (G.1 b)]) (rest := []) (c_X2_start h.i h.t h25 hs ha hb hA hB hba hbb hlen K) (by omega) h25 rfl rfl rfl (Nat.le_of_ble_eq_true rfl) ⟨by decide, by decide, by decide, by decide⟩ dX2_holdsBroughtBack_4 (fun _ z => z.elim) (fun v5 c1 p6 => ?_)
  obtain ⟨rfl, d2, w3, k4⟩ := p6
  have g7 := hA.mono (k4 (a) (by omega) (by omega) (by omega) (by omega)) (k4 (a + 1) (by omega) (by omega) (by omega) (by omega))
  have g8 := hB.mono (k4 (b) (by omega) (by omega) (by omega) (by omega)) (k4 (b + 1) (by omega) (by omega) (by omega) (by omega))
  have g9 := hD.mono (k4 (29) (by omega) (by omega) (by omega) (by omega)) (k4 (29 + 1) (by omega) (by omega) (by omega) (by omega))
  have g10 := hp.mono (k4 (31) (by omega) (by omega) (by omega) (by omega)) (k4 (31 + 1) (by omega) (by omega) (by omega) (by omega))
  have hK1 : ¬ K = -1 := hKn
  refine r_aload_n h 0 rfl rfl dX2_holdsBroughtBack_7 ?_
  obtain ⟨_, o11⟩ := d2.obj
  refine r_cV h k_X2_96 (i := 25) (As := []) (rest := []) (c_X2_skipsThird h.i h.t d2 w3 g9 rfl) (by omega) o11 rfl rfl rfl (Nat.le_of_ble_eq_true rfl) ⟨by decide, by decide, by decide, by decide⟩ dX2_holdsBroughtBack_8 (fun _ z => z.elim) (fun v16 c12 p17 => ?_)
  obtain ⟨r, rfl, rfl, d13, w14, k15⟩ := p17
  have g18 := g7.mono (k15 (a) (by omega) (by omega)) (k15 (a + 1) (by omega) (by omega))
  have g19 := g8.mono (k15 (b) (by omega) (by omega)) (k15 (b + 1) (by omega) (by omega))
  have g20 := g9.mono (k15 (29) (by omega) (by omega)) (k15 (29 + 1) (by omega) (by omega))
  have g21 := g10.mono (k15 (31) (by omega) (by omega)) (k15 (31 + 1) (by omega) (by omega))
  refine rn_if_ne h (a := 1) (by omega) 16 dX2_holdsBroughtBack_11 (by decide) (fun u1 => ?_) (fun u1 => ?_)
  · obtain ⟨t3, ht3⟩ : ∃ t3, t3 = pPn ((sO (pOp K A B)).length / 3) (pOp K A B) := ⟨_, rfl⟩
    have hO3 : sO t3 = outK K A B := by rw [ht3, pPn_O]; rfl
    have hK3 : sK t3 = K := by rw [ht3, pPn_K]; rfl
    rw [← ht3] at d13 w14
    obtain ⟨tg22, h23, r24⟩ := id d13
    refine r_aload_n h 0 rfl rfl dX2_holdsBroughtBack_16 ?_
    refine r_getf h F_X2_86 (i := 25) (by omega) h23 rfl dX2_holdsBroughtBack_17 ?_
    refine r_istore h ([(4, .int (nI (sP t3))), (0, .ref (G.1 25)), (1, .int K), (2, .ref (G.1 a)), (3, .ref (G.1 b))]) dX2_holdsBroughtBack_20 (by decide) rfl ?_
    refine r_aload_n h 1 rfl rfl dX2_holdsBroughtBack_22 ?_
    refine r_getf h F_X2_99 (i := 25) (by omega) h23 rfl dX2_holdsBroughtBack_23 ?_
    refine r_istore h ([(5, .int (sN t3)), (4, .int (nI (sP t3))), (0, .ref (G.1 25)), (1, .int K), (2, .ref (G.1 a)), (3, .ref (G.1 b))]) dX2_holdsBroughtBack_26 (by decide) rfl ?_
    refine r_aload_n h 2 rfl rfl dX2_holdsBroughtBack_28 ?_
    refine r_getf h F_X2_12 (i := 25) (by omega) h23 rfl dX2_holdsBroughtBack_29 ?_
    obtain ⟨_, o25⟩ := w14.obj
    refine r_cV h k_X2_102 (i := 26) (As := []) (rest := []) (c_X1_setMark h.i h.t (by omega) w14) (by omega) o25 rfl rfl rfl (Nat.le_of_ble_eq_true rfl) ⟨by decide, by decide, by decide, by decide⟩ dX2_holdsBroughtBack_32 (fun _ z => z.elim) (fun v29 c26 p30 => ?_)
    obtain ⟨rfl, w27, k28⟩ := p30
    have g31 := g18.mono (k28 (a) (by omega)) (k28 (a + 1) (by omega))
    have g32 := g19.mono (k28 (b) (by omega)) (k28 (b + 1) (by omega))
    have g33 := g20.mono (k28 (29) (by omega)) (k28 (29 + 1) (by omega))
    have g34 := g21.mono (k28 (31) (by omega)) (k28 (31 + 1) (by omega))
    have g35 := d13.mono (k28 25 (by omega))
    have g36 := (k28 (25) (by omega)).trans h23
    have d3 : Du G c26 (pMk t3) := g35
    refine r_aload_n h 2 rfl rfl dX2_holdsBroughtBack_35 ?_
    have e37 : RowAt G c26 29 (sO (pMk t3)) := by rw [show sO (pMk t3) = outK K A B from hO3]; exact g33
    obtain ⟨_, o38⟩ := d3.obj
    refine r_cV h k_X2_78 (i := 25) (As := []) (rest := []) (c_X2_readsRest h.i h.t d3 w27 e37) (by omega) o38 rfl rfl rfl (Nat.le_of_ble_eq_true rfl) ⟨by decide, by decide, by decide, by decide⟩ dX2_holdsBroughtBack_36 (fun _ z => z.elim) (fun v43 c39 p44 => ?_)
    obtain ⟨r, rfl, rfl, d40, w41, k42⟩ := p44
    have g45 := g31.mono (k42 (a) (by omega) (by omega)) (k42 (a + 1) (by omega) (by omega))
    have g46 := g32.mono (k42 (b) (by omega) (by omega)) (k42 (b + 1) (by omega) (by omega))
    have g47 := e37.mono (k42 (29) (by omega) (by omega)) (k42 (29 + 1) (by omega) (by omega))
    have g48 := g34.mono (k42 (31) (by omega) (by omega)) (k42 (31 + 1) (by omega) (by omega))
    have e49 : RowAt G c39 29 (outK K A B) := by rw [← show sO (pMk t3) = outK K A B from hO3]; exact g47
    refine rn_if_ne h (a := 1) (by omega) 44 dX2_holdsBroughtBack_39 (by decide) (fun u1 => ?_) (fun u1 => ?_)
    · obtain ⟨tg50, h51, r52⟩ := id d40
      refine r_aload_n h 2 rfl rfl dX2_holdsBroughtBack_44 ?_
      refine r_getf h F_X2_12 (i := 25) (by omega) h51 rfl dX2_holdsBroughtBack_45 ?_
      obtain ⟨tE, htE⟩ : ∃ tE, tE = pPn ((sO (pMk t3)).length - sP (pMk t3)) (pMk t3) := ⟨_, rfl⟩
      rw [← htE] at d40 w41
      have hXE : sX tE = some (sP t3, sN t3) := by rw [htE, pPn_X]; rfl
      have hOE : sO tE = outK K A B := by rw [htE, pPn_O]; exact hO3
      have hKE : sK tE = K := by rw [htE, pPn_K]; exact hK3
      have hBE : pBp tE = some (sP t3, sN t3) := by unfold pBp; rw [hXE]
      obtain ⟨tg53, h54, r55⟩ := id d40
      obtain ⟨_, o56⟩ := w41.obj
      refine r_cV h k_X2_105 (i := 26) (As := []) (rest := []) (c_X1_goBack h.i h.t (by omega) w41 (sP t3) (sN t3) hBE (by rw [hKE]; exact hK1)) (by omega) o56 rfl rfl rfl (Nat.le_of_ble_eq_true rfl) ⟨by decide, by decide, by decide, by decide⟩ dX2_holdsBroughtBack_48 (fun _ z => z.elim) (fun v60 c57 p61 => ?_)
      obtain ⟨rfl, w58, k59⟩ := p61
      have g62 := g45.mono (k59 (a) (by omega)) (k59 (a + 1) (by omega))
      have g63 := g46.mono (k59 (b) (by omega)) (k59 (b + 1) (by omega))
      have g64 := e49.mono (k59 (29) (by omega)) (k59 (29 + 1) (by omega))
      have g65 := g48.mono (k59 (31) (by omega)) (k59 (31 + 1) (by omega))
      have g66 := d40.mono (k59 25 (by omega))
      have g67 := (k59 (25) (by omega)).trans h54
      refine r_aload_n h 2 rfl rfl dX2_holdsBroughtBack_51 ?_
      refine r_iload h 1 rfl dX2_holdsBroughtBack_52 ?_
      refine r_putf h F_X2_86 ft_X2 (i := 25) (by omega) g67 ([.ref (G.1 26), .ref (G.1 29), .ref (G.1 31), .int (nI (sP t3)), .int (sN tE), .long (tg53)]) rfl rfl rfl rfl (Nat.le_of_ble_eq_true rfl) dX2_holdsBroughtBack_54 (fun c68 h69 k70 => ?_)
      have g71 := g62.mono (k70 (a) (by omega)) (k70 (a + 1) (by omega))
      have g72 := g63.mono (k70 (b) (by omega)) (k70 (b + 1) (by omega))
      have g73 := g64.mono (k70 (29) (by omega)) (k70 (29 + 1) (by omega))
      have g74 := g65.mono (k70 (31) (by omega)) (k70 (31 + 1) (by omega))
      have g75 := w58.mono (k70 (26) (by omega)) (k70 (26 + 1) (by omega)) (k70 (26 + 2) (by omega))
      refine r_aload_n h 2 rfl rfl dX2_holdsBroughtBack_57 ?_
      refine r_iload h 0 rfl dX2_holdsBroughtBack_58 ?_
      refine r_putf h F_X2_99 ft_X2 (i := 25) (by omega) h69 ([.ref (G.1 26), .ref (G.1 29), .ref (G.1 31), .int (nI (sP t3)), .int (sN t3), .long (tg53)]) rfl rfl rfl rfl (Nat.le_of_ble_eq_true rfl) dX2_holdsBroughtBack_60 (fun c76 h77 k78 => ?_)
      have g79 := g71.mono (k78 (a) (by omega)) (k78 (a + 1) (by omega))
      have g80 := g72.mono (k78 (b) (by omega)) (k78 (b + 1) (by omega))
      have g81 := g73.mono (k78 (29) (by omega)) (k78 (29 + 1) (by omega))
      have g82 := g74.mono (k78 (31) (by omega)) (k78 (31 + 1) (by omega))
      have g83 := g75.mono (k78 (26) (by omega)) (k78 (26 + 1) (by omega)) (k78 (26 + 2) (by omega))
      refine r_aload_n h 2 rfl rfl dX2_holdsBroughtBack_63 ?_
      have d5 : Du G c76 (sK tE, sO tE, sM tE, sP t3, sN t3, sG tE, sX tE) := ⟨_, h77, r55⟩
      have e84 : RowAt G c76 29 (sO ((sK tE, sO tE, sM tE, sP t3, sN t3, sG tE, sX tE))) := by rw [show sO ((sK tE, sO tE, sM tE, sP t3, sN t3, sG tE, sX tE)) = outK K A B from hOE]; exact g81
      obtain ⟨_, o85⟩ := d5.obj
      refine r_cV h k_X2_78 (i := 25) (As := []) (rest := []) (c_X2_readsRest h.i h.t d5 g83 e84) (by omega) o85 rfl rfl rfl (Nat.le_of_ble_eq_true rfl) ⟨by decide, by decide, by decide, by decide⟩ dX2_holdsBroughtBack_64 (fun _ z => z.elim) (fun v90 c86 p91 => ?_)
      obtain ⟨r, rfl, rfl, d87, w88, k89⟩ := p91
      have g92 := g79.mono (k89 (a) (by omega) (by omega)) (k89 (a + 1) (by omega) (by omega))
      have g93 := g80.mono (k89 (b) (by omega) (by omega)) (k89 (b + 1) (by omega) (by omega))
      have g94 := e84.mono (k89 (29) (by omega) (by omega)) (k89 (29 + 1) (by omega) (by omega))
      have g95 := g82.mono (k89 (31) (by omega) (by omega)) (k89 (31 + 1) (by omega) (by omega))
      have e96 : RowAt G c86 29 (outK K A B) := by rw [← show sO ((sK tE, sO tE, sM tE, sP t3, sN t3, sG tE, sX tE)) = outK K A B from hOE]; exact g94
      exact r_zret h hQ hr (by decide) dX2_holdsBroughtBack_67 ⟨by decide, by decide⟩ ⟨_, rfl, rfl, TrD.of d87 w88 e96 g95, fun y p1 => ((((((((k89 y (by omega) (by omega)).trans (k78 y (by omega))).trans (k70 y (by omega))).trans (k59 y (by omega))).trans (k42 y (by omega) (by omega))).trans (k28 y (by omega))).trans (k15 y (by omega) (by omega))).trans (k4 y (by omega) (by omega) (by omega) (by omega)))⟩
    · exact absurd u1 (by decide)
  · exact absurd u1 (by decide)
set_option maxRecDepth 100000 in
set_option maxHeartbeats 4000000 in
/-- X2_holds -/
theorem c_X2_holds {G : GG} {l : Launch} {c : CC} (hG : InjG G) (hl0 : l.stackTraces = false) (hT : TrAt G c) {a b : Nat} (ha : a + 1 < 25) (hb : b + 1 < 25) {A B : List Int32} (hA : RowAt G c a A) (hB : RowAt G c b B) (hba : allB A) (hbb : allB B) (hlen : A.length + B.length ≤ 240) (K : Int32) (hKn : ¬ K = -1) : MC G l yX2_holds (.code yX2_holds cX2_holds 4 (some .boolean) :: gws) (rmF 6 0 0 139) [.ref (G.1 25), .int K, .ref (G.1 a), .ref (G.1 b)] c (pI (fun r c' => nI 1 = r ∧ TrAt G c' ∧ ∀ y : Nat, y < 25 ∨ 33 ≤ y → c' y = c y)) (pF) := by
  refine MC.of (by decide) hl0 hG (Nat.le_of_ble_eq_true rfl) (fun X hX h hN hQ hr => ?_)
  subst hX
  obtain ⟨⟨pl, ln, tg, h25⟩, ⟨t, hs⟩, ⟨L0, hD⟩, Lp, hp⟩ := id hT
  refine r_aload_n h 0 rfl rfl dX2_holds_0 ?_
  refine r_iload_n h 1 rfl rfl dX2_holds_1 ?_
  refine r_aload_n h 2 rfl rfl dX2_holds_2 ?_
  refine r_aload_n h 3 rfl rfl dX2_holds_3 ?_
  refine r_cV h k_X2_28 (i := 25) (As := [.int K, .ref (G.1 a), .ref (G.1 b)]) (rest := []) (c_X2_fillDue h.i h.t h25 hD ha hb hA hB hba hbb hlen K) (by omega) h25 rfl rfl rfl (Nat.le_of_ble_eq_true rfl) ⟨by decide, by decide, by decide, by decide⟩ dX2_holds_4 (fun _ z => z.elim) (fun v4 c1 p5 => ?_)
  obtain ⟨rfl, w2, k3⟩ := p5
  have g6 := (k3 (25) (by omega) (by omega)).trans h25
  have g7 := hs.mono (k3 (26) (by omega) (by omega)) (k3 (26 + 1) (by omega) (by omega)) (k3 (26 + 2) (by omega) (by omega))
  have g8 := hA.mono (k3 (a) (by omega) (by omega)) (k3 (a + 1) (by omega) (by omega))
  have g9 := hB.mono (k3 (b) (by omega) (by omega)) (k3 (b + 1) (by omega) (by omega))
  have g10 := hp.mono (k3 (31) (by omega) (by omega)) (k3 (31 + 1) (by omega) (by omega))
  have T0 : TrD G c1 (outK K A B) := ⟨⟨_, _, _, g6⟩, ⟨_, g7⟩, w2, _, g10⟩
  refine r_aload_n h 0 rfl rfl dX2_holds_7 ?_
  refine r_iload_n h 1 rfl rfl dX2_holds_8 ?_
  refine r_aload_n h 2 rfl rfl dX2_holds_9 ?_
  refine r_aload_n h 3 rfl rfl dX2_holds_10 ?_
  obtain ⟨_, o11⟩ := T0.obj
  refine r_cV h k_X2_32 (i := 25) (As := [.int K, .ref (G.1 a), .ref (G.1 b)]) (rest := []) (c_X2_holdsByBytes h.i h.t T0 ha hb g8 g9 hba hbb hlen K rfl) (by omega) o11 rfl rfl rfl (Nat.le_of_ble_eq_true rfl) ⟨by decide, by decide, by decide, by decide⟩ dX2_holds_11 (fun _ z => z.elim) (fun v15 c12 p16 => ?_)
  obtain ⟨r, rfl, rfl, t13, k14⟩ := p16
  have g17 := g8.mono (k14 (a) (by omega)) (k14 (a + 1) (by omega))
  have g18 := g9.mono (k14 (b) (by omega)) (k14 (b + 1) (by omega))
  refine rn_if_eq h (a := 1) (by omega) 58 dX2_holds_14 (by decide) (fun u1 => ?_) (fun u1 => ?_)
  · exact absurd u1 (by decide)
  · refine r_aload_n h 0 rfl rfl dX2_holds_17 ?_
    refine r_iload_n h 1 rfl rfl dX2_holds_18 ?_
    refine r_aload_n h 2 rfl rfl dX2_holds_19 ?_
    refine r_aload_n h 3 rfl rfl dX2_holds_20 ?_
    obtain ⟨_, o19⟩ := t13.obj
    refine r_cV h k_X2_36 (i := 25) (As := [.int K, .ref (G.1 a), .ref (G.1 b)]) (rest := []) (c_X2_holdsInParts h.i h.t t13 ha hb g17 g18 hba hbb hlen K rfl) (by omega) o19 rfl rfl rfl (Nat.le_of_ble_eq_true rfl) ⟨by decide, by decide, by decide, by decide⟩ dX2_holds_21 (fun _ z => z.elim) (fun v23 c20 p24 => ?_)
    obtain ⟨r, rfl, rfl, t21, k22⟩ := p24
    have g25 := g17.mono (k22 (a) (by omega)) (k22 (a + 1) (by omega))
    have g26 := g18.mono (k22 (b) (by omega)) (k22 (b + 1) (by omega))
    refine rn_if_eq h (a := 1) (by omega) 58 dX2_holds_24 (by decide) (fun u1 => ?_) (fun u1 => ?_)
    · exact absurd u1 (by decide)
    · refine r_aload_n h 0 rfl rfl dX2_holds_27 ?_
      refine r_iload_n h 1 rfl rfl dX2_holds_28 ?_
      refine r_aload_n h 2 rfl rfl dX2_holds_29 ?_
      refine r_aload_n h 3 rfl rfl dX2_holds_30 ?_
      obtain ⟨_, o27⟩ := t21.obj
      refine r_cV h k_X2_39 (i := 25) (As := [.int K, .ref (G.1 a), .ref (G.1 b)]) (rest := []) (c_X2_holdsBehindSkip h.i h.t t21 ha hb g25 g26 hba hbb hlen K rfl) (by omega) o27 rfl rfl rfl (Nat.le_of_ble_eq_true rfl) ⟨by decide, by decide, by decide, by decide⟩ dX2_holds_31 (fun _ z => z.elim) (fun v31 c28 p32 => ?_)
      obtain ⟨r, rfl, rfl, t29, k30⟩ := p32
      have g33 := g25.mono (k30 (a) (by omega)) (k30 (a + 1) (by omega))
      have g34 := g26.mono (k30 (b) (by omega)) (k30 (b + 1) (by omega))
      refine rn_if_eq h (a := 1) (by omega) 58 dX2_holds_34 (by decide) (fun u1 => ?_) (fun u1 => ?_)
      · exact absurd u1 (by decide)
      · refine r_iload_n h 1 rfl rfl dX2_holds_37 ?_
        refine r_cN h k_X2_42 (As := [.int K]) (rest := []) (c_X3_canBeMarked h.i h.t K) rfl rfl (Nat.le_of_ble_eq_true rfl) ⟨by decide, by decide, by decide, by decide⟩ dX2_holds_38 (fun _ z => z.elim) (fun v35 c36 p37 => ?_)
        obtain ⟨r, rfl, rfl, rfl⟩ := p37
        refine rb_if_eq h 54 dX2_holds_41 (by decide) (fun u => ?_) (fun u => ?_)
        · refine r_iconst h (v := nI 1) (by decide) dX2_holds_54 ?_
          refine r_goto h 59 dX2_holds_55 (by decide) ?_
          exact r_zret h hQ hr (by decide) dX2_holds_59 ⟨by decide, by decide⟩ ⟨_, rfl, rfl, t29.at, fun y p1 => ((((k30 y (by omega)).trans (k22 y (by omega))).trans (k14 y (by omega))).trans (k3 y (by omega) (by omega)))⟩
        · refine r_aload_n h 0 rfl rfl dX2_holds_44 ?_
          refine r_iload_n h 1 rfl rfl dX2_holds_45 ?_
          refine r_aload_n h 2 rfl rfl dX2_holds_46 ?_
          refine r_aload_n h 3 rfl rfl dX2_holds_47 ?_
          obtain ⟨_, o38⟩ := t29.obj
          refine r_cV h k_X2_46 (i := 25) (As := [.int K, .ref (G.1 a), .ref (G.1 b)]) (rest := []) (c_X2_holdsBroughtBack h.i h.t t29 ha hb g33 g34 hba hbb hlen K rfl hKn) (by omega) o38 rfl rfl rfl (Nat.le_of_ble_eq_true rfl) ⟨by decide, by decide, by decide, by decide⟩ dX2_holds_48 (fun _ z => z.elim) (fun v42 c39 p43 => ?_)
          obtain ⟨r, rfl, rfl, t40, k41⟩ := p43
          have g44 := g33.mono (k41 (a) (by omega)) (k41 (a + 1) (by omega))
          have g45 := g34.mono (k41 (b) (by omega)) (k41 (b + 1) (by omega))
          refine rn_if_eq h (a := 1) (by omega) 58 dX2_holds_51 (by decide) (fun u1 => ?_) (fun u1 => ?_)
          · exact absurd u1 (by decide)
          · refine r_iconst h (v := nI 1) (by decide) dX2_holds_54 ?_
            refine r_goto h 59 dX2_holds_55 (by decide) ?_
            exact r_zret h hQ hr (by decide) dX2_holds_59 ⟨by decide, by decide⟩ ⟨_, rfl, rfl, t40.at, fun y p1 => (((((k41 y (by omega)).trans (k30 y (by omega))).trans (k22 y (by omega))).trans (k14 y (by omega))).trans (k3 y (by omega) (by omega)))⟩
set_option maxRecDepth 100000 in
set_option maxHeartbeats 4000000 in
/-- X3_longestSource -/
theorem c_X3_longestSource {G : GG} {l : Launch} {c : CC} (hG : InjG G) (hl0 : l.stackTraces = false) {σ : St} (hc : Cls G c σ) : MC G l yX3_longestSource (.code yX3_longestSource cX3_longestSource 3 (some .int) :: gws) (rmF 1 0 0 20) [.ref (G.1 0)] c (pI (fun r c' => c = c' ∧ ∃ j : Nat, j < 4 ∧ nI j = r)) (pF) := by
  refine MC.of (by decide) hl0 hG (Nat.le_of_ble_eq_true rfl) (fun X hX h hN hQ hr => ?_)
  subst hX
  refine r_iconst h (v := nI 0) (by decide) dX3_longestSource_0 ?_
  refine r_istore_n h ([(1, .int (nI 0)), (0, .ref (G.1 0))]) rfl dX3_longestSource_1 (by decide) rfl ?_
  refine r_iconst h (v := nI 1) (by decide) dX3_longestSource_2 ?_
  refine r_istore_n h ([(2, .int (nI 1)), (1, .int (nI 0)), (0, .ref (G.1 0))]) rfl dX3_longestSource_3 (by decide) rfl ?_
  have loop : ∀ (q i m : Nat), 5 ≤ i + q → 1 ≤ i → i ≤ 4 → m < 4 → V G X c [(0, .ref (G.1 0)), (1, .int (nI m)), (2, .int (nI i))] 0 0 4 [] := by
    intro q
    induction q with
    | zero => intro i m a1 a2 a3; exact absurd a1 (by omega)
    | succ q ih =>
      intro i m a1 a2 a3 a4
      refine r_iload_n h 2 rfl rfl dX3_longestSource_4 ?_
      refine r_iconst h (v := nI 4) (by decide) dX3_longestSource_5 ?_
      refine rn_icmp_ge h (a := i) (b := 4) (by omega) (by omega) 38 dX3_longestSource_6 (by decide) (fun z => ?_) (fun z => ?_)
      · refine r_iload_n h 1 rfl rfl dX3_longestSource_38 ?_
        exact r_iret h hQ hr dX3_longestSource_39 ⟨by decide, by decide⟩ ⟨_, rfl, rfl, m, a4, rfl⟩
      · have hi4 : i < 4 := by omega
        have hli := (hc.row hi4).le
        have hlm := (hc.row a4).le
        refine r_aload_n h 0 rfl rfl dX3_longestSource_9 ?_
        refine r_getf h F_X3_11 (i := 0) (by omega) hc.o rfl dX3_longestSource_10 ?_
        refine r_iload_n h 2 rfl rfl dX3_longestSource_13 ?_
        obtain ⟨f1, e2, e3⟩ := hc.2.1
        refine r_aald h (i := 1) (by omega) (cy := 4) e2 rfl (x := i) (hi4) (by decide) (e3 i (hi4)) dX3_longestSource_14 ?_
        refine r_cV h k_X3_42 (i := 3 + 2 * i) (As := []) (rest := []) (c_X0_size h.i h.t (by omega) (hc.row hi4)) (by omega) (hc.row hi4).1 rfl rfl rfl (Nat.le_of_ble_eq_true rfl) ⟨by decide, by decide, by decide, by decide⟩ dX3_longestSource_15 (fun _ z => z.elim) (fun v4 c5 p6 => ?_)
        obtain ⟨r, rfl, rfl, rfl⟩ := p6
        refine r_aload_n h 0 rfl rfl dX3_longestSource_18 ?_
        refine r_getf h F_X3_11 (i := 0) (by omega) hc.o rfl dX3_longestSource_19 ?_
        refine r_iload_n h 1 rfl rfl dX3_longestSource_22 ?_
        obtain ⟨f7, e8, e9⟩ := hc.2.1
        refine r_aald h (i := 1) (by omega) (cy := 4) e8 rfl (x := m) (a4) (by decide) (e9 m (a4)) dX3_longestSource_23 ?_
        refine r_cV h k_X3_42 (i := 3 + 2 * m) (As := []) (rest := [.int (nI ((σ.1 i).length))]) (c_X0_size h.i h.t (by omega) (hc.row a4)) (by omega) (hc.row a4).1 rfl rfl rfl (Nat.le_of_ble_eq_true rfl) ⟨by decide, by decide, by decide, by decide⟩ dX3_longestSource_24 (fun _ z => z.elim) (fun v10 c11 p12 => ?_)
        obtain ⟨r, rfl, rfl, rfl⟩ := p12
        refine rn_icmp_le h (a := (σ.1 i).length) (b := (σ.1 m).length) (by omega) (by omega) 32 dX3_longestSource_27 (by decide) (fun v => ?_) (fun v => ?_)
        · refine r_iinc h 2 ([(2, .int (nI (i + 1))), (0, .ref (G.1 0)), (1, .int (nI m))]) rfl (inc_1 (i)) dX3_longestSource_32 (by decide) rfl ?_
          refine r_goto h 4 dX3_longestSource_35 (by decide) ?_
          refine V_lv [1, 2, 0] rfl ?_
          exact ih (i + 1) m (by omega) (by omega) (by omega) a4
        · refine r_iload_n h 2 rfl rfl dX3_longestSource_30 ?_
          refine r_istore_n h ([(1, .int (nI i)), (0, .ref (G.1 0)), (2, .int (nI i))]) rfl dX3_longestSource_31 (by decide) rfl ?_
          refine r_iinc h 2 ([(2, .int (nI (i + 1))), (1, .int (nI i)), (0, .ref (G.1 0))]) rfl (inc_1 (i)) dX3_longestSource_32 (by decide) rfl ?_
          refine r_goto h 4 dX3_longestSource_35 (by decide) ?_
          refine V_lv [2, 1, 0] rfl ?_
          exact ih (i + 1) i (by omega) (by omega) (by omega) hi4
  refine V_lv [2, 1, 0] rfl ?_
  exact loop 5 1 0 (by omega) (by omega) (by omega) (by omega)
set_option maxRecDepth 100000 in
set_option maxHeartbeats 4000000 in
/-- X3_isTrue -/
theorem c_X3_isTrue {G : GG} {l : Launch} {c : CC} (hG : InjG G) (hl0 : l.stackTraces = false) {σ : St} (hc : Cls G c σ) : MC G l yX3_isTrue (.code yX3_isTrue cX3_isTrue 4 (some .boolean) :: gws) (rmF 7 0 0 162) [.ref (G.1 0)] c (pI (fun r c' => nI 1 = r ∧ Cls G c' σ ∧ ∀ y : Nat, 33 ≤ y → c' y = c y)) (pF) := by
  refine MC.of (by decide) hl0 hG (Nat.le_of_ble_eq_true rfl) (fun X hX h hN hQ hr => ?_)
  subst hX
  refine r_aload_n h 0 rfl rfl dX3_isTrue_0 ?_
  refine r_cV h k_X3_192 (i := 0) (As := []) (rest := []) (c_X3_longestSource h.i h.t hc) (by omega) hc.o rfl rfl rfl (Nat.le_of_ble_eq_true rfl) ⟨by decide, by decide, by decide, by decide⟩ dX3_isTrue_1 (fun _ z => z.elim) (fun v1 c2 p3 => ?_)
  obtain ⟨r, rfl, rfl, m, hm, rfl⟩ := p3
  refine r_istore_n h ([(1, .int (nI m)), (0, .ref (G.1 0))]) rfl dX3_isTrue_4 (by decide) rfl ?_
  have loop : ∀ (q k s : Nat) (c1 : CC), 9 ≤ k + q → k ≤ 8 → s < 4 → Cls G c1 σ → (∀ y : Nat, 33 ≤ y → c1 y = c y) → V G X c1 [(0, .ref (G.1 0)), (1, .int (nI m)), (2, .int (nI s)), (3, .int (nI k))] 0 0 22 [] := by
    intro q
    induction q with
    | zero => intro k s c1 a1 a2; exact absurd a1 (by omega)
    | succ q ih =>
      intro k s c1 a1 a2 a3 hc k1
      refine r_iload_n h 3 rfl rfl dX3_isTrue_22 ?_
      refine r_bipush h (v := nI 8) (by decide) dX3_isTrue_23 ?_
      refine rn_icmp_ge h (a := k) (b := 8) (by omega) (by omega) 59 dX3_isTrue_25 (by decide) (fun z => ?_) (fun z => ?_)
      · refine r_iconst h (v := nI 1) (by decide) dX3_isTrue_59 ?_
        exact r_zret h hQ hr (by decide) dX3_isTrue_60 ⟨by decide, by decide⟩ ⟨_, rfl, rfl, hc, k1⟩
      · have hlm := (hc.rl hm).1
        have hls := (hc.rl a3).1
        refine r_aload_n h 0 rfl rfl dX3_isTrue_28 ?_
        refine r_getf h F_X3_29 (i := 0) (by omega) hc.o rfl dX3_isTrue_29 ?_
        refine r_iload_n h 3 rfl rfl dX3_isTrue_32 ?_
        refine r_aload_n h 0 rfl rfl dX3_isTrue_33 ?_
        refine r_getf h F_X3_11 (i := 0) (by omega) hc.o rfl dX3_isTrue_34 ?_
        refine r_iload_n h 1 rfl rfl dX3_isTrue_37 ?_
        obtain ⟨f4, e5, e6⟩ := hc.2.1
        refine r_aald h (i := 1) (by omega) (cy := 4) e5 rfl (x := m) (hm) (by decide) (e6 m (hm)) dX3_isTrue_38 ?_
        refine r_aload_n h 0 rfl rfl dX3_isTrue_39 ?_
        refine r_getf h F_X3_11 (i := 0) (by omega) hc.o rfl dX3_isTrue_40 ?_
        refine r_iload_n h 2 rfl rfl dX3_isTrue_43 ?_
        obtain ⟨f7, e8, e9⟩ := hc.2.1
        refine r_aald h (i := 1) (by omega) (cy := 4) e8 rfl (x := s) (a3) (by decide) (e9 s (a3)) dX3_isTrue_44 ?_
        obtain ⟨fs, ho⟩ := hc.2.2.2.2.2.2.obj
        refine r_cV h k_X3_195 (i := 25) (As := [.int (nI k), .ref (G.1 (3 + 2 * m)), .ref (G.1 (3 + 2 * s))]) (rest := []) (c_X2_holds h.i h.t hc.2.2.2.2.2.2 (by omega) (by omega) (hc.row hm) (hc.row a3) (hc.rl hm).2 (hc.rl a3).2 (by omega) (nI k) (nI_m1 (by omega))) (by omega) ho rfl rfl rfl (Nat.le_of_ble_eq_true rfl) ⟨by decide, by decide, by decide, by decide⟩ dX3_isTrue_45 (fun _ z => z.elim) (fun v13 c10 p14 => ?_)
        obtain ⟨r, rfl, rfl, t11, k12⟩ := p14
        refine rn_if_ne h (a := 1) (by omega) 53 dX3_isTrue_48 (by decide) (fun u1 => ?_) (fun u1 => ?_)
        · refine r_iinc h 3 ([(3, .int (nI (k + 1))), (0, .ref (G.1 0)), (1, .int (nI m)), (2, .int (nI s))]) rfl (inc_1 (k)) dX3_isTrue_53 (by decide) rfl ?_
          refine r_goto h 22 dX3_isTrue_56 (by decide) ?_
          refine V_lv [1, 2, 3, 0] rfl ?_
          exact ih (k + 1) s c10 (by omega) (by omega) a3 (hc.keep k12 t11) (fun y p => (k12 y (Or.inr p)).trans (k1 y p))
        · exact absurd u1 (by decide)
  refine r_iload_n h 0 rfl rfl dX3_isTrue_5 ?_
  refine r_iconst h (v := nI 1) (by decide) dX3_isTrue_6 ?_
  refine r_iadd h (nI_add (m) (1)) dX3_isTrue_7 ?_
  refine r_iconst h (v := nI 4) (by decide) dX3_isTrue_8 ?_
  refine rn_icmp_ge h (a := m + 1) (b := 4) (by omega) (by omega) 18 dX3_isTrue_9 (by decide) (fun v => ?_) (fun v => ?_)
  · refine r_iconst h (v := nI 0) (by decide) dX3_isTrue_18 ?_
    refine r_istore_n h ([(2, .int (nI 0)), (1, .int (nI m)), (0, .ref (G.1 0))]) rfl dX3_isTrue_19 (by decide) rfl ?_
    refine r_iconst h (v := nI 0) (by decide) dX3_isTrue_20 ?_
    refine r_istore_n h ([(3, .int (nI 0)), (2, .int (nI 0)), (1, .int (nI m)), (0, .ref (G.1 0))]) rfl dX3_isTrue_21 (by decide) rfl ?_
    refine V_lv [3, 2, 1, 0] rfl ?_
    exact loop 9 0 (0) c (by omega) (by omega) (by omega) hc (fun _ _ => rfl)
  · refine r_iload_n h 0 rfl rfl dX3_isTrue_12 ?_
    refine r_iconst h (v := nI 1) (by decide) dX3_isTrue_13 ?_
    refine r_iadd h (nI_add (m) (1)) dX3_isTrue_14 ?_
    refine r_goto h 19 dX3_isTrue_15 (by decide) ?_
    refine r_istore_n h ([(2, .int (nI (m + 1))), (1, .int (nI m)), (0, .ref (G.1 0))]) rfl dX3_isTrue_19 (by decide) rfl ?_
    refine r_iconst h (v := nI 0) (by decide) dX3_isTrue_20 ?_
    refine r_istore_n h ([(3, .int (nI 0)), (2, .int (nI (m + 1))), (1, .int (nI m)), (0, .ref (G.1 0))]) rfl dX3_isTrue_21 (by decide) rfl ?_
    refine V_lv [3, 2, 1, 0] rfl ?_
    exact loop 9 0 (m + 1) c (by omega) (by omega) (by omega) hc (fun _ _ => rfl)
