/-! STREAM, opened -/
set_option maxRecDepth 100000 in
set_option maxHeartbeats 4000000 in
/-- X1_fillOut -/
theorem c_X1_fillOut {G : GG} {l : Launch} {c : CC} (hG : InjG G) (hl0 : l.stackTraces = false) {i : Nat} (hi : i < 46) {K se pl N mp ml : Int32} {g : Int64} (h0 : c i = .inr (3, [.ref (G.1 (i + 1)), .int K, .int se, .int pl, .int N, .long (g), .int mp, .int ml])) {L : List Int32} (hw : RowAt G c (i + 1) L) {a b : Nat} (ha : a < 48) (hb : b < 48) {A B : List Int32} (hA : RowAt G c a A) (hB : RowAt G c b B) (hna : a + 1 < i ∨ i + 2 < a) (hnb : b + 1 < i ∨ i + 2 < b) (hlen : A.length + B.length ≤ 240) : MC G l yX1_fillOut (.code yX1_fillOut cX1_fillOut 3 none :: gws) (rmF 2 0 0 46) [.ref (G.1 i), .ref (G.1 a), .ref (G.1 b)] c (pV (fun c' => RowAt G c' (i + 1) (outK K A B) ∧ c' i = .inr (3, [.ref (G.1 (i + 1)), .int K, .int (nI (seC K (fpK K A).length)), .int pl, .int N, .long (g), .int mp, .int ml]) ∧ ∀ j : Nat, j ≠ i → j ≠ i + 1 → j ≠ i + 2 → c' j = c j)) (pF) := by
  refine MC.of (by decide) hl0 hG (Nat.le_of_ble_eq_true rfl) (fun X hX h hN hQ hr => ?_)
  subst hX
  have hF := fpK_len K A
  refine r_aload_n h 0 rfl rfl dX1_fillOut_0 ?_
  refine r_getf h F_X1_12 (i := i) (by omega) h0 rfl dX1_fillOut_1 ?_
  refine r_cV h k_X1_48 (i := i + 1) (As := []) (rest := []) (c_X0_makeEmpty h.i h.t (by omega) hw) (by omega) hw.1 rfl rfl rfl (Nat.le_of_ble_eq_true rfl) ⟨by decide, by decide, by decide, by decide⟩ dX1_fillOut_4 (fun _ z => z.elim) (fun v4 c1 p5 => ?_)
  obtain ⟨rfl, w2, k3⟩ := p5
  have g6 := (k3 (i) (by omega)).trans h0
  have g7 := hA.mono (k3 (a) (by omega)) (k3 (a + 1) (by omega))
  have g8 := hB.mono (k3 (b) (by omega)) (k3 (b + 1) (by omega))
  suffices KK : ∀ c1 : CC, RowAt G c1 (i + 1) (fpK K A) → (∀ j : Nat, j ≠ i + 1 → j ≠ i + 2 → c1 j = c j) → V G X c1 [(0, .ref (G.1 i)), (1, .ref (G.1 a)), (2, .ref (G.1 b))] 0 0 37 [] from ?_
  · refine r_aload_n h 0 rfl rfl dX1_fillOut_7 ?_
    refine r_getf h F_X1_18 (i := i) (by omega) g6 rfl dX1_fillOut_8 ?_
    refine r_cN h k_X1_51 (As := [.int K]) (rest := []) (c_X3_isLined h.i h.t K) rfl rfl (Nat.le_of_ble_eq_true rfl) ⟨by decide, by decide, by decide, by decide⟩ dX1_fillOut_11 (fun _ z => z.elim) (fun v9 c10 p11 => ?_)
    obtain ⟨r, rfl, rfl, rfl⟩ := p11
    refine rb_if_eq h 29 dX1_fillOut_14 (by decide) (fun u => ?_) (fun u => ?_)
    · refine r_aload_n h 0 rfl rfl dX1_fillOut_29 ?_
      refine r_getf h F_X1_12 (i := i) (by omega) g6 rfl dX1_fillOut_30 ?_
      refine r_aload_n h 1 rfl rfl dX1_fillOut_33 ?_
      refine r_cV h k_X1_58 (i := i + 1) (As := [.ref (G.1 a)]) (rest := []) (c_X0_putAll h.i h.t (by omega) w2 (by omega) g7 (by omega) (by first | omega | (simp; omega))) (by omega) w2.1 rfl rfl rfl (Nat.le_of_ble_eq_true rfl) ⟨by decide, by decide, by decide, by decide⟩ dX1_fillOut_34 (fun _ z => z.elim) (fun v15 c12 p16 => ?_)
      obtain ⟨rfl, w13, k14⟩ := p16
      have g17 := (k14 (i) (by omega) (by omega)).trans g6
      have g18 := g7.mono (k14 (a) (by omega) (by omega)) (k14 (a + 1) (by omega) (by omega))
      have g19 := g8.mono (k14 (b) (by omega) (by omega)) (k14 (b + 1) (by omega) (by omega))
      have w13 : RowAt G c12 (i + 1) (fpK K A) := by rw [fpK, if_neg u]; exact w13
      exact KK _ w13 (fun j p q => (k14 j p q).trans (k3 j p))
    · refine r_aload_n h 0 rfl rfl dX1_fillOut_17 ?_
      refine r_getf h F_X1_12 (i := i) (by omega) g6 rfl dX1_fillOut_18 ?_
      refine r_aload_n h 1 rfl rfl dX1_fillOut_21 ?_
      refine r_iconst h (v := -1) (by decide) dX1_fillOut_22 ?_
      refine r_cV h k_X1_54 (i := i + 1) (As := [.ref (G.1 a), .int (-1)]) (rest := []) (c_X0_putLined h.i h.t (by omega) w2 (by omega) g7 (by omega) (by first | omega | (simp; omega)) (-1)) (by omega) w2.1 rfl rfl rfl (Nat.le_of_ble_eq_true rfl) ⟨by decide, by decide, by decide, by decide⟩ dX1_fillOut_23 (fun _ z => z.elim) (fun v23 c20 p24 => ?_)
      obtain ⟨rfl, w21, k22⟩ := p24
      have g25 := (k22 (i) (by omega) (by omega)).trans g6
      have g26 := g7.mono (k22 (a) (by omega) (by omega)) (k22 (a + 1) (by omega) (by omega))
      have g27 := g8.mono (k22 (b) (by omega) (by omega)) (k22 (b + 1) (by omega) (by omega))
      have w21 : RowAt G c20 (i + 1) (fpK K A) := by rw [fpK, if_pos u]; exact w21
      refine r_goto h 37 dX1_fillOut_26 (by decide) ?_
      exact KK _ w21 (fun j p q => (k22 j p q).trans (k3 j p))
  · intro c1 w1 k1
    have g28 := (k1 (i) (by omega) (by omega)).trans h0
    have g29 := hA.mono (k1 (a) (by omega) (by omega)) (k1 (a + 1) (by omega) (by omega))
    have g30 := hB.mono (k1 (b) (by omega) (by omega)) (k1 (b + 1) (by omega) (by omega))
    refine r_aload_n h 0 rfl rfl dX1_fillOut_37 ?_
    refine r_iconst h (v := nI 0) (by decide) dX1_fillOut_38 ?_
    refine r_putf h F_X1_62 ft_X1 (i := i) (by omega) g28 ([.ref (G.1 (i + 1)), .int K, .int (nI 0), .int pl, .int N, .long (g), .int mp, .int ml]) rfl rfl rfl rfl (Nat.le_of_ble_eq_true rfl) dX1_fillOut_39 (fun c31 h32 k33 => ?_)
    have g34 := g29.mono (k33 (a) (by omega)) (k33 (a + 1) (by omega))
    have g35 := g30.mono (k33 (b) (by omega)) (k33 (b + 1) (by omega))
    have g36 := w1.mono (k33 (i + 1) (by omega)) (k33 (i + 1 + 1) (by omega))
    refine r_aload_n h 0 rfl rfl dX1_fillOut_42 ?_
    refine r_getf h F_X1_18 (i := i) (by omega) h32 rfl dX1_fillOut_43 ?_
    refine r_iconst h (v := nI 4) (by decide) dX1_fillOut_46 ?_
    refine r_icmp_ne h 72 dX1_fillOut_47 (by decide) (fun u4 => ?_) (fun u4 => ?_)
    · refine r_aload_n h 0 rfl rfl dX1_fillOut_72 ?_
      refine r_getf h F_X1_18 (i := i) (by omega) h32 rfl dX1_fillOut_73 ?_
      refine r_iconst h (v := nI 5) (by decide) dX1_fillOut_76 ?_
      refine r_icmp_ne h 101 dX1_fillOut_77 (by decide) (fun u5 => ?_) (fun u5 => ?_)
      · refine r_aload_n h 0 rfl rfl dX1_fillOut_101 ?_
        refine r_getf h F_X1_18 (i := i) (by omega) h32 rfl dX1_fillOut_102 ?_
        refine r_bipush h (v := nI 7) (by decide) dX1_fillOut_105 ?_
        refine r_icmp_ne h 130 dX1_fillOut_107 (by decide) (fun u7 => ?_) (fun u7 => ?_)
        · exact r_vret h hQ hr dX1_fillOut_130 ⟨by decide, by decide⟩ ⟨rfl, by rw [outK, if_neg u4, if_neg u5, if_neg u7]; exact g36, by rw [seC, if_neg (fun z => z.elim u4 u7)]; exact h32, fun j p q r => ((k33 j p).trans (k1 j q r))⟩
        · refine r_aload_n h 0 rfl rfl dX1_fillOut_110 ?_
          refine r_aload_n h 0 rfl rfl dX1_fillOut_111 ?_
          refine r_getf h F_X1_12 (i := i) (by omega) h32 rfl dX1_fillOut_112 ?_
          refine r_cV h k_X1_65 (i := i + 1) (As := []) (rest := [.ref (G.1 i)]) (c_X0_size h.i h.t (by omega) g36) (by omega) g36.1 rfl rfl rfl (Nat.le_of_ble_eq_true rfl) ⟨by decide, by decide, by decide, by decide⟩ dX1_fillOut_115 (fun _ z => z.elim) (fun v68 c69 p70 => ?_)
          obtain ⟨r, rfl, rfl, rfl⟩ := p70
          refine r_putf h F_X1_62 ft_X1 (i := i) (by omega) h32 ([.ref (G.1 (i + 1)), .int K, .int (nI ((fpK K A).length)), .int pl, .int N, .long (g), .int mp, .int ml]) rfl rfl rfl rfl (Nat.le_of_ble_eq_true rfl) dX1_fillOut_118 (fun c71 h72 k73 => ?_)
          have g74 := g34.mono (k73 (a) (by omega)) (k73 (a + 1) (by omega))
          have g75 := g35.mono (k73 (b) (by omega)) (k73 (b + 1) (by omega))
          have g76 := g36.mono (k73 (i + 1) (by omega)) (k73 (i + 1 + 1) (by omega))
          refine r_aload_n h 0 rfl rfl dX1_fillOut_121 ?_
          refine r_getf h F_X1_12 (i := i) (by omega) h72 rfl dX1_fillOut_122 ?_
          refine r_aload_n h 2 rfl rfl dX1_fillOut_125 ?_
          refine r_iconst h (v := -1) (by decide) dX1_fillOut_126 ?_
          refine r_cV h k_X1_54 (i := i + 1) (As := [.ref (G.1 b), .int (-1)]) (rest := []) (c_X0_putLined h.i h.t (by omega) g76 (by omega) g75 (by omega) (by first | omega | (simp; omega)) (-1)) (by omega) g76.1 rfl rfl rfl (Nat.le_of_ble_eq_true rfl) ⟨by decide, by decide, by decide, by decide⟩ dX1_fillOut_127 (fun _ z => z.elim) (fun v80 c77 p81 => ?_)
          obtain ⟨rfl, w78, k79⟩ := p81
          have g82 := g74.mono (k79 (a) (by omega) (by omega)) (k79 (a + 1) (by omega) (by omega))
          have g83 := g75.mono (k79 (b) (by omega) (by omega)) (k79 (b + 1) (by omega) (by omega))
          have g84 := (k79 (i) (by omega) (by omega)).trans h72
          have w78 : RowAt G c77 (i + 1) (fpK K A ++ lnT (-1) B B.length) := w78
          exact r_vret h hQ hr dX1_fillOut_130 ⟨by decide, by decide⟩ ⟨rfl, by rw [outK, if_neg u4, if_neg u5, if_pos u7]; exact w78, by rw [seC, if_pos (Or.inr u7)]; exact g84, fun j p q r => ((((k79 j q r).trans (k73 j p)).trans (k33 j p)).trans (k1 j q r))⟩
      · refine r_aload_n h 0 rfl rfl dX1_fillOut_80 ?_
        refine r_getf h F_X1_12 (i := i) (by omega) h32 rfl dX1_fillOut_81 ?_
        refine r_aload_n h 2 rfl rfl dX1_fillOut_84 ?_
        refine r_aload_n h 1 rfl rfl dX1_fillOut_85 ?_
        refine r_aload_n h 1 rfl rfl dX1_fillOut_86 ?_
        refine r_cV h k_X1_65 (i := a) (As := []) (rest := [.ref (G.1 a), .ref (G.1 b), .ref (G.1 (i + 1))]) (c_X0_size h.i h.t (by omega) g34) (by omega) g34.1 rfl rfl rfl (Nat.le_of_ble_eq_true rfl) ⟨by decide, by decide, by decide, by decide⟩ dX1_fillOut_87 (fun _ z => z.elim) (fun v54 c55 p56 => ?_)
        obtain ⟨r, rfl, rfl, rfl⟩ := p56
        refine r_iconst h (v := nI 1) (by decide) dX1_fillOut_90 ?_
        refine r_isub h rfl dX1_fillOut_91 ?_
        refine r_cV h k_X1_69 (i := a) (As := [.int ((nI (A.length)) - (nI (1)))]) (rest := [.ref (G.1 b), .ref (G.1 (i + 1))]) (c_X0_at h.i h.t (by omega) g34 ((nI (A.length)) - (nI (1)))) (by omega) g34.1 rfl rfl rfl (Nat.le_of_ble_eq_true rfl) ⟨by decide, by decide, by decide, by decide⟩ dX1_fillOut_92 (fun _ z => z.elim) (fun v57 c58 p59 => ?_)
        obtain ⟨r, rfl, rfl, rfl⟩ := p59
        refine r_cV h k_X1_54 (i := i + 1) (As := [.ref (G.1 b), .int (atP A ((nI (A.length)) - (nI (1))))]) (rest := []) (c_X0_putLined h.i h.t (by omega) g36 (by omega) g35 (by omega) (by first | omega | (simp; omega)) (atP A ((nI (A.length)) - (nI (1))))) (by omega) g36.1 rfl rfl rfl (Nat.le_of_ble_eq_true rfl) ⟨by decide, by decide, by decide, by decide⟩ dX1_fillOut_95 (fun _ z => z.elim) (fun v63 c60 p64 => ?_)
        obtain ⟨rfl, w61, k62⟩ := p64
        have g65 := g34.mono (k62 (a) (by omega) (by omega)) (k62 (a + 1) (by omega) (by omega))
        have g66 := g35.mono (k62 (b) (by omega) (by omega)) (k62 (b + 1) (by omega) (by omega))
        have g67 := (k62 (i) (by omega) (by omega)).trans h32
        have w61 : RowAt G c60 (i + 1) (fpK K A ++ lnT (atP A (nI A.length - nI 1)) B B.length) := w61
        refine r_goto h 130 dX1_fillOut_98 (by decide) ?_
        exact r_vret h hQ hr dX1_fillOut_130 ⟨by decide, by decide⟩ ⟨rfl, by rw [outK, if_neg u4, if_pos u5]; exact w61, by rw [seC, if_neg (fun z => z.elim u4 (fun z => absurd (u5.symm.trans z) (by decide)))]; exact g67, fun j p q r => (((k62 j q r).trans (k33 j p)).trans (k1 j q r))⟩
    · refine r_aload_n h 0 rfl rfl dX1_fillOut_50 ?_
      refine r_aload_n h 0 rfl rfl dX1_fillOut_51 ?_
      refine r_getf h F_X1_12 (i := i) (by omega) h32 rfl dX1_fillOut_52 ?_
      refine r_cV h k_X1_65 (i := i + 1) (As := []) (rest := [.ref (G.1 i)]) (c_X0_size h.i h.t (by omega) g36) (by omega) g36.1 rfl rfl rfl (Nat.le_of_ble_eq_true rfl) ⟨by decide, by decide, by decide, by decide⟩ dX1_fillOut_55 (fun _ z => z.elim) (fun v37 c38 p39 => ?_)
      obtain ⟨r, rfl, rfl, rfl⟩ := p39
      refine r_putf h F_X1_62 ft_X1 (i := i) (by omega) h32 ([.ref (G.1 (i + 1)), .int K, .int (nI ((fpK K A).length)), .int pl, .int N, .long (g), .int mp, .int ml]) rfl rfl rfl rfl (Nat.le_of_ble_eq_true rfl) dX1_fillOut_58 (fun c40 h41 k42 => ?_)
      have g43 := g34.mono (k42 (a) (by omega)) (k42 (a + 1) (by omega))
      have g44 := g35.mono (k42 (b) (by omega)) (k42 (b + 1) (by omega))
      have g45 := g36.mono (k42 (i + 1) (by omega)) (k42 (i + 1 + 1) (by omega))
      refine r_aload_n h 0 rfl rfl dX1_fillOut_61 ?_
      refine r_getf h F_X1_12 (i := i) (by omega) h41 rfl dX1_fillOut_62 ?_
      refine r_aload_n h 2 rfl rfl dX1_fillOut_65 ?_
      refine r_cV h k_X1_58 (i := i + 1) (As := [.ref (G.1 b)]) (rest := []) (c_X0_putAll h.i h.t (by omega) g45 (by omega) g44 (by omega) (by first | omega | (simp; omega))) (by omega) g45.1 rfl rfl rfl (Nat.le_of_ble_eq_true rfl) ⟨by decide, by decide, by decide, by decide⟩ dX1_fillOut_66 (fun _ z => z.elim) (fun v49 c46 p50 => ?_)
      obtain ⟨rfl, w47, k48⟩ := p50
      have g51 := g43.mono (k48 (a) (by omega) (by omega)) (k48 (a + 1) (by omega) (by omega))
      have g52 := g44.mono (k48 (b) (by omega) (by omega)) (k48 (b + 1) (by omega) (by omega))
      have g53 := (k48 (i) (by omega) (by omega)).trans h41
      have w47 : RowAt G c46 (i + 1) (fpK K A ++ B) := w47
      refine r_goto h 130 dX1_fillOut_69 (by decide) ?_
      exact r_vret h hQ hr dX1_fillOut_130 ⟨by decide, by decide⟩ ⟨rfl, by rw [outK, if_pos u4]; exact w47, by rw [seC, if_pos (Or.inl u4)]; exact g53, fun j p q r => ((((k48 j q r).trans (k42 j p)).trans (k33 j p)).trans (k1 j q r))⟩
set_option maxRecDepth 100000 in
set_option maxHeartbeats 4000000 in
/-- X1_begin -/
theorem c_X1_begin {G : GG} {l : Launch} {c : CC} (hG : InjG G) (hl0 : l.stackTraces = false) {i : Nat} (hi : i < 46) {K0 se pl N mp ml : Int32} {g : Int64} (h0 : c i = .inr (3, [.ref (G.1 (i + 1)), .int K0, .int se, .int pl, .int N, .long (g), .int mp, .int ml])) {L : List Int32} (hw : RowAt G c (i + 1) L) {a b : Nat} (ha : a < 48) (hb : b < 48) {A B : List Int32} (hA : RowAt G c a A) (hB : RowAt G c b B) (hna : a + 1 < i ∨ i + 2 < a) (hnb : b + 1 < i ∨ i + 2 < b) (hlen : A.length + B.length ≤ 240) (K : Int32) (hba : allB A) (hbb : allB B) : MC G l yX1_begin (.code yX1_begin cX1_begin 4 none :: gws) (rmF 3 0 0 68) [.ref (G.1 i), .int K, .ref (G.1 a), .ref (G.1 b)] c (pV (fun c' => StrAt G c' i (pOp K A B) ∧ ∀ j : Nat, j ≠ i → j ≠ i + 1 → j ≠ i + 2 → c' j = c j)) (pF) := by
  refine MC.of (by decide) hl0 hG (Nat.le_of_ble_eq_true rfl) (fun X hX h hN hQ hr => ?_)
  subst hX
  refine r_aload_n h 0 rfl rfl dX1_begin_0 ?_
  refine r_iload_n h 1 rfl rfl dX1_begin_1 ?_
  refine r_putf h F_X1_18 ft_X1 (i := i) (by omega) h0 ([.ref (G.1 (i + 1)), .int K, .int se, .int pl, .int N, .long (g), .int mp, .int ml]) rfl rfl rfl rfl (Nat.le_of_ble_eq_true rfl) dX1_begin_2 (fun c1 h2 k3 => ?_)
  have g4 := hw.mono (k3 (i + 1) (by omega)) (k3 (i + 1 + 1) (by omega))
  have g5 := hA.mono (k3 (a) (by omega)) (k3 (a + 1) (by omega))
  have g6 := hB.mono (k3 (b) (by omega)) (k3 (b + 1) (by omega))
  refine r_aload_n h 0 rfl rfl dX1_begin_5 ?_
  refine r_aload_n h 2 rfl rfl dX1_begin_6 ?_
  refine r_aload_n h 3 rfl rfl dX1_begin_7 ?_
  refine r_cV h k_X1_22 (i := i) (As := [.ref (G.1 a), .ref (G.1 b)]) (rest := []) (c_X1_fillOut h.i h.t (by omega) h2 g4 (by omega) (by omega) g5 g6 hna hnb hlen) (by omega) h2 rfl rfl rfl (Nat.le_of_ble_eq_true rfl) ⟨by decide, by decide, by decide, by decide⟩ dX1_begin_8 (fun _ z => z.elim) (fun v11 c7 p12 => ?_)
  obtain ⟨rfl, w8, o9, k10⟩ := p12
  have g13 := g5.mono (k10 (a) (by omega) (by omega) (by omega)) (k10 (a + 1) (by omega) (by omega) (by omega))
  have g14 := g6.mono (k10 (b) (by omega) (by omega) (by omega)) (k10 (b + 1) (by omega) (by omega) (by omega))
  refine r_aload_n h 0 rfl rfl dX1_begin_11 ?_
  refine r_iconst h (v := nI 0) (by decide) dX1_begin_12 ?_
  refine r_putf h F_X1_26 ft_X1 (i := i) (by omega) o9 ([.ref (G.1 (i + 1)), .int K, .int (nI (seC K (fpK K A).length)), .int (nI 0), .int N, .long (g), .int mp, .int ml]) rfl rfl rfl rfl (Nat.le_of_ble_eq_true rfl) dX1_begin_13 (fun c15 h16 k17 => ?_)
  have g18 := g13.mono (k17 (a) (by omega)) (k17 (a + 1) (by omega))
  have g19 := g14.mono (k17 (b) (by omega)) (k17 (b + 1) (by omega))
  have g20 := w8.mono (k17 (i + 1) (by omega)) (k17 (i + 1 + 1) (by omega))
  refine r_aload_n h 0 rfl rfl dX1_begin_16 ?_
  refine r_iconst h (v := nI 0) (by decide) dX1_begin_17 ?_
  refine r_putf h F_X1_29 ft_X1 (i := i) (by omega) h16 ([.ref (G.1 (i + 1)), .int K, .int (nI (seC K (fpK K A).length)), .int (nI 0), .int (nI 0), .long (g), .int mp, .int ml]) rfl rfl rfl rfl (Nat.le_of_ble_eq_true rfl) dX1_begin_18 (fun c21 h22 k23 => ?_)
  have g24 := g18.mono (k23 (a) (by omega)) (k23 (a + 1) (by omega))
  have g25 := g19.mono (k23 (b) (by omega)) (k23 (b + 1) (by omega))
  have g26 := g20.mono (k23 (i + 1) (by omega)) (k23 (i + 1 + 1) (by omega))
  refine r_aload_n h 0 rfl rfl dX1_begin_21 ?_
  refine r_ldc2 h K_X1_32 dX1_begin_22 ?_
  refine r_putf h F_X1_34 ft_X1 (i := i) (by omega) h22 ([.ref (G.1 (i + 1)), .int K, .int (nI (seC K (fpK K A).length)), .int (nI 0), .int (nI 0), .long (4294967295), .int mp, .int ml]) rfl rfl rfl rfl (Nat.le_of_ble_eq_true rfl) dX1_begin_25 (fun c27 h28 k29 => ?_)
  have g30 := g24.mono (k29 (a) (by omega)) (k29 (a + 1) (by omega))
  have g31 := g25.mono (k29 (b) (by omega)) (k29 (b + 1) (by omega))
  have g32 := g26.mono (k29 (i + 1) (by omega)) (k29 (i + 1 + 1) (by omega))
  refine r_aload_n h 0 rfl rfl dX1_begin_28 ?_
  refine r_aload_n h 0 rfl rfl dX1_begin_29 ?_
  refine r_getf h F_X1_18 (i := i) (by omega) h28 rfl dX1_begin_30 ?_
  refine r_cN h k_X1_38 (As := [.int K]) (rest := [.ref (G.1 i)]) (c_X3_goesBackUnmarked h.i h.t K) rfl rfl (Nat.le_of_ble_eq_true rfl) ⟨by decide, by decide, by decide, by decide⟩ dX1_begin_33 (fun _ z => z.elim) (fun v33 c34 p35 => ?_)
  obtain ⟨r, rfl, rfl, rfl⟩ := p35
  refine rb_if_eq h 43 dX1_begin_36 (by decide) (fun u => ?_) (fun u => ?_)
  · refine r_iconst h (v := -1) (by decide) dX1_begin_43 ?_
    refine r_putf h F_X1_42 ft_X1 (i := i) (by omega) h28 ([.ref (G.1 (i + 1)), .int K, .int (nI (seC K (fpK K A).length)), .int (nI 0), .int (nI 0), .long (4294967295), .int (-1), .int ml]) rfl rfl rfl rfl (Nat.le_of_ble_eq_true rfl) dX1_begin_44 (fun c36 h37 k38 => ?_)
    have g39 := g30.mono (k38 (a) (by omega)) (k38 (a + 1) (by omega))
    have g40 := g31.mono (k38 (b) (by omega)) (k38 (b + 1) (by omega))
    have g41 := g32.mono (k38 (i + 1) (by omega)) (k38 (i + 1 + 1) (by omega))
    refine r_aload_n h 0 rfl rfl dX1_begin_47 ?_
    refine r_iconst h (v := nI 0) (by decide) dX1_begin_48 ?_
    refine r_putf h F_X1_45 ft_X1 (i := i) (by omega) h37 ([.ref (G.1 (i + 1)), .int K, .int (nI (seC K (fpK K A).length)), .int (nI 0), .int (nI 0), .long (4294967295), .int (-1), .int (nI 0)]) rfl rfl rfl rfl (Nat.le_of_ble_eq_true rfl) dX1_begin_49 (fun c42 h43 k44 => ?_)
    have g45 := g39.mono (k44 (a) (by omega)) (k44 (a + 1) (by omega))
    have g46 := g40.mono (k44 (b) (by omega)) (k44 (b + 1) (by omega))
    have g47 := g41.mono (k44 (i + 1) (by omega)) (k44 (i + 1 + 1) (by omega))
    exact r_vret h hQ hr dX1_begin_52 ⟨by decide, by decide⟩ ⟨rfl, ⟨okS_op hba hbb, g47, _, _, _, h43, fun _ => rfl, Or.inr ⟨(if_neg u).symm, rfl⟩⟩, fun j p q r => (((((((k44 j p).trans (k38 j p)).trans (k29 j p)).trans (k23 j p)).trans (k17 j p)).trans (k10 j p q r)).trans (k3 j p))⟩
  · refine r_iconst h (v := nI 0) (by decide) dX1_begin_39 ?_
    refine r_goto h 44 dX1_begin_40 (by decide) ?_
    refine r_putf h F_X1_42 ft_X1 (i := i) (by omega) h28 ([.ref (G.1 (i + 1)), .int K, .int (nI (seC K (fpK K A).length)), .int (nI 0), .int (nI 0), .long (4294967295), .int (nI 0), .int ml]) rfl rfl rfl rfl (Nat.le_of_ble_eq_true rfl) dX1_begin_44 (fun c48 h49 k50 => ?_)
    have g51 := g30.mono (k50 (a) (by omega)) (k50 (a + 1) (by omega))
    have g52 := g31.mono (k50 (b) (by omega)) (k50 (b + 1) (by omega))
    have g53 := g32.mono (k50 (i + 1) (by omega)) (k50 (i + 1 + 1) (by omega))
    refine r_aload_n h 0 rfl rfl dX1_begin_47 ?_
    refine r_iconst h (v := nI 0) (by decide) dX1_begin_48 ?_
    refine r_putf h F_X1_45 ft_X1 (i := i) (by omega) h49 ([.ref (G.1 (i + 1)), .int K, .int (nI (seC K (fpK K A).length)), .int (nI 0), .int (nI 0), .long (4294967295), .int (nI 0), .int (nI 0)]) rfl rfl rfl rfl (Nat.le_of_ble_eq_true rfl) dX1_begin_49 (fun c54 h55 k56 => ?_)
    have g57 := g51.mono (k56 (a) (by omega)) (k56 (a + 1) (by omega))
    have g58 := g52.mono (k56 (b) (by omega)) (k56 (b + 1) (by omega))
    have g59 := g53.mono (k56 (i + 1) (by omega)) (k56 (i + 1 + 1) (by omega))
    exact r_vret h hQ hr dX1_begin_52 ⟨by decide, by decide⟩ ⟨rfl, ⟨okS_op hba hbb, g59, _, _, _, h55, fun _ => rfl, Or.inr ⟨(if_pos u).symm, rfl⟩⟩, fun j p q r => (((((((k56 j p).trans (k50 j p)).trans (k29 j p)).trans (k23 j p)).trans (k17 j p)).trans (k10 j p q r)).trans (k3 j p))⟩
