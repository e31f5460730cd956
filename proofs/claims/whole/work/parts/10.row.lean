/-! ROW: the rows of bytes, method by method -/
set_option maxRecDepth 100000 in
set_option maxHeartbeats 4000000 in
/-- X0_size -/
theorem c_X0_size {G : GG} {l : Launch} {c : CC} (hG : InjG G) (hl0 : l.stackTraces = false) {i : Nat} (hi : i < 48) {L : List Int32} (hw : RowAt G c i L) : MC G l yX0_size (.code yX0_size cX0_size 1 (some .int) :: gws) (rmF 0 0 0 0) [.ref (G.1 i)] c (pI (fun r c' => c = c' ∧ nI L.length = r)) (pF) := by
  refine MC.of (by decide) hl0 hG (Nat.le_of_ble_eq_true rfl) (fun X hX h hN hQ hr => ?_)
  subst hX
  obtain ⟨h1, hle, f, h2, hf3⟩ := id hw
  refine r_aload_n h 0 rfl rfl dX0_size_0 ?_
  refine r_getf h F_X0_15 (i := i) (by omega) h1 rfl dX0_size_1 ?_
  exact r_iret h hQ hr dX0_size_4 ⟨by decide, by decide⟩ ⟨_, rfl, rfl, rfl⟩
set_option maxRecDepth 100000 in
set_option maxHeartbeats 4000000 in
/-- X0_at -/
theorem c_X0_at {G : GG} {l : Launch} {c : CC} (hG : InjG G) (hl0 : l.stackTraces = false) {i : Nat} (hi : i < 48) {L : List Int32} (hw : RowAt G c i L) (x : Int32) : MC G l yX0_at (.code yX0_at cX0_at 2 (some .int) :: gws) (rmF 0 0 0 0) [.ref (G.1 i), .int x] c (pI (fun r c' => c = c' ∧ atP L x = r)) (pF) := by
  refine MC.of (by decide) hl0 hG (Nat.le_of_ble_eq_true rfl) (fun X hX h hN hQ hr => ?_)
  subst hX
  obtain ⟨h1, hle, f, h2, hf3⟩ := id hw
  refine r_iload_n h 1 rfl rfl dX0_at_0 ?_
  refine r_if_lt h 21 dX0_at_1 (by decide) (fun q1 => ?_) (fun q1 => ?_)
  · refine r_iconst h (v := -1) (by decide) dX0_at_21 ?_
    exact r_iret h hQ hr dX0_at_22 ⟨by decide, by decide⟩ ⟨_, rfl, rfl, atP_of_neg q1⟩
  · refine r_iload_n h 1 rfl rfl dX0_at_4 ?_
    refine r_aload_n h 0 rfl rfl dX0_at_5 ?_
    refine r_getf h F_X0_15 (i := i) (by omega) h1 rfl dX0_at_6 ?_
    refine r_icmp_ge h 21 dX0_at_9 (by decide) (fun q2 => ?_) (fun q2 => ?_)
    · refine r_iconst h (v := -1) (by decide) dX0_at_21 ?_
      exact r_iret h hQ hr dX0_at_22 ⟨by decide, by decide⟩ ⟨_, rfl, rfl, atP_of_ge q2⟩
    · obtain ⟨j, hj, rfl⟩ := ix_of q1 q2 (by omega)
      refine r_iload_n h 1 rfl rfl dX0_at_12 ?_
      refine r_aload_n h 0 rfl rfl dX0_at_13 ?_
      refine r_getf h F_X0_9 (i := i) (by omega) h1 rfl dX0_at_14 ?_
      refine r_alen h (i := i + 1) (by omega) 0 h2 rfl dX0_at_17 ?_
      refine rn_icmp_lt h (a := j) (b := 240) (by omega) (by omega) 23 dX0_at_18 (by decide) (fun q3 => ?_) (fun q3 => ?_)
      · refine r_aload_n h 0 rfl rfl dX0_at_23 ?_
        refine r_getf h F_X0_9 (i := i) (by omega) h1 rfl dX0_at_24 ?_
        refine r_iload_n h 1 rfl rfl dX0_at_27 ?_
        refine r_iald h (i := i + 1) (by omega) h2 (x := j) (by omega) (by decide) dX0_at_28 ?_
        exact r_iret h hQ hr dX0_at_29 ⟨by decide, by decide⟩ ⟨_, rfl, rfl, (atP_nI hj (by omega)).trans (hf3 j hj).symm⟩
      · exact ((by omega : False)).elim
set_option maxRecDepth 100000 in
set_option maxHeartbeats 4000000 in
/-- X0_put -/
theorem c_X0_put {G : GG} {l : Launch} {c : CC} (hG : InjG G) (hl0 : l.stackTraces = false) {i : Nat} (hi : i < 48) {L : List Int32} (hw : RowAt G c i L) (hl : L.length < 240) (x : Int32) : MC G l yX0_put (.code yX0_put cX0_put 2 none :: gws) (rmF 0 0 0 0) [.ref (G.1 i), .int x] c (pV (fun c' => RowAt G c' i (L ++ [x]) ∧ ∀ j : Nat, j ≠ i → j ≠ i + 1 → c' j = c j)) (pF) := by
  refine MC.of (by decide) hl0 hG (Nat.le_of_ble_eq_true rfl) (fun X hX h hN hQ hr => ?_)
  subst hX
  obtain ⟨h1, hle, f, h2, hf3⟩ := id hw
  refine r_aload_n h 0 rfl rfl dX0_put_0 ?_
  refine r_getf h F_X0_15 (i := i) (by omega) h1 rfl dX0_put_1 ?_
  refine rn_if_lt h (a := L.length) (by omega) 39 dX0_put_4 (by decide) ?_
  refine r_aload_n h 0 rfl rfl dX0_put_7 ?_
  refine r_getf h F_X0_15 (i := i) (by omega) h1 rfl dX0_put_8 ?_
  refine r_aload_n h 0 rfl rfl dX0_put_11 ?_
  refine r_getf h F_X0_9 (i := i) (by omega) h1 rfl dX0_put_12 ?_
  refine r_alen h (i := i + 1) (by omega) 0 h2 rfl dX0_put_15 ?_
  refine rn_icmp_ge h (a := L.length) (b := 240) (by omega) (by omega) 39 dX0_put_16 (by decide) (fun q2 => ?_) (fun q2 => ?_)
  · exact ((by omega : False)).elim
  · refine r_aload_n h 0 rfl rfl dX0_put_19 ?_
    refine r_getf h F_X0_9 (i := i) (by omega) h1 rfl dX0_put_20 ?_
    refine r_aload_n h 0 rfl rfl dX0_put_23 ?_
    refine r_getf h F_X0_15 (i := i) (by omega) h1 rfl dX0_put_24 ?_
    refine r_iload_n h 1 rfl rfl dX0_put_27 ?_
    refine r_iast h (i := i + 1) (by omega) h2 (x := L.length) (by omega) (by decide) dX0_put_28 (fun c4 h5 k6 => ?_)
    have g7 := (k6 (i) (by omega)).trans h1
    refine r_aload_n h 0 rfl rfl dX0_put_29 ?_
    refine r_dup h rfl dX0_put_30 ?_
    refine r_getf h F_X0_15 (i := i) (by omega) g7 rfl dX0_put_31 ?_
    refine r_iconst h (v := nI 1) (by decide) dX0_put_34 ?_
    refine r_iadd h (nI_add (L.length) (1)) dX0_put_35 ?_
    refine r_putf h F_X0_15 ft_X0 (i := i) (by omega) g7 ([.ref (G.1 (i + 1)), .int (nI (L.length + 1))]) rfl rfl rfl rfl (Nat.le_of_ble_eq_true rfl) dX0_put_36 (fun c8 h9 k10 => ?_)
    have g11 := (k10 (i + 1) (by omega)).trans h5
    exact r_vret h hQ hr dX0_put_39 ⟨by decide, by decide⟩ ⟨rfl, RowAt.push h9 g11 hf3 hl, fun j a b => (k10 j a).trans (k6 j b)⟩
set_option maxRecDepth 100000 in
set_option maxHeartbeats 4000000 in
/-- X0_takeLast -/
theorem c_X0_takeLast {G : GG} {l : Launch} {c : CC} (hG : InjG G) (hl0 : l.stackTraces = false) {i : Nat} (hi : i < 48) {L : List Int32} (hw : RowAt G c i L) (hl : 0 < L.length) : MC G l yX0_takeLast (.code yX0_takeLast cX0_takeLast 2 (some .int) :: gws) (rmF 1 0 0 21) [.ref (G.1 i)] c (pI (fun r c' => RowAt G c' i L.dropLast ∧ L.getD (L.length - 1) 0 = r ∧ ∀ j : Nat, j ≠ i → c' j = c j)) (pF) := by
  refine MC.of (by decide) hl0 hG (Nat.le_of_ble_eq_true rfl) (fun X hX h hN hQ hr => ?_)
  subst hX
  obtain ⟨h1, hle, f, h2, hf3⟩ := id hw
  refine r_aload_n h 0 rfl rfl dX0_takeLast_0 ?_
  refine r_aload_n h 0 rfl rfl dX0_takeLast_1 ?_
  refine r_getf h F_X0_15 (i := i) (by omega) h1 rfl dX0_takeLast_2 ?_
  refine r_iconst h (v := nI 1) (by decide) dX0_takeLast_5 ?_
  refine r_isub h (pk_sub (a := L.length) (b := 1) (by omega)) dX0_takeLast_6 ?_
  refine r_cV h k_X0_19 (i := i) (As := [.int (nI (L.length - 1))]) (rest := []) (c_X0_at h.i h.t (by omega) hw (nI (L.length - 1))) (by omega) hw.1 rfl rfl rfl (Nat.le_of_ble_eq_true rfl) ⟨by decide, by decide, by decide, by decide⟩ dX0_takeLast_7 (fun _ z => z.elim) (fun v4 c5 p6 => ?_)
  obtain ⟨r, rfl, rfl, rfl⟩ := p6
  rw [atP_nI (by omega) (by omega)]
  refine r_istore_n h ([(1, .int (L.getD (L.length - 1) 0)), (0, .ref (G.1 i))]) rfl dX0_takeLast_10 (by decide) rfl ?_
  refine r_aload_n h 1 rfl rfl dX0_takeLast_11 ?_
  refine r_getf h F_X0_15 (i := i) (by omega) h1 rfl dX0_takeLast_12 ?_
  refine rn_if_le h (a := L.length) (by omega) 28 dX0_takeLast_15 (by decide) (fun q => ?_) (fun q => ?_)
  · exact ((by omega : False)).elim
  · refine r_aload_n h 1 rfl rfl dX0_takeLast_18 ?_
    refine r_dup h rfl dX0_takeLast_19 ?_
    refine r_getf h F_X0_15 (i := i) (by omega) h1 rfl dX0_takeLast_20 ?_
    refine r_iconst h (v := nI 1) (by decide) dX0_takeLast_23 ?_
    refine r_isub h (pk_sub (a := L.length) (b := 1) (by omega)) dX0_takeLast_24 ?_
    refine r_putf h F_X0_15 ft_X0 (i := i) (by omega) h1 ([.ref (G.1 (i + 1)), .int (nI (L.length - 1))]) rfl rfl rfl rfl (Nat.le_of_ble_eq_true rfl) dX0_takeLast_25 (fun c7 h8 k9 => ?_)
    have g10 := (k9 (i + 1) (by omega)).trans h2
    refine r_iload_n h 0 rfl rfl dX0_takeLast_28 ?_
    exact r_iret h hQ hr dX0_takeLast_29 ⟨by decide, by decide⟩ ⟨_, rfl, RowAt.pop h8 g10 hf3 hle, rfl, k9⟩
set_option maxRecDepth 100000 in
set_option maxHeartbeats 4000000 in
/-- X0_makeEmpty -/
theorem c_X0_makeEmpty {G : GG} {l : Launch} {c : CC} (hG : InjG G) (hl0 : l.stackTraces = false) {i : Nat} (hi : i < 48) {L : List Int32} (hw : RowAt G c i L) : MC G l yX0_makeEmpty (.code yX0_makeEmpty cX0_makeEmpty 1 none :: gws) (rmF 0 0 0 0) [.ref (G.1 i)] c (pV (fun c' => RowAt G c' i [] ∧ ∀ j : Nat, j ≠ i → c' j = c j)) (pF) := by
  refine MC.of (by decide) hl0 hG (Nat.le_of_ble_eq_true rfl) (fun X hX h hN hQ hr => ?_)
  subst hX
  obtain ⟨h1, hle, f, h2, hf3⟩ := id hw
  refine r_aload_n h 0 rfl rfl dX0_makeEmpty_0 ?_
  refine r_iconst h (v := nI 0) (by decide) dX0_makeEmpty_1 ?_
  refine r_putf h F_X0_15 ft_X0 (i := i) (by omega) h1 ([.ref (G.1 (i + 1)), .int (nI 0)]) rfl rfl rfl rfl (Nat.le_of_ble_eq_true rfl) dX0_makeEmpty_2 (fun c4 h5 k6 => ?_)
  have g7 := (k6 (i + 1) (by omega)).trans h2
  exact r_vret h hQ hr dX0_makeEmpty_5 ⟨by decide, by decide⟩ ⟨rfl, ⟨h5, by simp, _, g7, fun j hj => absurd hj (Nat.not_lt_zero j)⟩, k6⟩
set_option maxRecDepth 100000 in
set_option maxHeartbeats 4000000 in
/-- X0_lined -/
theorem c_X0_lined {G : GG} {l : Launch} {c : CC} (hG : InjG G) (hl0 : l.stackTraces = false) (x p : Int32) : MC G l yX0_lined (.code yX0_lined cX0_lined 2 (some .int) :: gws) (rmF 0 0 0 0) [.int x, .int p] c (pI (fun r c' => c = c' ∧ lin1 x p = r)) (pF) := by
  refine MC.of (by decide) hl0 hG (Nat.le_of_ble_eq_true rfl) (fun X hX h hN hQ hr => ?_)
  subst hX
  refine r_iload_n h 0 rfl rfl dX0_lined_0 ?_
  refine r_bipush h (v := nI 13) (by decide) dX0_lined_1 ?_
  refine r_icmp_ne h 9 dX0_lined_3 (by decide) (fun q1 => ?_) (fun q1 => ?_)
  · refine r_iload_n h 0 rfl rfl dX0_lined_9 ?_
    refine r_bipush h (v := nI 10) (by decide) dX0_lined_10 ?_
    refine r_icmp_ne h 25 dX0_lined_12 (by decide) (fun q2 => ?_) (fun q2 => ?_)
    · refine r_iload_n h 0 rfl rfl dX0_lined_25 ?_
      exact r_iret h hQ hr dX0_lined_26 ⟨by decide, by decide⟩ ⟨_, rfl, rfl, (if_neg q1).trans (if_neg (fun z => q2 z.1))⟩
    · refine r_iload_n h 1 rfl rfl dX0_lined_15 ?_
      refine r_bipush h (v := nI 13) (by decide) dX0_lined_16 ?_
      refine r_icmp_ne h 25 dX0_lined_18 (by decide) (fun q3 => ?_) (fun q3 => ?_)
      · refine r_iload_n h 0 rfl rfl dX0_lined_25 ?_
        exact r_iret h hQ hr dX0_lined_26 ⟨by decide, by decide⟩ ⟨_, rfl, rfl, (if_neg q1).trans (if_neg (fun z => q3 z.2))⟩
      · refine r_iconst h (v := -1) (by decide) dX0_lined_21 ?_
        refine r_goto h 26 dX0_lined_22 (by decide) ?_
        exact r_iret h hQ hr dX0_lined_26 ⟨by decide, by decide⟩ ⟨_, rfl, rfl, (if_neg q1).trans (if_pos ⟨q2, q3⟩)⟩
  · refine r_bipush h (v := nI 10) (by decide) dX0_lined_6 ?_
    exact r_iret h hQ hr dX0_lined_8 ⟨by decide, by decide⟩ ⟨_, rfl, rfl, if_pos q1⟩
set_option maxRecDepth 100000 in
set_option maxHeartbeats 4000000 in
/-- X0_putAll -/
theorem c_X0_putAll {G : GG} {l : Launch} {c : CC} (hG : InjG G) (hl0 : l.stackTraces = false) {i : Nat} (hi : i < 48) {L : List Int32} (hw : RowAt G c i L) {k : Nat} (hk : k < 48) {L2 : List Int32} (hw2 : RowAt G c k L2) (hne : k + 1 < i ∨ i + 1 < k) (hlen : L.length + L2.length ≤ 240) : MC G l yX0_putAll (.code yX0_putAll cX0_putAll 3 none :: gws) (rmF 1 0 0 21) [.ref (G.1 i), .ref (G.1 k)] c (pV (fun c' => RowAt G c' i (L ++ L2) ∧ ∀ y : Nat, y ≠ i → y ≠ i + 1 → c' y = c y)) (pF) := by
  refine MC.of (by decide) hl0 hG (Nat.le_of_ble_eq_true rfl) (fun X hX h hN hQ hr => ?_)
  subst hX
  refine r_iconst h (v := nI 0) (by decide) dX0_putAll_0 ?_
  refine r_istore_n h ([(2, .int (nI 0)), (0, .ref (G.1 i)), (1, .ref (G.1 k))]) rfl dX0_putAll_1 (by decide) rfl ?_
  have loop : ∀ (n j : Nat) (c1 : CC), L2.length + 1 ≤ j + n → j ≤ L2.length → RowAt G c1 i (L ++ L2.take j) → RowAt G c1 k L2 → (∀ y : Nat, y ≠ i → y ≠ i + 1 → c1 y = c y) → V G X c1 [(0, .ref (G.1 i)), (1, .ref (G.1 k)), (2, .int (nI j))] 0 0 2 [] := by
    intro n
    induction n with
    | zero => intro j c1 a1 a2; exact absurd a1 (by omega)
    | succ n ih =>
      intro j c1 a1 a2 w1 w2 k1
      have hle2 := w2.le
      refine r_iload_n h 2 rfl rfl dX0_putAll_2 ?_
      refine r_aload_n h 1 rfl rfl dX0_putAll_3 ?_
      refine r_cV h k_X0_23 (i := k) (As := []) (rest := [.int (nI j)]) (c_X0_size h.i h.t (by omega) w2) (by omega) w2.1 rfl rfl rfl (Nat.le_of_ble_eq_true rfl) ⟨by decide, by decide, by decide, by decide⟩ dX0_putAll_4 (fun _ z => z.elim) (fun v1 c2 p3 => ?_)
      obtain ⟨r, rfl, rfl, rfl⟩ := p3
      refine rn_icmp_ge h (a := j) (b := L2.length) (by omega) (by omega) 25 dX0_putAll_7 (by decide) (fun q => ?_) (fun q => ?_)
      · exact r_vret h hQ hr dX0_putAll_25 ⟨by decide, by decide⟩ ⟨rfl, by rw [show j = L2.length by omega, List.take_length] at w1; exact w1, k1⟩
      · refine r_aload_n h 0 rfl rfl dX0_putAll_10 ?_
        refine r_aload_n h 1 rfl rfl dX0_putAll_11 ?_
        refine r_iload_n h 2 rfl rfl dX0_putAll_12 ?_
        refine r_cV h k_X0_19 (i := k) (As := [.int (nI j)]) (rest := [.ref (G.1 i)]) (c_X0_at h.i h.t (by omega) w2 (nI (j))) (by omega) w2.1 rfl rfl rfl (Nat.le_of_ble_eq_true rfl) ⟨by decide, by decide, by decide, by decide⟩ dX0_putAll_13 (fun _ z => z.elim) (fun v4 c5 p6 => ?_)
        obtain ⟨r, rfl, rfl, rfl⟩ := p6
        rw [atP_nI q (by omega)]
        refine r_cV h k_X0_27 (i := i) (As := [.int (L2.getD (j) 0)]) (rest := []) (c_X0_put h.i h.t (by omega) w1 (by rw [List.length_append, List.length_take]; omega) (L2.getD (j) 0)) (by omega) w1.1 rfl rfl rfl (Nat.le_of_ble_eq_true rfl) ⟨by decide, by decide, by decide, by decide⟩ dX0_putAll_16 (fun _ z => z.elim) (fun v10 c7 p11 => ?_)
        obtain ⟨rfl, w8, k9⟩ := p11
        have g12 := w2.mono (k9 (k) (by omega) (by omega)) (k9 (k + 1) (by omega) (by omega))
        have w8 : RowAt G c7 (i) (L ++ L2.take (j + 1)) := by rw [take_snoc q, ← List.append_assoc]; exact w8
        refine r_iinc h 2 ([(2, .int (nI (j + 1))), (0, .ref (G.1 i)), (1, .ref (G.1 k))]) rfl (inc_1 (j)) dX0_putAll_19 (by decide) rfl ?_
        refine r_goto h 2 dX0_putAll_22 (by decide) ?_
        refine V_lv [1, 2, 0] rfl ?_
        exact ih (j + 1) c7 (by omega) (by omega) w8 g12 (fun y a b => (k9 y a b).trans (k1 y a b))
  refine V_lv [1, 2, 0] rfl ?_
  exact loop (L2.length + 1) 0 c (by omega) (Nat.zero_le _) (by simpa using hw) hw2 (fun y _ _ => rfl)
set_option maxRecDepth 100000 in
set_option maxHeartbeats 4000000 in
/-- X0_putLined -/
theorem c_X0_putLined {G : GG} {l : Launch} {c : CC} (hG : InjG G) (hl0 : l.stackTraces = false) {i : Nat} (hi : i < 48) {L : List Int32} (hw : RowAt G c i L) {k : Nat} (hk : k < 48) {L2 : List Int32} (hw2 : RowAt G c k L2) (hne : k + 1 < i ∨ i + 1 < k) (hlen : L.length + L2.length ≤ 240) (p : Int32) : MC G l yX0_putLined (.code yX0_putLined cX0_putLined 6 none :: gws) (rmF 1 0 0 21) [.ref (G.1 i), .ref (G.1 k), .int p] c (pV (fun c' => RowAt G c' i (L ++ lnT p L2 L2.length) ∧ ∀ y : Nat, y ≠ i → y ≠ i + 1 → c' y = c y)) (pF) := by
  refine MC.of (by decide) hl0 hG (Nat.le_of_ble_eq_true rfl) (fun X hX h hN hQ hr => ?_)
  subst hX
  refine r_iconst h (v := nI 0) (by decide) dX0_putLined_0 ?_
  refine r_istore_n h ([(3, .int (nI 0)), (0, .ref (G.1 i)), (1, .ref (G.1 k)), (2, .int p)]) rfl dX0_putLined_1 (by decide) rfl ?_
  have loop : ∀ (n j : Nat) (c1 : CC), L2.length + 1 ≤ j + n → j ≤ L2.length → RowAt G c1 i (L ++ lnT p L2 j) → RowAt G c1 k L2 → (∀ y : Nat, y ≠ i → y ≠ i + 1 → c1 y = c y) → V G X c1 [(0, .ref (G.1 i)), (1, .ref (G.1 k)), (2, .int p), (3, .int (nI j))] 0 0 2 [] := by
    intro n
    induction n with
    | zero => intro j c1 a1 a2; exact absurd a1 (by omega)
    | succ n ih =>
      intro j c1 a1 a2 w1 w2 k1
      have hle2 := w2.le
      have hT := lnT_len p L2 j
      refine r_iload_n h 3 rfl rfl dX0_putLined_2 ?_
      refine r_aload_n h 1 rfl rfl dX0_putLined_3 ?_
      refine r_cV h k_X0_23 (i := k) (As := []) (rest := [.int (nI j)]) (c_X0_size h.i h.t (by omega) w2) (by omega) w2.1 rfl rfl rfl (Nat.le_of_ble_eq_true rfl) ⟨by decide, by decide, by decide, by decide⟩ dX0_putLined_4 (fun _ z => z.elim) (fun v1 c2 p3 => ?_)
      obtain ⟨r, rfl, rfl, rfl⟩ := p3
      refine rn_icmp_ge h (a := j) (b := L2.length) (by omega) (by omega) 57 dX0_putLined_7 (by decide) (fun q => ?_) (fun q => ?_)
      · exact r_vret h hQ hr dX0_putLined_57 ⟨by decide, by decide⟩ ⟨rfl, by rw [show j = L2.length by omega] at w1; exact w1, k1⟩
      · suffices K : V G X c1 ((4, Value.int (if j = 0 then p else L2.getD (j - 1) 0)) :: [(3, .int (nI j)), (0, .ref (G.1 i)), (1, .ref (G.1 k)), (2, .int p)]) 0 0 27 [] from ?_
        refine r_iload_n h 3 rfl rfl dX0_putLined_10 ?_
        refine rn_if_ne h (a := j) (by omega) 18 dX0_putLined_11 (by decide) (fun z => ?_) (fun z => ?_)
        · refine r_aload_n h 1 rfl rfl dX0_putLined_18 ?_
          refine r_iload_n h 3 rfl rfl dX0_putLined_19 ?_
          refine r_iconst h (v := nI 1) (by decide) dX0_putLined_20 ?_
          refine r_isub h (pk_sub (a := j) (b := 1) (by omega)) dX0_putLined_21 ?_
          refine r_cV h k_X0_19 (i := k) (As := [.int (nI (j - 1))]) (rest := []) (c_X0_at h.i h.t (by omega) w2 (nI (j - 1))) (by omega) w2.1 rfl rfl rfl (Nat.le_of_ble_eq_true rfl) ⟨by decide, by decide, by decide, by decide⟩ dX0_putLined_22 (fun _ z => z.elim) (fun v4 c5 p6 => ?_)
          obtain ⟨r, rfl, rfl, rfl⟩ := p6
          rw [atP_nI (by omega) (by omega)]
          refine r_istore h ([(4, .int (L2.getD (j - 1) 0)), (0, .ref (G.1 i)), (1, .ref (G.1 k)), (2, .int p), (3, .int (nI j))]) dX0_putLined_25 (by decide) rfl ?_
          rw [if_neg z] at K
          refine V_lv [0, 4, 1, 2, 3] rfl ?_
          exact K
        · refine r_iload_n h 2 rfl rfl dX0_putLined_14 ?_
          refine r_goto h 25 dX0_putLined_15 (by decide) ?_
          refine r_istore h ([(4, .int p), (0, .ref (G.1 i)), (1, .ref (G.1 k)), (2, .int p), (3, .int (nI j))]) dX0_putLined_25 (by decide) rfl ?_
          rw [if_pos z] at K
          refine V_lv [0, 4, 1, 2, 3] rfl ?_
          exact K
        · generalize hg : (if j = 0 then p else L2.getD (j - 1) 0) = g
          refine r_aload_n h 3 rfl rfl dX0_putLined_27 ?_
          refine r_iload_n h 1 rfl rfl dX0_putLined_28 ?_
          refine r_cV h k_X0_19 (i := k) (As := [.int (nI j)]) (rest := []) (c_X0_at h.i h.t (by omega) w2 (nI (j))) (by omega) w2.1 rfl rfl rfl (Nat.le_of_ble_eq_true rfl) ⟨by decide, by decide, by decide, by decide⟩ dX0_putLined_29 (fun _ z => z.elim) (fun v7 c8 p9 => ?_)
          obtain ⟨r, rfl, rfl, rfl⟩ := p9
          rw [atP_nI q (by omega)]
          refine r_iload h 0 rfl dX0_putLined_32 ?_
          refine r_cS h k_X0_31 (As := [.int (L2.getD j 0), .int g]) (rest := []) (c_X0_lined h.i h.t (L2.getD j 0) g) rfl rfl (Nat.le_of_ble_eq_true rfl) ⟨by decide, by decide, by decide, by decide⟩ dX0_putLined_34 (fun _ z => z.elim) (fun v10 c11 p12 => ?_)
          obtain ⟨r, rfl, rfl, rfl⟩ := p12
          refine r_istore h ([(5, .int (lin1 (L2.getD j 0) g)), (4, .int g), (3, .int (nI j)), (0, .ref (G.1 i)), (1, .ref (G.1 k)), (2, .int p)]) dX0_putLined_37 (by decide) rfl ?_
          refine r_iload h 0 rfl dX0_putLined_39 ?_
          refine r_iconst h (v := -1) (by decide) dX0_putLined_41 ?_
          refine r_icmp_eq h 51 dX0_putLined_42 (by decide) (fun u => ?_) (fun u => ?_)
          · refine r_iinc h 2 ([(3, .int (nI (j + 1))), (5, .int (lin1 (L2.getD j 0) g)), (4, .int g), (0, .ref (G.1 i)), (1, .ref (G.1 k)), (2, .int p)]) rfl (inc_1 (j)) dX0_putLined_51 (by decide) rfl ?_
            refine r_goto h 2 dX0_putLined_54 (by decide) ?_
            have w9 : RowAt G c1 i (L ++ lnT p L2 (j + 1)) := by rw [lnT_s hg, lnS, if_pos u]; exact w1
            refine V_lv [3, 4, 5, 0] rfl ?_
            exact ih (j + 1) c1 (by omega) (by omega) w9 w2 k1
          · refine r_aload_n h 3 rfl rfl dX0_putLined_45 ?_
            refine r_iload h 0 rfl dX0_putLined_46 ?_
            refine r_cV h k_X0_27 (i := i) (As := [.int (lin1 (L2.getD j 0) g)]) (rest := []) (c_X0_put h.i h.t (by omega) w1 (by rw [List.length_append]; omega) (lin1 (L2.getD j 0) g)) (by omega) w1.1 rfl rfl rfl (Nat.le_of_ble_eq_true rfl) ⟨by decide, by decide, by decide, by decide⟩ dX0_putLined_48 (fun _ z => z.elim) (fun v16 c13 p17 => ?_)
            obtain ⟨rfl, w14, k15⟩ := p17
            have g18 := w2.mono (k15 (k) (by omega) (by omega)) (k15 (k + 1) (by omega) (by omega))
            have w14 : RowAt G c13 (i) (L ++ lnT p L2 (j + 1)) := by rw [lnT_s hg, lnS, if_neg u, ← List.append_assoc]; exact w14
            refine r_iinc h 2 ([(3, .int (nI (j + 1))), (5, .int (lin1 (L2.getD j 0) g)), (4, .int g), (0, .ref (G.1 i)), (1, .ref (G.1 k)), (2, .int p)]) rfl (inc_1 (j)) dX0_putLined_51 (by decide) rfl ?_
            refine r_goto h 2 dX0_putLined_54 (by decide) ?_
            refine V_lv [3, 4, 5, 0] rfl ?_
            exact ih (j + 1) c13 (by omega) (by omega) w14 g18 (fun y a b => (k15 y a b).trans (k1 y a b))
  refine V_lv [1, 2, 3, 0] rfl ?_
  exact loop (L2.length + 1) 0 c (by omega) (Nat.zero_le _) (by simpa [lnT] using hw) hw2 (fun y _ _ => rfl)
set_option maxRecDepth 100000 in
set_option maxHeartbeats 4000000 in
/-- X0_countEnds -/
theorem c_X0_countEnds {G : GG} {l : Launch} {c : CC} (hG : InjG G) (hl0 : l.stackTraces = false) {i : Nat} (hi : i < 48) {L : List Int32} (hw : RowAt G c i L) : MC G l yX0_countEnds (.code yX0_countEnds cX0_countEnds 3 (some .int) :: gws) (rmF 1 0 0 21) [.ref (G.1 i)] c (pI (fun r c' => c = c' ∧ nI (ecT L L.length) = r)) (pF) := by
  refine MC.of (by decide) hl0 hG (Nat.le_of_ble_eq_true rfl) (fun X hX h hN hQ hr => ?_)
  subst hX
  refine r_iconst h (v := nI 0) (by decide) dX0_countEnds_0 ?_
  refine r_istore_n h ([(1, .int (nI 0)), (0, .ref (G.1 i))]) rfl dX0_countEnds_1 (by decide) rfl ?_
  refine r_iconst h (v := nI 0) (by decide) dX0_countEnds_2 ?_
  refine r_istore_n h ([(2, .int (nI 0)), (1, .int (nI 0)), (0, .ref (G.1 i))]) rfl dX0_countEnds_3 (by decide) rfl ?_
  have hle0 := hw.le
  have loop : ∀ (n j m : Nat), L.length + 1 ≤ j + n → j ≤ L.length → m = ecT L j → m ≤ j → V G X c [(0, .ref (G.1 i)), (1, .int (nI m)), (2, .int (nI j))] 0 0 4 [] := by
    intro n
    induction n with
    | zero => intro j m a1 a2; exact absurd a1 (by omega)
    | succ n ih =>
      intro j m a1 a2 a3 a4
      refine r_iload_n h 2 rfl rfl dX0_countEnds_4 ?_
      refine r_aload_n h 0 rfl rfl dX0_countEnds_5 ?_
      refine r_getf h F_X0_15 (i := i) (by omega) hw.1 rfl dX0_countEnds_6 ?_
      refine rn_icmp_ge h (a := j) (b := L.length) (by omega) (by omega) 41 dX0_countEnds_9 (by decide) (fun q => ?_) (fun q => ?_)
      · refine r_iload_n h 1 rfl rfl dX0_countEnds_41 ?_
        exact r_iret h hQ hr dX0_countEnds_42 ⟨by decide, by decide⟩ ⟨_, rfl, rfl, by rw [a3, show j = L.length by omega]⟩
      · refine r_aload_n h 0 rfl rfl dX0_countEnds_12 ?_
        refine r_iload_n h 2 rfl rfl dX0_countEnds_13 ?_
        refine r_cV h k_X0_19 (i := i) (As := [.int (nI j)]) (rest := []) (c_X0_at h.i h.t (by omega) hw (nI (j))) (by omega) hw.1 rfl rfl rfl (Nat.le_of_ble_eq_true rfl) ⟨by decide, by decide, by decide, by decide⟩ dX0_countEnds_14 (fun _ z => z.elim) (fun v1 c2 p3 => ?_)
        obtain ⟨r, rfl, rfl, rfl⟩ := p3
        rw [atP_nI q (by omega)]
        refine r_aload_n h 0 rfl rfl dX0_countEnds_17 ?_
        refine r_iload_n h 2 rfl rfl dX0_countEnds_18 ?_
        refine r_iconst h (v := nI 1) (by decide) dX0_countEnds_19 ?_
        refine r_isub h rfl dX0_countEnds_20 ?_
        refine r_cV h k_X0_19 (i := i) (As := [.int ((nI (j)) - (nI (1)))]) (rest := [.int (L.getD (j) 0)]) (c_X0_at h.i h.t (by omega) hw ((nI (j)) - (nI (1)))) (by omega) hw.1 rfl rfl rfl (Nat.le_of_ble_eq_true rfl) ⟨by decide, by decide, by decide, by decide⟩ dX0_countEnds_21 (fun _ z => z.elim) (fun v4 c5 p6 => ?_)
        obtain ⟨r, rfl, rfl, rfl⟩ := p6
        refine r_cS h k_X0_31 (As := [.int (L.getD j 0), .int (atP L (nI j - nI 1))]) (rest := []) (c_X0_lined h.i h.t (L.getD j 0) (atP L (nI j - 1))) rfl rfl (Nat.le_of_ble_eq_true rfl) ⟨by decide, by decide, by decide, by decide⟩ dX0_countEnds_24 (fun _ z => z.elim) (fun v7 c8 p9 => ?_)
        obtain ⟨r, rfl, rfl, rfl⟩ := p9
        refine r_bipush h (v := nI 10) (by decide) dX0_countEnds_27 ?_
        refine r_icmp_ne h 35 dX0_countEnds_29 (by decide) (fun u => ?_) (fun u => ?_)
        · refine r_iinc h 2 ([(2, .int (nI (j + 1))), (0, .ref (G.1 i)), (1, .int (nI m))]) rfl (inc_1 (j)) dX0_countEnds_35 (by decide) rfl ?_
          refine r_goto h 4 dX0_countEnds_38 (by decide) ?_
          refine V_lv [1, 2, 0] rfl ?_
          exact ih (j + 1) m (by omega) (by omega) (by rw [a3]; show ecT L j = ecT L j + (if lin1 (L.getD j 0) (atP L (nI j - 1)) = nI 10 then 1 else 0); rw [if_neg u]; rfl) (by omega)
        · refine r_iinc h 1 ([(1, .int (nI (m + 1))), (0, .ref (G.1 i)), (2, .int (nI j))]) rfl (inc_1 (m)) dX0_countEnds_32 (by decide) rfl ?_
          refine r_iinc h 2 ([(2, .int (nI (j + 1))), (1, .int (nI (m + 1))), (0, .ref (G.1 i))]) rfl (inc_1 (j)) dX0_countEnds_35 (by decide) rfl ?_
          refine r_goto h 4 dX0_countEnds_38 (by decide) ?_
          refine V_lv [2, 1, 0] rfl ?_
          exact ih (j + 1) (m + 1) (by omega) (by omega) (by rw [a3]; show ecT L j + 1 = ecT L j + (if lin1 (L.getD j 0) (atP L (nI j - 1)) = nI 10 then 1 else 0); rw [if_pos u]) (by omega)
  refine V_lv [2, 1, 0] rfl ?_
  exact loop (L.length + 1) 0 0 (by omega) (Nat.zero_le _) rfl (Nat.le_refl 0)
