/-! STREAM -/
theorem mm_X1 : Cond.methodLink RX1 83 Lib.Math.min.name ∈ gws ∧ Cond.static Lib.Math.min.name ∈ gws ∧ Cond.initialized "java/lang/Math" ∈ gws ∧ Cond.code Lib.Math.min.name Lib.Math.min.code 2 (some .int) ∈ gws := ⟨gm 299 (by decide +kernel), gm 300 (by decide +kernel), gm 46 (by decide +kernel), gm 301 (by decide +kernel)⟩
theorem rn_mmin {G : GG} {X : CX} {cc : ByteArray} {nL : Nat} {rm : Room} {c : CC} {lv : LV} {k n pc : Nat} {st : List Value} (h : Ok G X RX1 cc nL rm) {a b : Nat} (ha : a < 2147483648) (hb : b < 2147483648) (hR : 1 ≤ rm.frames ∧ (st.map fun v => v.category).sum + 13 ≤ rm.locals ∧ k ≤ rm.cells ∧ n ≤ rm.slots) (d : decode cc pc = .ok (.invokestatic 83, 3)) (kk : V G X c lv k n (pc + 3) (.int (nI (min a b)) :: st)) : V G X c lv k n pc (.int (nI b) :: .int (nI a) :: st) := by
  intro H locs ls hP hS hl
  refine va_mmin h.x h.b hl.1.symm h.o (h.w _ mm_X1.1) (h.w _ mm_X1.2.1) (h.w _ mm_X1.2.2.1) (h.w _ mm_X1.2.2.2) (by rw [h.r]; exact hR.1) (by rw [h.r]; exact hR.2.1) (by rw [h.r]; exact hR.2.2.1) (by rw [h.r]; exact hR.2.2.2) d ?_
  have e : (if nI b < nI a then nI b else nI a) = nI (min a b) := by
    by_cases q : b < a
    · rw [if_pos (nI_lt q ha), Nat.min_eq_right (Nat.le_of_lt q)]
    · rw [if_neg (nI_nlt (Nat.le_of_not_lt q) hb), Nat.min_eq_left (Nat.le_of_not_lt q)]
  rw [e]
  exact kk H locs ls hP hS hl
set_option maxRecDepth 100000 in
set_option maxHeartbeats 4000000 in
/-- X1_rest -/
theorem c_X1_rest {G : GG} {l : Launch} {c : CC} (hG : InjG G) (hl0 : l.stackTraces = false) {i : Nat} (hi : i < 46) {t : Stm} (hw : StrAt G c i t) : MC G l yX1_rest (.code yX1_rest cX1_rest 1 (some .int) :: gws) (rmF 1 0 0 20) [.ref (G.1 i)] c (pI (fun r c' => c = c' ∧ nI ((sO t).length - sP t) = r)) (pF) := by
  refine MC.of (by decide) hl0 hG (Nat.le_of_ble_eq_true rfl) (fun X hX h hN hQ hr => ?_)
  subst hX
  obtain ⟨K, O, M, P, N, g, mk⟩ := t
  obtain ⟨hok, hrow, rg, mp, ml, h0, hrg, hmk⟩ := id hw
  have hP : P ≤ O.length := hok.1
  have hle : O.length ≤ 240 := hrow.le
  have hMl : M ≤ O.length := hok.2.2.2.1
  have hSl : seC K M ≤ M := by unfold seC; split <;> omega
  have hrow : RowAt G c (i + 1) O := hrow
  have h0 : c i = .inr (3, [.ref (G.1 (i + 1)), .int K, .int (nI (seC K M)), .int (nI P), .int N, .long (rg), .int mp, .int ml]) := h0
  refine r_aload_n h 0 rfl rfl dX1_rest_0 ?_
  refine r_getf h F_X1_12 (i := i) (by omega) h0 rfl dX1_rest_1 ?_
  refine r_cV h k_X1_65 (i := i + 1) (As := []) (rest := []) (c_X0_size h.i h.t (by omega) hrow) (by omega) hrow.1 rfl rfl rfl (Nat.le_of_ble_eq_true rfl) ⟨by decide, by decide, by decide, by decide⟩ dX1_rest_4 (fun _ z => z.elim) (fun v1 c2 p3 => ?_)
  obtain ⟨r, rfl, rfl, rfl⟩ := p3
  refine r_aload_n h 0 rfl rfl dX1_rest_7 ?_
  refine r_getf h F_X1_26 (i := i) (by omega) h0 rfl dX1_rest_8 ?_
  refine r_isub h (pk_sub (a := O.length) (b := P) (by omega)) dX1_rest_11 ?_
  exact r_iret h hQ hr dX1_rest_12 ⟨by decide, by decide⟩ ⟨_, rfl, rfl, rfl⟩
set_option maxRecDepth 100000 in
set_option maxHeartbeats 4000000 in
/-- X1_restOfLine -/
theorem c_X1_restOfLine {G : GG} {l : Launch} {c : CC} (hG : InjG G) (hl0 : l.stackTraces = false) {i : Nat} (hi : i < 46) {t : Stm} (hw : StrAt G c i t) : MC G l yX1_restOfLine (.code yX1_restOfLine cX1_restOfLine 2 (some .int) :: gws) (rmF 2 0 0 40) [.ref (G.1 i)] c (pI (fun r c' => c = c' ∧ nI (nl ((sO t).drop (sP t))) = r)) (pF) := by
  refine MC.of (by decide) hl0 hG (Nat.le_of_ble_eq_true rfl) (fun X hX h hN hQ hr => ?_)
  subst hX
  obtain ⟨K, O, M, P, N, g, mk⟩ := t
  obtain ⟨hok, hrow, rg, mp, ml, h0, hrg, hmk⟩ := id hw
  have hP : P ≤ O.length := hok.1
  have hle : O.length ≤ 240 := hrow.le
  have hMl : M ≤ O.length := hok.2.2.2.1
  have hSl : seC K M ≤ M := by unfold seC; split <;> omega
  have hrow : RowAt G c (i + 1) O := hrow
  have h0 : c i = .inr (3, [.ref (G.1 (i + 1)), .int K, .int (nI (seC K M)), .int (nI P), .int N, .long (rg), .int mp, .int ml]) := h0
  refine r_aload_n h 0 rfl rfl dX1_restOfLine_0 ?_
  refine r_getf h F_X1_26 (i := i) (by omega) h0 rfl dX1_restOfLine_1 ?_
  refine r_istore_n h ([(1, .int (nI P)), (0, .ref (G.1 i))]) rfl dX1_restOfLine_4 (by decide) rfl ?_
  have loop : ∀ (n j : Nat), O.length + 1 ≤ j + n → j ≤ O.length → P ≤ j → nl (O.drop P) = (j - P) + nl (O.drop j) → V G X c [(0, .ref (G.1 i)), (1, .int (nI j))] 0 0 5 [] := by
    intro n
    induction n with
    | zero => intro j a1 a2; exact absurd a1 (by omega)
    | succ n ih =>
      intro j a1 a2 a3 a4
      refine r_iload_n h 1 rfl rfl dX1_restOfLine_5 ?_
      refine r_aload_n h 0 rfl rfl dX1_restOfLine_6 ?_
      refine r_getf h F_X1_12 (i := i) (by omega) h0 rfl dX1_restOfLine_7 ?_
      refine r_cV h k_X1_65 (i := i + 1) (As := []) (rest := [.int (nI j)]) (c_X0_size h.i h.t (by omega) hrow) (by omega) hrow.1 rfl rfl rfl (Nat.le_of_ble_eq_true rfl) ⟨by decide, by decide, by decide, by decide⟩ dX1_restOfLine_10 (fun _ z => z.elim) (fun v1 c2 p3 => ?_)
      obtain ⟨r, rfl, rfl, rfl⟩ := p3
      refine rn_icmp_ge h (a := j) (b := O.length) (by omega) (by omega) 42 dX1_restOfLine_13 (by decide) (fun q => ?_) (fun q => ?_)
      · refine r_aload_n h 0 rfl rfl dX1_restOfLine_42 ?_
        obtain ⟨_, o4⟩ := hw.obj
        refine r_cV h k_X1_73 (i := i) (As := []) (rest := []) (c_X1_rest h.i h.t (by omega) hw) (by omega) o4 rfl rfl rfl (Nat.le_of_ble_eq_true rfl) ⟨by decide, by decide, by decide, by decide⟩ dX1_restOfLine_43 (fun _ z => z.elim) (fun v5 c6 p7 => ?_)
        obtain ⟨r, rfl, rfl, rfl⟩ := p7
        exact r_iret h hQ hr dX1_restOfLine_46 ⟨by decide, by decide⟩ ⟨_, rfl, rfl, by rw [a4, nl_end q, show j = O.length by omega]; rfl⟩
      · refine r_aload_n h 0 rfl rfl dX1_restOfLine_16 ?_
        refine r_getf h F_X1_12 (i := i) (by omega) h0 rfl dX1_restOfLine_17 ?_
        refine r_iload_n h 1 rfl rfl dX1_restOfLine_20 ?_
        refine r_cV h k_X1_69 (i := i + 1) (As := [.int (nI j)]) (rest := []) (c_X0_at h.i h.t (by omega) hrow (nI (j))) (by omega) hrow.1 rfl rfl rfl (Nat.le_of_ble_eq_true rfl) ⟨by decide, by decide, by decide, by decide⟩ dX1_restOfLine_21 (fun _ z => z.elim) (fun v8 c9 p10 => ?_)
        obtain ⟨r, rfl, rfl, rfl⟩ := p10
        rw [atP_nI q (by omega)]
        refine r_bipush h (v := nI 10) (by decide) dX1_restOfLine_24 ?_
        refine r_icmp_ne h 36 dX1_restOfLine_26 (by decide) (fun u => ?_) (fun u => ?_)
        · refine r_iinc h 1 ([(1, .int (nI (j + 1))), (0, .ref (G.1 i))]) rfl (inc_1 (j)) dX1_restOfLine_36 (by decide) rfl ?_
          refine r_goto h 5 dX1_restOfLine_39 (by decide) ?_
          refine V_lv [1, 0] rfl ?_
          exact ih (j + 1) (by omega) (by omega) (by omega) (by rw [a4, nl_no q u]; omega)
        · refine r_iload_n h 1 rfl rfl dX1_restOfLine_29 ?_
          refine r_aload_n h 0 rfl rfl dX1_restOfLine_30 ?_
          refine r_getf h F_X1_26 (i := i) (by omega) h0 rfl dX1_restOfLine_31 ?_
          refine r_isub h (pk_sub (a := j) (b := P) (by omega)) dX1_restOfLine_34 ?_
          exact r_iret h hQ hr dX1_restOfLine_35 ⟨by decide, by decide⟩ ⟨_, rfl, rfl, by rw [a4, nl_yes q u]; rfl⟩
  refine V_lv [1, 0] rfl ?_
  exact loop (O.length + 1) P (by omega) hP (Nat.le_refl P) (by omega)
set_option maxRecDepth 100000 in
set_option maxHeartbeats 4000000 in
/-- X1_next -/
theorem c_X1_next {G : GG} {l : Launch} {c : CC} (hG : InjG G) (hl0 : l.stackTraces = false) {i : Nat} (hi : i < 46) {t : Stm} (hw : StrAt G c i t) : MC G l yX1_next (.code yX1_next cX1_next 2 (some .int) :: gws) (rmF 1 0 0 26) [.ref (G.1 i)] c (pI (fun r c' => StrAt G c' i (pNx t) ∧ nxA t = r ∧ ∀ j : Nat, j ≠ i → c' j = c j)) (pF) := by
  refine MC.of (by decide) hl0 hG (Nat.le_of_ble_eq_true rfl) (fun X hX h hN hQ hr => ?_)
  subst hX
  obtain ⟨K, O, M, P, N, g, mk⟩ := t
  obtain ⟨hok, hrow, rg, mp, ml, h0, hrg, hmk⟩ := id hw
  have hP : P ≤ O.length := hok.1
  have hle : O.length ≤ 240 := hrow.le
  have hMl : M ≤ O.length := hok.2.2.2.1
  have hSl : seC K M ≤ M := by unfold seC; split <;> omega
  have hrow : RowAt G c (i + 1) O := hrow
  have h0 : c i = .inr (3, [.ref (G.1 (i + 1)), .int K, .int (nI (seC K M)), .int (nI P), .int N, .long (rg), .int mp, .int ml]) := h0
  refine r_aload_n h 0 rfl rfl dX1_next_0 ?_
  refine r_getf h F_X1_12 (i := i) (by omega) h0 rfl dX1_next_1 ?_
  refine r_aload_n h 0 rfl rfl dX1_next_4 ?_
  refine r_getf h F_X1_26 (i := i) (by omega) h0 rfl dX1_next_5 ?_
  refine r_cV h k_X1_69 (i := i + 1) (As := [.int (nI P)]) (rest := []) (c_X0_at h.i h.t (by omega) hrow (nI (P))) (by omega) hrow.1 rfl rfl rfl (Nat.le_of_ble_eq_true rfl) ⟨by decide, by decide, by decide, by decide⟩ dX1_next_8 (fun _ z => z.elim) (fun v1 c2 p3 => ?_)
  obtain ⟨r, rfl, rfl, rfl⟩ := p3
  rcases Nat.lt_or_ge P O.length with hlt | hlt
  · rw [atP_nI hlt (by omega)]
    have hB : isB (O.getD P 0) := hok.2.1 P hlt
    have hA : nxA (K, O, M, P, N, g, mk) = O.getD P 0 := if_pos hlt
    refine r_istore_n h ([(1, .int (O.getD P 0)), (0, .ref (G.1 i))]) rfl dX1_next_11 (by decide) rfl ?_
    refine r_iload_n h 0 rfl rfl dX1_next_12 ?_
    refine r_iconst h (v := -1) (by decide) dX1_next_13 ?_
    refine r_icmp_ne h 19 dX1_next_14 (by decide) (fun q => ?_) (fun q => ?_)
    · refine r_aload_n h 1 rfl rfl dX1_next_19 ?_
      refine r_dup h rfl dX1_next_20 ?_
      refine r_getf h F_X1_26 (i := i) (by omega) h0 rfl dX1_next_21 ?_
      refine r_iconst h (v := nI 1) (by decide) dX1_next_24 ?_
      refine r_iadd h (nI_add (P) (1)) dX1_next_25 ?_
      refine r_putf h F_X1_26 ft_X1 (i := i) (by omega) h0 ([.ref (G.1 (i + 1)), .int K, .int (nI (seC K M)), .int (nI (P + 1)), .int N, .long (rg), .int mp, .int ml]) rfl rfl rfl rfl (Nat.le_of_ble_eq_true rfl) dX1_next_26 (fun c4 h5 k6 => ?_)
      have g7 := hrow.mono (k6 (i + 1) (by omega)) (k6 (i + 1 + 1) (by omega))
      refine r_iload_n h 0 rfl rfl dX1_next_29 ?_
      refine r_bipush h (v := nI 10) (by decide) dX1_next_30 ?_
      refine r_icmp_ne h 45 dX1_next_32 (by decide) (fun v => ?_) (fun v => ?_)
      · refine r_aload_n h 1 rfl rfl dX1_next_45 ?_
        refine r_getf h F_X1_18 (i := i) (by omega) h5 rfl dX1_next_46 ?_
        refine r_cN h k_X1_76 (As := [.int K]) (rest := []) (c_X3_hasCheck h.i h.t K) rfl rfl (Nat.le_of_ble_eq_true rfl) ⟨by decide, by decide, by decide, by decide⟩ dX1_next_49 (fun _ z => z.elim) (fun v8 c9 p10 => ?_)
        obtain ⟨r, rfl, rfl, rfl⟩ := p10
        refine rb_if_eq h 67 dX1_next_52 (by decide) (fun u => ?_) (fun u => ?_)
        · refine r_iload_n h 0 rfl rfl dX1_next_67 ?_
          exact r_iret h hQ hr dX1_next_68 ⟨by decide, by decide⟩ ⟨_, rfl, StrAt.nx hok hlt g7 h5 (if_neg v) (fun z => absurd z u) hmk, hA, fun j a => k6 j a⟩
        · refine r_aload_n h 1 rfl rfl dX1_next_55 ?_
          refine r_aload_n h 1 rfl rfl dX1_next_56 ?_
          refine r_getf h F_X1_34 (i := i) (by omega) h5 rfl dX1_next_57 ?_
          refine r_iload_n h 0 rfl rfl dX1_next_60 ?_
          refine r_cN h k_X1_79 (As := [.long (rg), .int (O.getD P 0)]) (rest := [.ref (G.1 i)]) (c_X3_withByte h.i h.t rg (O.getD P 0)) rfl rfl (Nat.le_of_ble_eq_true rfl) ⟨by decide, by decide, by decide, by decide⟩ dX1_next_61 (fun _ z => z.elim) (fun v11 c12 p13 => ?_)
          obtain ⟨r, rfl, rfl, rfl⟩ := p13
          refine r_putf h F_X1_34 ft_X1 (i := i) (by omega) h5 ([.ref (G.1 (i + 1)), .int K, .int (nI (seC K M)), .int (nI (P + 1)), .int N, .long (wb rg (O.getD P 0)), .int mp, .int ml]) rfl rfl rfl rfl (Nat.le_of_ble_eq_true rfl) dX1_next_64 (fun c14 h15 k16 => ?_)
          have g17 := g7.mono (k16 (i + 1) (by omega)) (k16 (i + 1 + 1) (by omega))
          refine r_iload_n h 0 rfl rfl dX1_next_67 ?_
          exact r_iret h hQ hr dX1_next_68 ⟨by decide, by decide⟩ ⟨_, rfl, StrAt.nx hok hlt g17 h15 (if_neg v) (fun z => by rw [hrg z]) hmk, hA, fun j a => (k16 j a).trans ( k6 j a)⟩
      · refine r_aload_n h 1 rfl rfl dX1_next_35 ?_
        refine r_dup h rfl dX1_next_36 ?_
        refine r_getf h F_X1_29 (i := i) (by omega) h5 rfl dX1_next_37 ?_
        refine r_iconst h (v := nI 1) (by decide) dX1_next_40 ?_
        refine r_iadd h rfl dX1_next_41 ?_
        refine r_putf h F_X1_29 ft_X1 (i := i) (by omega) h5 ([.ref (G.1 (i + 1)), .int K, .int (nI (seC K M)), .int (nI (P + 1)), .int ((N) + (nI (1))), .long (rg), .int mp, .int ml]) rfl rfl rfl rfl (Nat.le_of_ble_eq_true rfl) dX1_next_42 (fun c18 h19 k20 => ?_)
        have g21 := g7.mono (k20 (i + 1) (by omega)) (k20 (i + 1 + 1) (by omega))
        refine r_aload_n h 1 rfl rfl dX1_next_45 ?_
        refine r_getf h F_X1_18 (i := i) (by omega) h19 rfl dX1_next_46 ?_
        refine r_cN h k_X1_76 (As := [.int K]) (rest := []) (c_X3_hasCheck h.i h.t K) rfl rfl (Nat.le_of_ble_eq_true rfl) ⟨by decide, by decide, by decide, by decide⟩ dX1_next_49 (fun _ z => z.elim) (fun v22 c23 p24 => ?_)
        obtain ⟨r, rfl, rfl, rfl⟩ := p24
        refine rb_if_eq h 67 dX1_next_52 (by decide) (fun u => ?_) (fun u => ?_)
        · refine r_iload_n h 0 rfl rfl dX1_next_67 ?_
          exact r_iret h hQ hr dX1_next_68 ⟨by decide, by decide⟩ ⟨_, rfl, StrAt.nx hok hlt g21 h19 (if_pos v) (fun z => absurd z u) hmk, hA, fun j a => (k20 j a).trans ( k6 j a)⟩
        · refine r_aload_n h 1 rfl rfl dX1_next_55 ?_
          refine r_aload_n h 1 rfl rfl dX1_next_56 ?_
          refine r_getf h F_X1_34 (i := i) (by omega) h19 rfl dX1_next_57 ?_
          refine r_iload_n h 0 rfl rfl dX1_next_60 ?_
          refine r_cN h k_X1_79 (As := [.long (rg), .int (O.getD P 0)]) (rest := [.ref (G.1 i)]) (c_X3_withByte h.i h.t rg (O.getD P 0)) rfl rfl (Nat.le_of_ble_eq_true rfl) ⟨by decide, by decide, by decide, by decide⟩ dX1_next_61 (fun _ z => z.elim) (fun v25 c26 p27 => ?_)
          obtain ⟨r, rfl, rfl, rfl⟩ := p27
          refine r_putf h F_X1_34 ft_X1 (i := i) (by omega) h19 ([.ref (G.1 (i + 1)), .int K, .int (nI (seC K M)), .int (nI (P + 1)), .int ((N) + (nI (1))), .long (wb rg (O.getD P 0)), .int mp, .int ml]) rfl rfl rfl rfl (Nat.le_of_ble_eq_true rfl) dX1_next_64 (fun c28 h29 k30 => ?_)
          have g31 := g21.mono (k30 (i + 1) (by omega)) (k30 (i + 1 + 1) (by omega))
          refine r_iload_n h 0 rfl rfl dX1_next_67 ?_
          exact r_iret h hQ hr dX1_next_68 ⟨by decide, by decide⟩ ⟨_, rfl, StrAt.nx hok hlt g31 h29 (if_pos v) (fun z => by rw [hrg z]) hmk, hA, fun j a => (k30 j a).trans ( (k20 j a).trans ( k6 j a))⟩
    · exact absurd q (isB_ne hB)
  · rw [atP_out hlt (by omega)]
    refine r_istore_n h ([(1, .int (-1)), (0, .ref (G.1 i))]) rfl dX1_next_11 (by decide) rfl ?_
    refine r_iload_n h 0 rfl rfl dX1_next_12 ?_
    refine r_iconst h (v := -1) (by decide) dX1_next_13 ?_
    refine r_icmp_ne h 19 dX1_next_14 (by decide) (fun q => ?_) (fun q => ?_)
    · exact absurd rfl q
    · refine r_iconst h (v := -1) (by decide) dX1_next_17 ?_
      exact r_iret h hQ hr dX1_next_18 ⟨by decide, by decide⟩ ⟨_, rfl, by rw [show pNx (K, O, M, P, N, g, mk) = (K, O, M, P, N, g, mk) from if_neg (Nat.not_lt.mpr hlt)]; exact hw, if_neg (Nat.not_lt.mpr hlt), fun _ _ => rfl⟩
set_option maxRecDepth 100000 in
set_option maxHeartbeats 4000000 in
/-- X1_pass -/
theorem c_X1_pass {G : GG} {l : Launch} {c : CC} (hG : InjG G) (hl0 : l.stackTraces = false) {i : Nat} (hi : i < 46) {t : Stm} (hw : StrAt G c i t) (m : Nat) (hm : m < 2147483648) : MC G l yX1_pass (.code yX1_pass cX1_pass 4 (some .int) :: gws) (rmF 2 0 0 47) [.ref (G.1 i), .int (nI m)] c (pI (fun r c' => StrAt G c' i (pPn (min m ((sO t).length - sP t)) t) ∧ nI (min m ((sO t).length - sP t)) = r ∧ ∀ j : Nat, j ≠ i → c' j = c j)) (pF) := by
  refine MC.of (by decide) hl0 hG (Nat.le_of_ble_eq_true rfl) (fun X hX h hN hQ hr => ?_)
  subst hX
  have hle : (sO t).length ≤ 240 := hw.2.1.le
  refine r_iload_n h 1 rfl rfl dX1_pass_0 ?_
  refine r_aload_n h 0 rfl rfl dX1_pass_1 ?_
  obtain ⟨_, o1⟩ := hw.obj
  refine r_cV h k_X1_73 (i := i) (As := []) (rest := [.int (nI m)]) (c_X1_rest h.i h.t (by omega) hw) (by omega) o1 rfl rfl rfl (Nat.le_of_ble_eq_true rfl) ⟨by decide, by decide, by decide, by decide⟩ dX1_pass_2 (fun _ z => z.elim) (fun v2 c3 p4 => ?_)
  obtain ⟨r, rfl, rfl, rfl⟩ := p4
  refine rn_mmin h (a := m) (b := (sO t).length - sP t) (by omega) (by omega) ⟨by decide, Nat.le_of_ble_eq_true rfl, by decide, by decide⟩ dX1_pass_5 ?_
  generalize hs : min m ((sO t).length - sP t) = s
  rw [hs] at hQ
  have hs2 : s ≤ 240 := by omega
  refine r_istore_n h ([(2, .int (nI s)), (0, .ref (G.1 i)), (1, .int (nI m))]) rfl dX1_pass_8 (by decide) rfl ?_
  refine r_iconst h (v := nI 0) (by decide) dX1_pass_9 ?_
  refine r_istore_n h ([(3, .int (nI 0)), (2, .int (nI s)), (0, .ref (G.1 i)), (1, .int (nI m))]) rfl dX1_pass_10 (by decide) rfl ?_
  have loop : ∀ (n j : Nat) (c1 : CC), s + 1 ≤ j + n → j ≤ s → StrAt G c1 i (pPn j t) → (∀ y : Nat, y ≠ i → c1 y = c y) → V G X c1 [(0, .ref (G.1 i)), (2, .int (nI s)), (3, .int (nI j))] 0 0 11 [] := by
    intro n
    induction n with
    | zero => intro j c1 a1 a2; exact absurd a1 (by omega)
    | succ n ih =>
      intro j c1 a1 a2 w1 k1
      refine r_iload_n h 2 rfl rfl dX1_pass_11 ?_
      refine r_iload_n h 1 rfl rfl dX1_pass_12 ?_
      refine rn_icmp_ge h (a := j) (b := s) (by omega) (by omega) 27 dX1_pass_13 (by decide) (fun q => ?_) (fun q => ?_)
      · refine r_iload_n h 1 rfl rfl dX1_pass_27 ?_
        exact r_iret h hQ hr dX1_pass_28 ⟨by decide, by decide⟩ ⟨_, rfl, by rw [show j = s by omega] at w1; exact w1, rfl, k1⟩
      · refine r_aload_n h 0 rfl rfl dX1_pass_16 ?_
        obtain ⟨_, o5⟩ := w1.obj
        refine r_cV h k_X1_89 (i := i) (As := []) (rest := []) (c_X1_next h.i h.t (by omega) w1) (by omega) o5 rfl rfl rfl (Nat.le_of_ble_eq_true rfl) ⟨by decide, by decide, by decide, by decide⟩ dX1_pass_17 (fun _ z => z.elim) (fun v9 c6 p10 => ?_)
        obtain ⟨r, rfl, w7, rfl, k8⟩ := p10
        refine r_pop h rfl dX1_pass_20 ?_
        refine r_iinc h 2 ([(3, .int (nI (j + 1))), (0, .ref (G.1 i)), (2, .int (nI s))]) rfl (inc_1 (j)) dX1_pass_21 (by decide) rfl ?_
        refine r_goto h 11 dX1_pass_24 (by decide) ?_
        refine V_lv [1, 2, 0] rfl ?_
        exact ih (j + 1) c6 (by omega) (by omega) w7 (fun y a => (k8 y a).trans (k1 y a))
  refine V_lv [2, 1, 0] rfl ?_
  exact loop (s + 1) 0 c (by omega) (by omega) hw (fun _ _ => rfl)
set_option maxRecDepth 100000 in
set_option maxHeartbeats 4000000 in
/-- X1_move -/
theorem c_X1_move {G : GG} {l : Launch} {c : CC} (hG : InjG G) (hl0 : l.stackTraces = false) {i : Nat} (hi : i < 46) {t : Stm} (hw : StrAt G c i t) (m : Nat) (hm : sP t + m ≤ (sO t).length) {k : Nat} (hk : k < 48) {L2 : List Int32} (hw2 : RowAt G c k L2) (hne : k + 1 < i ∨ i + 2 < k) : MC G l yX1_move (.code yX1_move cX1_move 4 none :: gws) (rmF 2 0 0 47) [.ref (G.1 i), .int (nI m), .ref (G.1 k)] c (pV (fun c' => StrAt G c' i (pPn m t) ∧ RowAt G c' k (((sO t).drop (sP t)).take m) ∧ ∀ j : Nat, j ≠ i → j ≠ k → j ≠ k + 1 → c' j = c j)) (pF) := by
  refine MC.of (by decide) hl0 hG (Nat.le_of_ble_eq_true rfl) (fun X hX h hN hQ hr => ?_)
  subst hX
  have hle : (sO t).length ≤ 240 := hw.2.1.le
  refine r_aload_n h 2 rfl rfl dX1_move_0 ?_
  refine r_cV h k_X1_48 (i := k) (As := []) (rest := []) (c_X0_makeEmpty h.i h.t (by omega) hw2) (by omega) hw2.1 rfl rfl rfl (Nat.le_of_ble_eq_true rfl) ⟨by decide, by decide, by decide, by decide⟩ dX1_move_1 (fun _ z => z.elim) (fun v4 c1 p5 => ?_)
  obtain ⟨rfl, w2, k3⟩ := p5
  have g6 := hw.mono (k3 (i) (by omega)) (k3 (i + 1) (by omega)) (k3 (i + 2) (by omega))
  refine r_iconst h (v := nI 0) (by decide) dX1_move_4 ?_
  refine r_istore_n h ([(3, .int (nI 0)), (0, .ref (G.1 i)), (1, .int (nI m)), (2, .ref (G.1 k))]) rfl dX1_move_5 (by decide) rfl ?_
  have loop : ∀ (n j : Nat) (c1 : CC), m + 1 ≤ j + n → j ≤ m → StrAt G c1 i (pPn j t) → RowAt G c1 k (((sO t).drop (sP t)).take j) → (∀ y : Nat, y ≠ i → y ≠ k → y ≠ k + 1 → c1 y = c y) → V G X c1 [(0, .ref (G.1 i)), (1, .int (nI m)), (2, .ref (G.1 k)), (3, .int (nI j))] 0 0 6 [] := by
    intro n
    induction n with
    | zero => intro j c1 a1 a2; exact absurd a1 (by omega)
    | succ n ih =>
      intro j c1 a1 a2 w1 w2 k1
      refine r_iload_n h 3 rfl rfl dX1_move_6 ?_
      refine r_iload_n h 1 rfl rfl dX1_move_7 ?_
      refine rn_icmp_ge h (a := j) (b := m) (by omega) (by omega) 25 dX1_move_8 (by decide) (fun q => ?_) (fun q => ?_)
      · exact r_vret h hQ hr dX1_move_25 ⟨by decide, by decide⟩ ⟨rfl, by rw [show j = m by omega] at w1; exact w1, by rw [show j = m by omega] at w2; exact w2, k1⟩
      · refine r_aload_n h 2 rfl rfl dX1_move_11 ?_
        refine r_aload_n h 0 rfl rfl dX1_move_12 ?_
        obtain ⟨_, o7⟩ := w1.obj
        refine r_cV h k_X1_89 (i := i) (As := []) (rest := [.ref (G.1 k)]) (c_X1_next h.i h.t (by omega) w1) (by omega) o7 rfl rfl rfl (Nat.le_of_ble_eq_true rfl) ⟨by decide, by decide, by decide, by decide⟩ dX1_move_13 (fun _ z => z.elim) (fun v11 c8 p12 => ?_)
        obtain ⟨r, rfl, w9, rfl, k10⟩ := p12
        have g13 := w2.mono (k10 (k) (by omega)) (k10 (k + 1) (by omega))
        have hx := nx_at (t := t) (j := j) (by omega)
        rw [hx]
        refine r_cV h k_X1_96 (i := k) (As := [.int ((sO t).getD (sP t + j) 0)]) (rest := []) (c_X0_put h.i h.t (by omega) g13 (by rw [List.length_take]; omega) ((sO t).getD (sP t + j) 0)) (by omega) g13.1 rfl rfl rfl (Nat.le_of_ble_eq_true rfl) ⟨by decide, by decide, by decide, by decide⟩ dX1_move_16 (fun _ z => z.elim) (fun v17 c14 p18 => ?_)
        obtain ⟨rfl, w15, k16⟩ := p18
        have g19 := w9.mono (k16 (i) (by omega) (by omega)) (k16 (i + 1) (by omega) (by omega)) (k16 (i + 2) (by omega) (by omega))
        have w15 : RowAt G c14 (k) (((sO t).drop (sP t)).take (j + 1)) := by rw [take_snoc (by rw [List.length_drop]; omega), getD_drop]; exact w15
        refine r_iinc h 3 ([(3, .int (nI (j + 1))), (0, .ref (G.1 i)), (1, .int (nI m)), (2, .ref (G.1 k))]) rfl (inc_1 (j)) dX1_move_19 (by decide) rfl ?_
        refine r_goto h 6 dX1_move_22 (by decide) ?_
        refine V_lv [1, 2, 3, 0] rfl ?_
        exact ih (j + 1) c14 (by omega) (by omega) g19 w15 (fun y a b d => ((k16 y b d).trans (k10 y a)).trans (k1 y a b d))
  refine V_lv [1, 2, 3, 0] rfl ?_
  exact loop (m + 1) 0 c1 (by omega) (by omega) g6 w2 (fun y _ b _ => k3 y b)
set_option maxRecDepth 100000 in
set_option maxHeartbeats 4000000 in
/-- X1_takePart -/
theorem c_X1_takePart {G : GG} {l : Launch} {c : CC} (hG : InjG G) (hl0 : l.stackTraces = false) {i : Nat} (hi : i < 46) {t : Stm} (hw : StrAt G c i t) (m : Nat) (hm : m < 2147483648) {k : Nat} (hk : k < 48) {L2 : List Int32} (hw2 : RowAt G c k L2) (hne : k + 1 < i ∨ i + 2 < k) : MC G l yX1_takePart (.code yX1_takePart cX1_takePart 5 (some .int) :: gws) (rmF 3 0 0 70) [.ref (G.1 i), .int (nI m), .ref (G.1 k)] c (pI (fun r c' => StrAt G c' i (pPn (pTk m t) t) ∧ RowAt G c' k (if pTk m t = 0 then L2 else ((sO t).drop (sP t)).take (pTk m t)) ∧ (if pTk m t = 0 then -1 else nI (pTk m t)) = r ∧ ∀ j : Nat, j ≠ i → j ≠ k → j ≠ k + 1 → c' j = c j)) (pF) := by
  refine MC.of (by decide) hl0 hG (Nat.le_of_ble_eq_true rfl) (fun X hX h hN hQ hr => ?_)
  subst hX
  obtain ⟨K, O, M, P, N, g, mk⟩ := t
  obtain ⟨hok, hrow, rg, mp, ml, h0, hrg, hmk⟩ := id hw
  have hP : P ≤ O.length := hok.1
  have hle : O.length ≤ 240 := hrow.le
  have hMl : M ≤ O.length := hok.2.2.2.1
  have hSl : seC K M ≤ M := by unfold seC; split <;> omega
  have hrow : RowAt G c (i + 1) O := hrow
  have h0 : c i = .inr (3, [.ref (G.1 (i + 1)), .int K, .int (nI (seC K M)), .int (nI P), .int N, .long (rg), .int mp, .int ml]) := h0
  have hT : pTk m (K, O, M, P, N, g, mk) = min m (if P < seC K M then seC K M - P else O.length - P) := rfl
  suffices KK : ∀ s : Nat, s = (if P < seC K M then seC K M - P else O.length - P) → V G X c [(3, .int (nI s)), (0, .ref (G.1 i)), (1, .int (nI m)), (2, .ref (G.1 k))] 0 0 28 [] from ?_
  · refine r_aload_n h 0 rfl rfl dX1_takePart_0 ?_
    refine r_getf h F_X1_26 (i := i) (by omega) h0 rfl dX1_takePart_1 ?_
    refine r_aload_n h 0 rfl rfl dX1_takePart_4 ?_
    refine r_getf h F_X1_62 (i := i) (by omega) h0 rfl dX1_takePart_5 ?_
    refine rn_icmp_ge h (a := P) (b := seC K M) (by omega) (by omega) 23 dX1_takePart_8 (by decide) (fun q => ?_) (fun q => ?_)
    · refine r_aload_n h 0 rfl rfl dX1_takePart_23 ?_
      obtain ⟨_, o1⟩ := hw.obj
      refine r_cV h k_X1_73 (i := i) (As := []) (rest := []) (c_X1_rest h.i h.t (by omega) hw) (by omega) o1 rfl rfl rfl (Nat.le_of_ble_eq_true rfl) ⟨by decide, by decide, by decide, by decide⟩ dX1_takePart_24 (fun _ z => z.elim) (fun v2 c3 p4 => ?_)
      obtain ⟨r, rfl, rfl, rfl⟩ := p4
      refine r_istore_n h ([(3, .int (nI (O.length - P))), (0, .ref (G.1 i)), (1, .int (nI m)), (2, .ref (G.1 k))]) rfl dX1_takePart_27 (by decide) rfl ?_
      exact KK _ (if_neg (by omega)).symm
    · refine r_aload_n h 0 rfl rfl dX1_takePart_11 ?_
      refine r_getf h F_X1_62 (i := i) (by omega) h0 rfl dX1_takePart_12 ?_
      refine r_aload_n h 0 rfl rfl dX1_takePart_15 ?_
      refine r_getf h F_X1_26 (i := i) (by omega) h0 rfl dX1_takePart_16 ?_
      refine r_isub h (pk_sub (a := seC K M) (b := P) (by omega)) dX1_takePart_19 ?_
      refine r_goto h 27 dX1_takePart_20 (by decide) ?_
      refine r_istore_n h ([(3, .int (nI (seC K M - P))), (0, .ref (G.1 i)), (1, .int (nI m)), (2, .ref (G.1 k))]) rfl dX1_takePart_27 (by decide) rfl ?_
      exact KK _ (if_pos q).symm
  · intro s hs
    rw [← hs] at hT
    have hs2 : s ≤ O.length - P := by rw [hs]; split <;> omega
    refine r_iload_n h 2 rfl rfl dX1_takePart_28 ?_
    refine r_iload_n h 0 rfl rfl dX1_takePart_29 ?_
    refine rn_mmin h (a := m) (b := s) (by omega) (by omega) ⟨by decide, Nat.le_of_ble_eq_true rfl, by decide, by decide⟩ dX1_takePart_30 ?_
    have hu : ∃ u, u = min m s := ⟨_, rfl⟩
    obtain ⟨u, hu⟩ := hu
    rw [← hu] at hT ⊢
    have hu2 : u ≤ O.length - P := by omega
    refine r_istore h ([(4, .int (nI u)), (3, .int (nI s)), (0, .ref (G.1 i)), (1, .int (nI m)), (2, .ref (G.1 k))]) dX1_takePart_33 (by decide) rfl ?_
    refine r_iload h 0 rfl dX1_takePart_35 ?_
    refine rn_if_ne h (a := u) (by omega) 42 dX1_takePart_37 (by decide) (fun z => ?_) (fun z => ?_)
    · refine r_aload_n h 2 rfl rfl dX1_takePart_42 ?_
      refine r_iload h 0 rfl dX1_takePart_43 ?_
      refine r_aload_n h 4 rfl rfl dX1_takePart_45 ?_
      refine r_cV h k_X1_92 (i := i) (As := [.int (nI u), .ref (G.1 k)]) (rest := []) (c_X1_move h.i h.t (by omega) hw u (by show P + u ≤ O.length; omega) (by omega) hw2 hne) (by omega) h0 rfl rfl rfl (Nat.le_of_ble_eq_true rfl) ⟨by decide, by decide, by decide, by decide⟩ dX1_takePart_46 (fun _ z => z.elim) (fun v9 c5 p10 => ?_)
      obtain ⟨rfl, w6, w7, k8⟩ := p10
      refine r_iload h 0 rfl dX1_takePart_49 ?_
      exact r_iret h hQ hr dX1_takePart_51 ⟨by decide, by decide⟩ ⟨_, rfl, by rw [hT]; exact w6, by rw [hT, if_neg z]; exact w7, by rw [hT, if_neg z], k8⟩
    · refine r_iconst h (v := -1) (by decide) dX1_takePart_40 ?_
      exact r_iret h hQ hr dX1_takePart_41 ⟨by decide, by decide⟩ ⟨_, rfl, by rw [hT, z]; exact hw, by rw [hT, z]; exact hw2, by rw [hT, z]; rfl, fun _ _ _ _ => rfl⟩
set_option maxRecDepth 100000 in
set_option maxHeartbeats 4000000 in
/-- X1_setMark -/
theorem c_X1_setMark {G : GG} {l : Launch} {c : CC} (hG : InjG G) (hl0 : l.stackTraces = false) {i : Nat} (hi : i < 46) {t : Stm} (hw : StrAt G c i t) : MC G l yX1_setMark (.code yX1_setMark cX1_setMark 1 none :: gws) (rmF 0 0 0 0) [.ref (G.1 i)] c (pV (fun c' => StrAt G c' i (pMk t) ∧ ∀ j : Nat, j ≠ i → c' j = c j)) (pF) := by
  refine MC.of (by decide) hl0 hG (Nat.le_of_ble_eq_true rfl) (fun X hX h hN hQ hr => ?_)
  subst hX
  obtain ⟨K, O, M, P, N, g, mk⟩ := t
  obtain ⟨hok, hrow, rg, mp, ml, h0, hrg, hmk⟩ := id hw
  have hP : P ≤ O.length := hok.1
  have hle : O.length ≤ 240 := hrow.le
  have hMl : M ≤ O.length := hok.2.2.2.1
  have hSl : seC K M ≤ M := by unfold seC; split <;> omega
  have hrow : RowAt G c (i + 1) O := hrow
  have h0 : c i = .inr (3, [.ref (G.1 (i + 1)), .int K, .int (nI (seC K M)), .int (nI P), .int N, .long (rg), .int mp, .int ml]) := h0
  refine r_aload_n h 0 rfl rfl dX1_setMark_0 ?_
  refine r_aload_n h 0 rfl rfl dX1_setMark_1 ?_
  refine r_getf h F_X1_26 (i := i) (by omega) h0 rfl dX1_setMark_2 ?_
  refine r_putf h F_X1_42 ft_X1 (i := i) (by omega) h0 ([.ref (G.1 (i + 1)), .int K, .int (nI (seC K M)), .int (nI P), .int N, .long (rg), .int (nI P), .int ml]) rfl rfl rfl rfl (Nat.le_of_ble_eq_true rfl) dX1_setMark_5 (fun c1 h2 k3 => ?_)
  have g4 := hrow.mono (k3 (i + 1) (by omega)) (k3 (i + 1 + 1) (by omega))
  refine r_aload_n h 0 rfl rfl dX1_setMark_8 ?_
  refine r_aload_n h 0 rfl rfl dX1_setMark_9 ?_
  refine r_getf h F_X1_29 (i := i) (by omega) h2 rfl dX1_setMark_10 ?_
  refine r_putf h F_X1_45 ft_X1 (i := i) (by omega) h2 ([.ref (G.1 (i + 1)), .int K, .int (nI (seC K M)), .int (nI P), .int N, .long (rg), .int (nI P), .int N]) rfl rfl rfl rfl (Nat.le_of_ble_eq_true rfl) dX1_setMark_13 (fun c5 h6 k7 => ?_)
  have g8 := g4.mono (k7 (i + 1) (by omega)) (k7 (i + 1 + 1) (by omega))
  exact r_vret h hQ hr dX1_setMark_16 ⟨by decide, by decide⟩ ⟨rfl, ⟨⟨hok.1, hok.2.1, hok.2.2.1, hok.2.2.2.1, fun p n e => by cases e; exact hP⟩, g8, _, _, _, h6, hrg, Or.inr ⟨rfl, rfl⟩⟩, fun j a => (k7 j a).trans (k3 j a)⟩
set_option maxRecDepth 100000 in
set_option maxHeartbeats 4000000 in
/-- X1_goBack -/
theorem c_X1_goBack {G : GG} {l : Launch} {c : CC} (hG : InjG G) (hl0 : l.stackTraces = false) {i : Nat} (hi : i < 46) {t : Stm} (hw : StrAt G c i t) (p : Nat) (n : Int32) (hb : pBp t = some (p, n)) (hK : ¬ sK t = -1) : MC G l yX1_goBack (.code yX1_goBack cX1_goBack 1 none :: gws) (rmF 0 0 0 0) [.ref (G.1 i)] c (pV (fun c' => StrAt G c' i (sK t, sO t, sM t, p, n, sG t, sX t) ∧ ∀ j : Nat, j ≠ i → c' j = c j)) (pF) := by
  refine MC.of (by decide) hl0 hG (Nat.le_of_ble_eq_true rfl) (fun X hX h hN hQ hr => ?_)
  subst hX
  obtain ⟨K, O, M, P, N, g, mk⟩ := t
  obtain ⟨hok, hrow, rg, mp, ml, h0, hrg, hmk⟩ := id hw
  have hP : P ≤ O.length := hok.1
  have hle : O.length ≤ 240 := hrow.le
  have hMl : M ≤ O.length := hok.2.2.2.1
  have hSl : seC K M ≤ M := by unfold seC; split <;> omega
  have hrow : RowAt G c (i + 1) O := hrow
  have h0 : c i = .inr (3, [.ref (G.1 (i + 1)), .int K, .int (nI (seC K M)), .int (nI P), .int N, .long (rg), .int mp, .int ml]) := h0
  have hmk2 : mkA K mk mp ml := hmk.resolve_left hK
  obtain ⟨rfl, rfl, hp⟩ := pBp_ok hb hmk2 hok
  refine r_aload_n h 0 rfl rfl dX1_goBack_0 ?_
  refine r_aload_n h 0 rfl rfl dX1_goBack_1 ?_
  refine r_getf h F_X1_42 (i := i) (by omega) h0 rfl dX1_goBack_2 ?_
  refine r_putf h F_X1_26 ft_X1 (i := i) (by omega) h0 ([.ref (G.1 (i + 1)), .int K, .int (nI (seC K M)), .int (nI p), .int N, .long (rg), .int (nI p), .int n]) rfl rfl rfl rfl (Nat.le_of_ble_eq_true rfl) dX1_goBack_5 (fun c1 h2 k3 => ?_)
  have g4 := hrow.mono (k3 (i + 1) (by omega)) (k3 (i + 1 + 1) (by omega))
  refine r_aload_n h 0 rfl rfl dX1_goBack_8 ?_
  refine r_aload_n h 0 rfl rfl dX1_goBack_9 ?_
  refine r_getf h F_X1_45 (i := i) (by omega) h2 rfl dX1_goBack_10 ?_
  refine r_putf h F_X1_29 ft_X1 (i := i) (by omega) h2 ([.ref (G.1 (i + 1)), .int K, .int (nI (seC K M)), .int (nI p), .int n, .long (rg), .int (nI p), .int n]) rfl rfl rfl rfl (Nat.le_of_ble_eq_true rfl) dX1_goBack_13 (fun c5 h6 k7 => ?_)
  have g8 := g4.mono (k7 (i + 1) (by omega)) (k7 (i + 1 + 1) (by omega))
  exact r_vret h hQ hr dX1_goBack_16 ⟨by decide, by decide⟩ ⟨rfl, ⟨⟨hp, hok.2.1, hok.2.2.1, hok.2.2.2.1, hok.2.2.2.2⟩, g8, _, _, _, h6, hrg, hmk⟩, fun j a => (k7 j a).trans (k3 j a)⟩
set_option maxRecDepth 100000 in
set_option maxHeartbeats 4000000 in
/-- X1_shownLine -/
theorem c_X1_shownLine {G : GG} {l : Launch} {c : CC} (hG : InjG G) (hl0 : l.stackTraces = false) {i : Nat} (hi : i < 46) {t : Stm} (hw : StrAt G c i t) : MC G l yX1_shownLine (.code yX1_shownLine cX1_shownLine 1 (some .int) :: gws) (rmF 1 0 0 20) [.ref (G.1 i)] c (pI (fun r c' => c = c' ∧ (if hasL (sK t) = true then sN t else -1) = r)) (pF) := by
  refine MC.of (by decide) hl0 hG (Nat.le_of_ble_eq_true rfl) (fun X hX h hN hQ hr => ?_)
  subst hX
  obtain ⟨K, O, M, P, N, g, mk⟩ := t
  obtain ⟨hok, hrow, rg, mp, ml, h0, hrg, hmk⟩ := id hw
  have hP : P ≤ O.length := hok.1
  have hle : O.length ≤ 240 := hrow.le
  have hMl : M ≤ O.length := hok.2.2.2.1
  have hSl : seC K M ≤ M := by unfold seC; split <;> omega
  have hrow : RowAt G c (i + 1) O := hrow
  have h0 : c i = .inr (3, [.ref (G.1 (i + 1)), .int K, .int (nI (seC K M)), .int (nI P), .int N, .long (rg), .int mp, .int ml]) := h0
  refine r_aload_n h 0 rfl rfl dX1_shownLine_0 ?_
  refine r_getf h F_X1_18 (i := i) (by omega) h0 rfl dX1_shownLine_1 ?_
  refine r_cN h k_X1_100 (As := [.int K]) (rest := []) (c_X3_hasLine h.i h.t K) rfl rfl (Nat.le_of_ble_eq_true rfl) ⟨by decide, by decide, by decide, by decide⟩ dX1_shownLine_4 (fun _ z => z.elim) (fun v1 c2 p3 => ?_)
  obtain ⟨r, rfl, rfl, rfl⟩ := p3
  refine rb_if_eq h 17 dX1_shownLine_7 (by decide) (fun u => ?_) (fun u => ?_)
  · refine r_iconst h (v := -1) (by decide) dX1_shownLine_17 ?_
    exact r_iret h hQ hr dX1_shownLine_18 ⟨by decide, by decide⟩ ⟨_, rfl, rfl, if_neg u⟩
  · refine r_aload_n h 0 rfl rfl dX1_shownLine_10 ?_
    refine r_getf h F_X1_29 (i := i) (by omega) h0 rfl dX1_shownLine_11 ?_
    refine r_goto h 18 dX1_shownLine_14 (by decide) ?_
    exact r_iret h hQ hr dX1_shownLine_18 ⟨by decide, by decide⟩ ⟨_, rfl, rfl, if_pos u⟩
set_option maxRecDepth 100000 in
set_option maxHeartbeats 4000000 in
/-- X1_checkNow -/
theorem c_X1_checkNow {G : GG} {l : Launch} {c : CC} (hG : InjG G) (hl0 : l.stackTraces = false) {i : Nat} (hi : i < 46) {t : Stm} (hw : StrAt G c i t) (hC : hasC (sK t) = true) : MC G l yX1_checkNow (.code yX1_checkNow cX1_checkNow 1 (some .long) :: gws) (rmF 0 0 0 0) [.ref (G.1 i)] c (pL (fun r c' => c = c' ∧ 4294967295 - sG t = r)) (pF) := by
  refine MC.of (by decide) hl0 hG (Nat.le_of_ble_eq_true rfl) (fun X hX h hN hQ hr => ?_)
  subst hX
  obtain ⟨K, O, M, P, N, g, mk⟩ := t
  obtain ⟨hok, hrow, rg, mp, ml, h0, hrg, hmk⟩ := id hw
  have hP : P ≤ O.length := hok.1
  have hle : O.length ≤ 240 := hrow.le
  have hMl : M ≤ O.length := hok.2.2.2.1
  have hSl : seC K M ≤ M := by unfold seC; split <;> omega
  have hrow : RowAt G c (i + 1) O := hrow
  have h0 : c i = .inr (3, [.ref (G.1 (i + 1)), .int K, .int (nI (seC K M)), .int (nI P), .int N, .long (rg), .int mp, .int ml]) := h0
  refine r_ldc2 h K_X1_32 dX1_checkNow_0 ?_
  refine r_aload_n h 0 rfl rfl dX1_checkNow_3 ?_
  refine r_getf h F_X1_34 (i := i) (by omega) h0 rfl dX1_checkNow_4 ?_
  refine r_lsub h rfl dX1_checkNow_7 ?_
  exact r_lret h hQ hr dX1_checkNow_8 ⟨by decide, by decide⟩ ⟨_, rfl, rfl, by rw [hrg hC]⟩
