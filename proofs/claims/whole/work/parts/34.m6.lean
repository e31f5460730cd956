/-! THE MODEL: its calls, five -/
set_option maxRecDepth 100000 in
set_option maxHeartbeats 4000000 in
/-- X4_readPart -/
theorem c_X4_readPart {G : GG} {l : Launch} {c : CC} (hG : InjG G) (hl0 : l.stackTraces = false) {σ : St} {th : Int32} (hm : Mdl G c σ th) (hB : Bnd σ) (hM : okM σ) (x m0 : Int32) : MC G l yX4_readPart (.code yX4_readPart cX4_readPart 6 (some .int) :: gws) (rmF 2 0 0 49) [.ref (G.1 33), .int x, .int m0] c (pI (mQ G c (f_readPart σ x m0))) (pF) := by
  refine MC.of (by decide) hl0 hG (Nat.le_of_ble_eq_true rfl) (fun X hX h hN hQ hr => ?_)
  subst hX
  refine r_aload_n h 0 rfl rfl dX4_readPart_0 ?_
  refine r_iload_n h 1 rfl rfl dX4_readPart_1 ?_
  refine r_cV h k_X4_63 (i := 33) (As := [.int x]) (rest := []) (c_X4_isNo h.i h.t hm x) (by omega) hm.o rfl rfl rfl (Nat.le_of_ble_eq_true rfl) ⟨by decide, by decide, by decide, by decide⟩ dX4_readPart_2 (fun _ z => z.elim) (fun v4 c1 p5 => ?_)
  obtain ⟨r, rfl, rfl, hm2, k3⟩ := p5
  refine rb_if_ne h 40 dX4_readPart_5 (by decide) (fun u6 => ?_) (fun u6 => ?_)
  · have hm7 : Mdl G c1 σ (nI 1) := by rw [if_pos u6] at hm2; exact hm2
    refine r_iconst h (v := nI 0) (by decide) dX4_readPart_40 ?_
    exact r_iret h hQ hr dX4_readPart_41 ⟨by decide, by decide⟩ ⟨_, rfl, mQ.of (show f_readPart σ x m0 = (1, 0, σ) by simp [f_readPart, opn, u6]) (fun z => absurd z (by decide)) (hm7) (hM) (fun y hy => (k3 y (by omega)))⟩
  · have hm7 : Mdl G c1 σ (nI 0) := by rw [if_neg u6] at hm2; exact hm2
    obtain ⟨j, hj, rfl⟩ := ixB_ix u6
    have hos := (hB.2.2 j hj).1
    have hO := (hB.2.2 j hj).2.1
    have hP : sP (σ.2.2 j) ≤ (sO (σ.2.2 j)).length := hos.1
    refine r_aload_n h 0 rfl rfl dX4_readPart_8 ?_
    refine r_iload_n h 2 rfl rfl dX4_readPart_9 ?_
    refine r_iconst h (v := nI 1) (by decide) dX4_readPart_10 ?_
    refine r_bipush h (v := nI 64) (by decide) dX4_readPart_11 ?_
    refine r_cS h k_X4_55 (As := [.int m0, .int (nI 1), .int (nI 64)]) (rest := [.ref (G.1 33)]) (c_X4_lies h.i h.t m0 (nI (1)) (nI (64))) rfl rfl (Nat.le_of_ble_eq_true rfl) ⟨by decide, by decide, by decide, by decide⟩ dX4_readPart_13 (fun _ z => z.elim) (fun v8 c9 p10 => ?_)
    obtain ⟨r, rfl, rfl, rfl⟩ := p10
    refine rb_if_ne h 23 dX4_readPart_16 (by decide) (fun hb11 => ?_) (fun hb11 => ?_)
    · refine r_iconst h (v := nI 0) (by decide) dX4_readPart_23 ?_
      refine r_iconst h (v := nI 2) (by decide) dX4_readPart_24 ?_
      refine r_cV h k_X4_59 (i := 33) (As := [.int (nI 0), .int (nI 2)]) (rest := []) (c_X4_isThrown h.i h.t hm7 (nI 0) (nI 2) (nI 0) (by decide) (by decide)) (by omega) hm7.o rfl rfl rfl (Nat.le_of_ble_eq_true rfl) ⟨by decide, by decide, by decide, by decide⟩ dX4_readPart_25 (fun _ z => z.elim) (fun v21 c18 p22 => ?_)
      obtain ⟨r, rfl, rfl, hm19, k20⟩ := p22
      refine rn_if_ne h (a := 0) (by omega) 40 dX4_readPart_28 (by decide) (fun u23 => ?_) (fun u23 => ?_)
      · exact absurd u23 (by decide)
      · obtain ⟨m, mlo, mhi, rfl⟩ := btB_nat hb11 (by decide) (by decide)
        refine r_aload_n h 0 rfl rfl dX4_readPart_31 ?_
        refine r_iload_n h 1 rfl rfl dX4_readPart_32 ?_
        refine r_iconst h (v := nI 3) (by decide) dX4_readPart_33 ?_
        refine r_cV h k_X4_108 (i := 33) (As := [.int (nI j), .int (nI 3)]) (rest := []) (c_X4_isShut h.i h.t hm19 hj (nI 3)) (by omega) hm19.o rfl rfl rfl (Nat.le_of_ble_eq_true rfl) ⟨by decide, by decide, by decide, by decide⟩ dX4_readPart_34 (fun _ z => z.elim) (fun v27 c24 p28 => ?_)
        obtain ⟨r, rfl, rfl, hm25, k26⟩ := p28
        refine rb_if_eq h 42 dX4_readPart_37 (by decide) (fun hs29 => ?_) (fun hs29 => ?_)
        · have hm30 : Mdl G c24 σ (nI 0) := by rw [if_neg hs29] at hm25; exact hm25
          have hm30 := hm30.inT j
          refine r_aload_n h 0 rfl rfl dX4_readPart_42 ?_
          refine r_iload_n h 1 rfl rfl dX4_readPart_43 ?_
          refine r_cV h k_X4_98 (i := 33) (As := [.int (nI j)]) (rest := []) (c_X4_leftOf h.i h.t hj (σ := σ) (t := (σ.2.2 j)) hm30 (hP)) (by omega) hm30.o rfl rfl rfl (Nat.le_of_ble_eq_true rfl) ⟨by decide, by decide, by decide, by decide⟩ dX4_readPart_44 (fun _ z => z.elim) (fun v31 c32 p33 => ?_)
          obtain ⟨r, rfl, rfl, rfl⟩ := p33
          refine r_istore_n h ([(3, .int (nI ((sO (σ.2.2 j)).length - sP (σ.2.2 j)))), (0, .ref (G.1 33)), (1, .int (nI j)), (2, .int (nI m))]) rfl dX4_readPart_47 (by decide) rfl ?_
          refine r_iload_n h 0 rfl rfl dX4_readPart_48 ?_
          refine rn_if_ne h (a := (sO (σ.2.2 j)).length - sP (σ.2.2 j)) (by omega) 54 dX4_readPart_49 (by decide) (fun z34 => ?_) (fun z34 => ?_)
          · suffices KK : ∀ s : Nat, s = (if sP (σ.2.2 j) < seC (sK (σ.2.2 j)) (sM (σ.2.2 j)) then seC (sK (σ.2.2 j)) (sM (σ.2.2 j)) - sP (σ.2.2 j) else (sO (σ.2.2 j)).length - sP (σ.2.2 j)) → V G X c24 [(3, .int (nI s)), (0, .ref (G.1 33)), (1, .int (nI j)), (2, .int (nI m))] (0) (0) 116 [] from ?_
            · refine r_aload_n h 1 rfl rfl dX4_readPart_54 ?_
              refine r_getf h F_X4_19 (i := 33) (by omega) hm30.o rfl dX4_readPart_55 ?_
              refine r_iload_n h 2 rfl rfl dX4_readPart_58 ?_
              obtain ⟨f35, e36, q37⟩ := hm30.a37
              refine r_iald h (i := 37) (by omega) e36 (x := j) (by omega) (by decide) dX4_readPart_59 ?_
              have z38 : f35 (j) = sK (σ.2.2 j) := (q37 j hj).trans (by rw [stT_at])
              rw [z38]
              refine r_iconst h (v := nI 4) (by decide) dX4_readPart_60 ?_
              refine r_icmp_eq h 75 dX4_readPart_61 (by decide) (fun k39 => ?_) (fun k39 => ?_)
              · have hs := seC_j (M := sM (σ.2.2 j)) (Or.inl k39)
                have hMM : sM (σ.2.2 j) ≤ (sO (σ.2.2 j)).length := hos.2.2.2.1
                refine r_iconst h (v := nI 1) (by decide) dX4_readPart_75 ?_
                refine r_goto h 80 dX4_readPart_76 (by decide) ?_
                refine r_istore h ([(4, .int (nI 1)), (3, .int (nI ((sO (σ.2.2 j)).length - sP (σ.2.2 j)))), (0, .ref (G.1 33)), (1, .int (nI j)), (2, .int (nI m))]) dX4_readPart_80 (by decide) rfl ?_
                refine r_iload h 0 rfl dX4_readPart_82 ?_
                refine rn_if_eq h (a := 1) (by omega) 116 dX4_readPart_84 (by decide) (fun u40 => ?_) (fun u40 => ?_)
                · exact absurd u40 (by decide)
                · refine r_aload_n h 2 rfl rfl dX4_readPart_87 ?_
                  refine r_getf h F_X4_31 (i := 33) (by omega) hm30.o rfl dX4_readPart_88 ?_
                  refine r_iload_n h 3 rfl rfl dX4_readPart_91 ?_
                  obtain ⟨f41, e42, q43⟩ := hm30.a41
                  refine r_iald h (i := 41) (by omega) e42 (x := j) (by omega) (by decide) dX4_readPart_92 ?_
                  have z44 : f41 (j) = (nI (sP (σ.2.2 j))) := (q43 j hj).trans (by rw [stT_at])
                  rw [z44]
                  refine r_aload_n h 2 rfl rfl dX4_readPart_93 ?_
                  refine r_getf h F_X4_28 (i := 33) (by omega) hm30.o rfl dX4_readPart_94 ?_
                  refine r_iload_n h 3 rfl rfl dX4_readPart_97 ?_
                  obtain ⟨f45, e46, q47⟩ := hm30.a40
                  refine r_iald h (i := 40) (by omega) e46 (x := j) (by omega) (by decide) dX4_readPart_98 ?_
                  have z48 : f45 (j) = (nI (sM (σ.2.2 j))) := (q47 j hj).trans (by rw [stT_at])
                  rw [z48]
                  refine rn_icmp_ge h (a := sP (σ.2.2 j)) (b := sM (σ.2.2 j)) (by omega) (by omega) 116 dX4_readPart_99 (by decide) (fun r49 => ?_) (fun r49 => ?_)
                  · refine V_lv [1, 2, 3, 4] rfl ?_
                    exact KK _ (by rw [hs, if_neg (by omega)])
                  · refine r_aload_n h 2 rfl rfl dX4_readPart_102 ?_
                    refine r_getf h F_X4_28 (i := 33) (by omega) hm30.o rfl dX4_readPart_103 ?_
                    refine r_iload_n h 3 rfl rfl dX4_readPart_106 ?_
                    obtain ⟨f50, e51, q52⟩ := hm30.a40
                    refine r_iald h (i := 40) (by omega) e51 (x := j) (by omega) (by decide) dX4_readPart_107 ?_
                    have z53 : f50 (j) = (nI (sM (σ.2.2 j))) := (q52 j hj).trans (by rw [stT_at])
                    rw [z53]
                    refine r_aload_n h 2 rfl rfl dX4_readPart_108 ?_
                    refine r_getf h F_X4_31 (i := 33) (by omega) hm30.o rfl dX4_readPart_109 ?_
                    refine r_iload_n h 3 rfl rfl dX4_readPart_112 ?_
                    obtain ⟨f54, e55, q56⟩ := hm30.a41
                    refine r_iald h (i := 41) (by omega) e55 (x := j) (by omega) (by decide) dX4_readPart_113 ?_
                    have z57 : f54 (j) = (nI (sP (σ.2.2 j))) := (q56 j hj).trans (by rw [stT_at])
                    rw [z57]
                    refine r_isub h (pk_sub (a := sM (σ.2.2 j)) (b := sP (σ.2.2 j)) (by omega)) dX4_readPart_114 ?_
                    refine r_istore_n h ([(3, .int (nI (sM (σ.2.2 j) - sP (σ.2.2 j)))), (4, .int (nI 1)), (0, .ref (G.1 33)), (1, .int (nI j)), (2, .int (nI m))]) rfl dX4_readPart_115 (by decide) rfl ?_
                    refine V_lv [0, 2, 3, 4] rfl ?_
                    exact KK _ (by rw [hs, if_pos r49])
              · refine r_aload_n h 1 rfl rfl dX4_readPart_64 ?_
                refine r_getf h F_X4_19 (i := 33) (by omega) hm30.o rfl dX4_readPart_65 ?_
                refine r_iload_n h 2 rfl rfl dX4_readPart_68 ?_
                obtain ⟨f58, e59, q60⟩ := hm30.a37
                refine r_iald h (i := 37) (by omega) e59 (x := j) (by omega) (by decide) dX4_readPart_69 ?_
                have z61 : f58 (j) = sK (σ.2.2 j) := (q60 j hj).trans (by rw [stT_at])
                rw [z61]
                refine r_bipush h (v := nI 7) (by decide) dX4_readPart_70 ?_
                refine r_icmp_ne h 79 dX4_readPart_72 (by decide) (fun k62 => ?_) (fun k62 => ?_)
                · have hs := seC_n (M := sM (σ.2.2 j)) k39 k62
                  refine r_iconst h (v := nI 0) (by decide) dX4_readPart_79 ?_
                  refine r_istore h ([(4, .int (nI 0)), (3, .int (nI ((sO (σ.2.2 j)).length - sP (σ.2.2 j)))), (0, .ref (G.1 33)), (1, .int (nI j)), (2, .int (nI m))]) dX4_readPart_80 (by decide) rfl ?_
                  refine r_iload h 0 rfl dX4_readPart_82 ?_
                  refine rn_if_eq h (a := 0) (by omega) 116 dX4_readPart_84 (by decide) (fun u81 => ?_) (fun u81 => ?_)
                  · refine V_lv [1, 2, 3, 4] rfl ?_
                    exact KK _ (by rw [hs, if_neg (Nat.not_lt_zero _)])
                  · exact absurd u81 (by decide)
                · have hs := seC_j (M := sM (σ.2.2 j)) (Or.inr k62)
                  have hMM : sM (σ.2.2 j) ≤ (sO (σ.2.2 j)).length := hos.2.2.2.1
                  refine r_iconst h (v := nI 1) (by decide) dX4_readPart_75 ?_
                  refine r_goto h 80 dX4_readPart_76 (by decide) ?_
                  refine r_istore h ([(4, .int (nI 1)), (3, .int (nI ((sO (σ.2.2 j)).length - sP (σ.2.2 j)))), (0, .ref (G.1 33)), (1, .int (nI j)), (2, .int (nI m))]) dX4_readPart_80 (by decide) rfl ?_
                  refine r_iload h 0 rfl dX4_readPart_82 ?_
                  refine rn_if_eq h (a := 1) (by omega) 116 dX4_readPart_84 (by decide) (fun u63 => ?_) (fun u63 => ?_)
                  · exact absurd u63 (by decide)
                  · refine r_aload_n h 2 rfl rfl dX4_readPart_87 ?_
                    refine r_getf h F_X4_31 (i := 33) (by omega) hm30.o rfl dX4_readPart_88 ?_
                    refine r_iload_n h 3 rfl rfl dX4_readPart_91 ?_
                    obtain ⟨f64, e65, q66⟩ := hm30.a41
                    refine r_iald h (i := 41) (by omega) e65 (x := j) (by omega) (by decide) dX4_readPart_92 ?_
                    have z67 : f64 (j) = (nI (sP (σ.2.2 j))) := (q66 j hj).trans (by rw [stT_at])
                    rw [z67]
                    refine r_aload_n h 2 rfl rfl dX4_readPart_93 ?_
                    refine r_getf h F_X4_28 (i := 33) (by omega) hm30.o rfl dX4_readPart_94 ?_
                    refine r_iload_n h 3 rfl rfl dX4_readPart_97 ?_
                    obtain ⟨f68, e69, q70⟩ := hm30.a40
                    refine r_iald h (i := 40) (by omega) e69 (x := j) (by omega) (by decide) dX4_readPart_98 ?_
                    have z71 : f68 (j) = (nI (sM (σ.2.2 j))) := (q70 j hj).trans (by rw [stT_at])
                    rw [z71]
                    refine rn_icmp_ge h (a := sP (σ.2.2 j)) (b := sM (σ.2.2 j)) (by omega) (by omega) 116 dX4_readPart_99 (by decide) (fun r72 => ?_) (fun r72 => ?_)
                    · refine V_lv [1, 2, 3, 4] rfl ?_
                      exact KK _ (by rw [hs, if_neg (by omega)])
                    · refine r_aload_n h 2 rfl rfl dX4_readPart_102 ?_
                      refine r_getf h F_X4_28 (i := 33) (by omega) hm30.o rfl dX4_readPart_103 ?_
                      refine r_iload_n h 3 rfl rfl dX4_readPart_106 ?_
                      obtain ⟨f73, e74, q75⟩ := hm30.a40
                      refine r_iald h (i := 40) (by omega) e74 (x := j) (by omega) (by decide) dX4_readPart_107 ?_
                      have z76 : f73 (j) = (nI (sM (σ.2.2 j))) := (q75 j hj).trans (by rw [stT_at])
                      rw [z76]
                      refine r_aload_n h 2 rfl rfl dX4_readPart_108 ?_
                      refine r_getf h F_X4_31 (i := 33) (by omega) hm30.o rfl dX4_readPart_109 ?_
                      refine r_iload_n h 3 rfl rfl dX4_readPart_112 ?_
                      obtain ⟨f77, e78, q79⟩ := hm30.a41
                      refine r_iald h (i := 41) (by omega) e78 (x := j) (by omega) (by decide) dX4_readPart_113 ?_
                      have z80 : f77 (j) = (nI (sP (σ.2.2 j))) := (q79 j hj).trans (by rw [stT_at])
                      rw [z80]
                      refine r_isub h (pk_sub (a := sM (σ.2.2 j)) (b := sP (σ.2.2 j)) (by omega)) dX4_readPart_114 ?_
                      refine r_istore_n h ([(3, .int (nI (sM (σ.2.2 j) - sP (σ.2.2 j)))), (4, .int (nI 1)), (0, .ref (G.1 33)), (1, .int (nI j)), (2, .int (nI m))]) rfl dX4_readPart_115 (by decide) rfl ?_
                      refine V_lv [0, 2, 3, 4] rfl ?_
                      exact KK _ (by rw [hs, if_pos r72])
            · intro s hs
              have hT : pTk m (σ.2.2 j) = min m s := by rw [hs]; rfl
              have hTl := pTk_le (n := m) hos
              have hTn : ¬ pTk m (σ.2.2 j) = 0 := fun z => by have := pTk_0 (by omega) z hos; omega
              have hsl : s ≤ 240 := by rw [hs]; have := seC_le (sK (σ.2.2 j)) (sM (σ.2.2 j)); have := hos.2.2.2.1; split <;> omega
              suffices KK : V G X c24 [(3, .int (nI s)), (0, .ref (G.1 33)), (1, .int (nI j)), (2, .int (nI m))] (0) (0) 127 [.int (nI (pTk m (σ.2.2 j))), .ref (G.1 33)] from ?_
              · refine r_aload_n h 1 rfl rfl dX4_readPart_116 ?_
                refine r_iload_n h 3 rfl rfl dX4_readPart_117 ?_
                refine r_iload_n h 0 rfl rfl dX4_readPart_118 ?_
                refine rn_icmp_ge h (a := m) (b := s) (by omega) (by omega) 126 dX4_readPart_119 (by decide) (fun r82 => ?_) (fun r82 => ?_)
                · refine r_iload_n h 0 rfl rfl dX4_readPart_126 ?_
                  rw [hT, Nat.min_eq_right (by omega)] at KK
                  exact KK
                · refine r_iload_n h 3 rfl rfl dX4_readPart_122 ?_
                  refine r_goto h 127 dX4_readPart_123 (by decide) ?_
                  rw [hT, Nat.min_eq_left (by omega)] at KK
                  exact KK
              · generalize hu : pTk m (σ.2.2 j) = u at hT hTl hTn ⊢
                have hu64 : u ≤ 64 := by omega
                obtain ⟨f36, e36, q36⟩ := hm30.a36
                refine r_putf h F_X4_115 ft_X4 (i := 33) (by omega) hm30.o ([.int ((nI 0)), .ref (G.1 34), .ref (G.1 35), .ref (G.1 36), .int (nI u), .ref (G.1 37), .ref (G.1 38), .ref (G.1 39), .ref (G.1 40), .ref (G.1 41), .ref (G.1 42), .ref (G.1 43), .ref (G.1 44), .ref (G.1 45), .ref (G.1 46)]) rfl rfl rfl rfl (Nat.le_of_ble_eq_true rfl) dX4_readPart_127 (fun c83 h84 k85 => ?_)
                have hm7 : Mdl G c83 (stT (stP σ ((List.range u).map f36)) j (σ.2.2 j)) (nI 0) := hm30.setPt e36 hu64 h84 k85
                refine r_iconst h (v := nI 0) (by decide) dX4_readPart_130 ?_
                refine r_istore h ([(5, .int (nI 0)), (3, .int (nI s)), (0, .ref (G.1 33)), (1, .int (nI j)), (2, .int (nI m))]) dX4_readPart_131 (by decide) rfl ?_
                have loop : ∀ (q k : Nat) (L : List Int32) (c1 : CC), u + 1 ≤ k + q → k ≤ u → L.length = u → (∀ i : Nat, i < k → L.getD i 0 = (sO (σ.2.2 j)).getD (sP (σ.2.2 j) + i) 0) → Mdl G c1 (stT (stP σ L) j (pPn k (σ.2.2 j))) (nI 0) → (∀ y : Nat, y < 33 ∨ 47 ≤ y → c1 y = c y) → V G X c1 [(0, .ref (G.1 33)), (1, .int (nI j)), (5, .int (nI k))] (0) (0) 133 [] := by
                  intro q
                  induction q with
                  | zero => intro k L c1 a1 a2; exact absurd a1 (by omega)
                  | succ q ih =>
                    intro k L c1 a1 a2 a3 a4 m1 k1
                    refine r_iload h 2 rfl dX4_readPart_133 ?_
                    refine r_aload_n h 0 rfl rfl dX4_readPart_135 ?_
                    refine r_getf h F_X4_115 (i := 33) (by omega) m1.o rfl dX4_readPart_136 ?_
                    rw [show (stT (stP σ L) j (pPn k (σ.2.2 j))).2.1.length = u from a3]
                    refine rn_icmp_ge h (a := k) (b := u) (by omega) (by omega) 160 dX4_readPart_139 (by decide) (fun z86 => ?_) (fun z86 => ?_)
                    · have hk9 : k = u := by omega
                      have hL : L = ((sO (σ.2.2 j)).drop (sP (σ.2.2 j))).take u := l_ext (by rw [a3, List.length_take, List.length_drop]; omega) (fun i hi => by rw [a4 i (by omega), List.getD_eq_getElem?_getD (l := List.take _ _), List.getElem?_take_of_lt (by omega), ← List.getD_eq_getElem?_getD, getD_drop])
                      subst hk9
                      subst hL
                      refine r_aload_n h 0 rfl rfl dX4_readPart_160 ?_
                      refine r_getf h F_X4_115 (i := 33) (by omega) m1.o rfl dX4_readPart_161 ?_
                      exact r_iret h hQ hr dX4_readPart_164 ⟨by decide, by decide⟩ ⟨_, rfl, mQ.of (show f_readPart σ (nI j) (nI m) = (0, nI k, stT (stP σ (((sO (σ.2.2 j)).drop (sP (σ.2.2 j))).take k)) j (pPn k (σ.2.2 j))) by simp [f_readPart, opn, ixB_yes hj, ixN_nI hj, hb11, ixN_n (show m < 2147483648 by omega), hb11, hs29, hu, hTn]) (fun _ => congrArg nI a3.symm) (m1) (hM.nx j k) (fun y hy => (k1 y (by omega)))⟩
                    · refine r_aload_n h 0 rfl rfl dX4_readPart_142 ?_
                      refine r_getf h F_X4_16 (i := 33) (by omega) m1.o rfl dX4_readPart_143 ?_
                      refine r_iload h 2 rfl dX4_readPart_146 ?_
                      refine r_aload_n h 0 rfl rfl dX4_readPart_148 ?_
                      refine r_iload_n h 1 rfl rfl dX4_readPart_149 ?_
                      refine r_cV h k_X4_112 (i := 33) (As := [.int (nI j)]) (rest := [.int (nI k), .ref (G.1 36)]) (c_X4_passes h.i h.t hj (σ := (stP σ L)) (t := pPn k (σ.2.2 j)) m1 (okS_pn hos k)) (by omega) m1.o rfl rfl rfl (Nat.le_of_ble_eq_true rfl) ⟨by decide, by decide, by decide, by decide⟩ dX4_readPart_150 (fun _ z => z.elim) (fun v90 c87 p91 => ?_)
                      obtain ⟨r, rfl, rfl, hm88, k89⟩ := p91
                      obtain ⟨f92, e93, q94⟩ := hm88.a36
                      refine r_iast h (i := 36) (by omega) e93 (x := k) (by omega) (by decide) dX4_readPart_153 (fun c95 h96 k97 => ?_)
                      have m9 : Mdl G c95 (stT (stP σ (L.set k (nxA (pPn k (σ.2.2 j))))) j (pPn (k + 1) (σ.2.2 j))) (nI 0) := hm88.setAt q94 h96 k97
                      refine r_iinc h 2 ([(5, .int (nI (k + 1))), (0, .ref (G.1 33)), (1, .int (nI j))]) rfl (inc_1 (k)) dX4_readPart_154 (by decide) rfl ?_
                      refine r_goto h 133 dX4_readPart_157 (by decide) ?_
                      refine V_lv [1, 2, 0] rfl ?_
                      exact ih (k + 1) _ _ (by omega) (by omega) (by rw [List.length_set]; exact a3) (fun i hi => by rw [set_get (by omega)]; by_cases e : i = k; (· rw [if_pos e, e]; exact nx_at (by omega)); (· rw [if_neg e]; exact a4 i (by omega))) m9 (fun y hy => (((k97 y (by omega)).trans (k89 y (by omega) (by omega) (by omega))).trans (k1 y (by omega))))
                refine V_lv [2, 3, 0] rfl ?_
                exact loop (u + 1) 0 ((List.range u).map f36) c83 (by omega) (by omega) (by rw [List.length_map, List.length_range]) (fun i hi => absurd hi (Nat.not_lt_zero i)) hm7 (fun y hy => ((((k85 y (by omega)).trans (k26 y (by omega))).trans (k20 y (by omega))).trans (k3 y (by omega))))
          · have hT0 : pTk m (σ.2.2 j) = 0 := by have := pTk_le (n := m) hos; omega
            refine r_iconst h (v := -1) (by decide) dX4_readPart_52 ?_
            exact r_iret h hQ hr dX4_readPart_53 ⟨by decide, by decide⟩ ⟨_, rfl, mQ.of (show f_readPart σ (nI j) (nI m) = (0, -1, stT (stP σ σ.2.1) j (pPn 0 (σ.2.2 j))) by simp [f_readPart, opn, ixB_yes hj, ixN_nI hj, hb11, ixN_n (show m < 2147483648 by omega), hb11, hs29, hT0]) (fun _ => rfl) (hm30) (hM.nx j 0) (fun y hy => (((k26 y (by omega)).trans (k20 y (by omega))).trans (k3 y (by omega))))⟩
        · have hm30 : Mdl G c24 σ (nI 3) := by rw [if_pos hs29] at hm25; exact hm25
          refine r_iconst h (v := nI 0) (by decide) dX4_readPart_40 ?_
          exact r_iret h hQ hr dX4_readPart_41 ⟨by decide, by decide⟩ ⟨_, rfl, mQ.of (show f_readPart σ (nI j) (nI m) = (3, 0, σ) by simp [f_readPart, opn, ixB_yes hj, ixN_nI hj, hb11, ixN_n (show m < 2147483648 by omega), hb11, hs29]) (fun z => absurd z (by decide)) (hm30) (hM) (fun y hy => (((k26 y (by omega)).trans (k20 y (by omega))).trans (k3 y (by omega))))⟩
    · refine r_iconst h (v := nI 1) (by decide) dX4_readPart_19 ?_
      refine r_goto h 24 dX4_readPart_20 (by decide) ?_
      refine r_iconst h (v := nI 2) (by decide) dX4_readPart_24 ?_
      refine r_cV h k_X4_59 (i := 33) (As := [.int (nI 1), .int (nI 2)]) (rest := []) (c_X4_isThrown h.i h.t hm7 (nI 1) (nI 2) (nI 2) (by decide) (by decide)) (by omega) hm7.o rfl rfl rfl (Nat.le_of_ble_eq_true rfl) ⟨by decide, by decide, by decide, by decide⟩ dX4_readPart_25 (fun _ z => z.elim) (fun v15 c12 p16 => ?_)
      obtain ⟨r, rfl, rfl, hm13, k14⟩ := p16
      refine rn_if_ne h (a := 1) (by omega) 40 dX4_readPart_28 (by decide) (fun u17 => ?_) (fun u17 => ?_)
      · refine r_iconst h (v := nI 0) (by decide) dX4_readPart_40 ?_
        exact r_iret h hQ hr dX4_readPart_41 ⟨by decide, by decide⟩ ⟨_, rfl, mQ.of (show f_readPart σ (nI j) m0 = (2, 0, σ) by simp [f_readPart, opn, ixB_yes hj, ixN_nI hj, hb11]) (fun z => absurd z (by decide)) (hm13) (hM) (fun y hy => ((k14 y (by omega)).trans (k3 y (by omega))))⟩
      · exact absurd u17 (by decide)
set_option maxRecDepth 100000 in
set_option maxHeartbeats 4000000 in
/-- X4_pour -/
theorem c_X4_pour {G : GG} {l : Launch} {c : CC} (hG : InjG G) (hl0 : l.stackTraces = false) {σ : St} {th : Int32} (hm : Mdl G c σ th) (hB : Bnd σ) (hM : okM σ) (x y0 : Int32) : MC G l yX4_pour (.code yX4_pour cX4_pour 5 (some .int) :: gws) (rmF 2 0 0 49) [.ref (G.1 33), .int x, .int y0] c (pI (mQ G c (f_pour σ x y0))) (pF) := by
  refine MC.of (by decide) hl0 hG (Nat.le_of_ble_eq_true rfl) (fun X hX h hN hQ hr => ?_)
  subst hX
  refine r_aload_n h 0 rfl rfl dX4_pour_0 ?_
  refine r_iload_n h 1 rfl rfl dX4_pour_1 ?_
  refine r_cV h k_X4_63 (i := 33) (As := [.int x]) (rest := []) (c_X4_isNo h.i h.t hm x) (by omega) hm.o rfl rfl rfl (Nat.le_of_ble_eq_true rfl) ⟨by decide, by decide, by decide, by decide⟩ dX4_pour_2 (fun _ z => z.elim) (fun v4 c1 p5 => ?_)
  obtain ⟨r, rfl, rfl, hm2, k3⟩ := p5
  refine rb_if_ne h 48 dX4_pour_5 (by decide) (fun u6 => ?_) (fun u6 => ?_)
  · have hm7 : Mdl G c1 σ (nI 1) := by rw [if_pos u6] at hm2; exact hm2
    refine r_iconst h (v := nI 0) (by decide) dX4_pour_48 ?_
    exact r_iret h hQ hr dX4_pour_49 ⟨by decide, by decide⟩ ⟨_, rfl, mQ.of (show f_pour σ x y0 = (1, 0, σ) by simp [f_pour, opn, u6]) (fun z => absurd z (by decide)) (hm7) (hM) (fun y hy => (k3 y (by omega)))⟩
  · have hm7 : Mdl G c1 σ (nI 0) := by rw [if_neg u6] at hm2; exact hm2
    obtain ⟨j, hj, rfl⟩ := ixB_ix u6
    have hos := (hB.2.2 j hj).1
    have hO := (hB.2.2 j hj).2.1
    have hP : sP (σ.2.2 j) ≤ (sO (σ.2.2 j)).length := hos.1
    refine r_aload_n h 0 rfl rfl dX4_pour_8 ?_
    refine r_iload_n h 2 rfl rfl dX4_pour_9 ?_
    refine r_cV h k_X4_63 (i := 33) (As := [.int y0]) (rest := []) (c_X4_isNo h.i h.t hm7 y0) (by omega) hm7.o rfl rfl rfl (Nat.le_of_ble_eq_true rfl) ⟨by decide, by decide, by decide, by decide⟩ dX4_pour_10 (fun _ z => z.elim) (fun v11 c8 p12 => ?_)
    obtain ⟨r, rfl, rfl, hm9, k10⟩ := p12
    refine rb_if_ne h 48 dX4_pour_13 (by decide) (fun u13 => ?_) (fun u13 => ?_)
    · have hm14 : Mdl G c8 σ (nI 1) := by rw [if_pos u13] at hm9; exact hm9
      refine r_iconst h (v := nI 0) (by decide) dX4_pour_48 ?_
      exact r_iret h hQ hr dX4_pour_49 ⟨by decide, by decide⟩ ⟨_, rfl, mQ.of (show f_pour σ (nI j) y0 = (1, 0, σ) by simp [f_pour, opn, ixB_yes hj, ixN_nI hj, u13]) (fun z => absurd z (by decide)) (hm14) (hM) (fun y hy => ((k10 y (by omega)).trans (k3 y (by omega))))⟩
    · have hm14 : Mdl G c8 σ (nI 0) := by rw [if_neg u13] at hm9; exact hm9
      obtain ⟨y, hy, rfl⟩ := ixB_ix u13
      refine r_aload_n h 0 rfl rfl dX4_pour_16 ?_
      refine r_iload_n h 1 rfl rfl dX4_pour_17 ?_
      refine r_iconst h (v := nI 2) (by decide) dX4_pour_18 ?_
      refine r_cV h k_X4_108 (i := 33) (As := [.int (nI j), .int (nI 2)]) (rest := []) (c_X4_isShut h.i h.t hm14 hj (nI 2)) (by omega) hm14.o rfl rfl rfl (Nat.le_of_ble_eq_true rfl) ⟨by decide, by decide, by decide, by decide⟩ dX4_pour_19 (fun _ z => z.elim) (fun v18 c15 p19 => ?_)
      obtain ⟨r, rfl, rfl, hm16, k17⟩ := p19
      refine rb_if_ne h 48 dX4_pour_22 (by decide) (fun hs20 => ?_) (fun hs20 => ?_)
      · have hm21 : Mdl G c15 σ (nI 2) := by rw [if_pos hs20] at hm16; exact hm16
        refine r_iconst h (v := nI 0) (by decide) dX4_pour_48 ?_
        exact r_iret h hQ hr dX4_pour_49 ⟨by decide, by decide⟩ ⟨_, rfl, mQ.of (show f_pour σ (nI j) (nI y) = (2, 0, σ) by simp [f_pour, opn, ixB_yes hj, ixN_nI hj, ixB_yes hy, ixN_nI hy, hs20]) (fun z => absurd z (by decide)) (hm21) (hM) (fun y hy => (((k17 y (by omega)).trans (k10 y (by omega))).trans (k3 y (by omega))))⟩
      · have hm21 : Mdl G c15 σ (nI 0) := by rw [if_neg hs20] at hm16; exact hm16
        have hm21 := hm21.inT j
        refine r_aload_n h 0 rfl rfl dX4_pour_25 ?_
        refine r_aload_n h 0 rfl rfl dX4_pour_26 ?_
        refine r_iload_n h 1 rfl rfl dX4_pour_27 ?_
        refine r_cV h k_X4_98 (i := 33) (As := [.int (nI j)]) (rest := [.ref (G.1 33)]) (c_X4_leftOf h.i h.t hj (σ := σ) (t := (σ.2.2 j)) hm21 (hP)) (by omega) hm21.o rfl rfl rfl (Nat.le_of_ble_eq_true rfl) ⟨by decide, by decide, by decide, by decide⟩ dX4_pour_28 (fun _ z => z.elim) (fun v22 c23 p24 => ?_)
        obtain ⟨r, rfl, rfl, rfl⟩ := p24
        refine r_bipush h (v := nI 120) (by decide) dX4_pour_31 ?_
        refine rn_icmp_le h (a := (sO (σ.2.2 j)).length - sP (σ.2.2 j)) (b := 120) (by omega) (by omega) 40 dX4_pour_33 (by decide) (fun r25 => ?_) (fun r25 => ?_)
        · have hle : (sO (σ.2.2 j)).length - sP (σ.2.2 j) ≤ 120 := r25
          refine r_iconst h (v := nI 0) (by decide) dX4_pour_40 ?_
          refine r_iconst h (v := nI 3) (by decide) dX4_pour_41 ?_
          have hm33 := hm21.eq (stT_id σ j)
          refine r_cV h k_X4_59 (i := 33) (As := [.int (nI 0), .int (nI 3)]) (rest := []) (c_X4_isThrown h.i h.t hm33 (nI 0) (nI 3) (nI 0) (by decide) (by decide)) (by omega) hm33.o rfl rfl rfl (Nat.le_of_ble_eq_true rfl) ⟨by decide, by decide, by decide, by decide⟩ dX4_pour_42 (fun _ z => z.elim) (fun v37 c34 p38 => ?_)
          obtain ⟨r, rfl, rfl, hm35, k36⟩ := p38
          refine rn_if_eq h (a := 0) (by omega) 50 dX4_pour_45 (by decide) (fun u39 => ?_) (fun u39 => ?_)
          · have hm35 := hm35.inT j
            refine r_aload_n h 0 rfl rfl dX4_pour_50 ?_
            refine r_iload_n h 1 rfl rfl dX4_pour_51 ?_
            refine r_cV h k_X4_98 (i := 33) (As := [.int (nI j)]) (rest := []) (c_X4_leftOf h.i h.t hj (σ := σ) (t := (σ.2.2 j)) hm35 (hP)) (by omega) hm35.o rfl rfl rfl (Nat.le_of_ble_eq_true rfl) ⟨by decide, by decide, by decide, by decide⟩ dX4_pour_52 (fun _ z => z.elim) (fun v40 c41 p42 => ?_)
            obtain ⟨r, rfl, rfl, rfl⟩ := p42
            refine r_istore_n h ([(3, .int (nI ((sO (σ.2.2 j)).length - sP (σ.2.2 j)))), (0, .ref (G.1 33)), (1, .int (nI j)), (2, .int (nI y))]) rfl dX4_pour_55 (by decide) rfl ?_
            refine r_aload_n h 1 rfl rfl dX4_pour_56 ?_
            refine r_getf h F_X4_13 (i := 33) (by omega) hm35.o rfl dX4_pour_57 ?_
            refine r_iload_n h 3 rfl rfl dX4_pour_60 ?_
            refine r_iconst h (v := nI 0) (by decide) dX4_pour_61 ?_
            obtain ⟨f43, e44, q45⟩ := hm35.a35
            refine r_iast h (i := 35) (by omega) e44 (x := y) (by omega) (by decide) dX4_pour_62 (fun c46 h47 k48 => ?_)
            have hm7 : Mdl G c46 (stT (stS σ y (((sO (σ.2.2 j)).drop (sP (σ.2.2 j))).take 0)) j (pPn 0 (σ.2.2 j))) (nI 0) := by have z7 := (hm35.eq (stT_id σ j)).cutS hy (n := 0) (Nat.zero_le _) q45 h47 k48; exact z7.inT j
            refine r_iconst h (v := nI 0) (by decide) dX4_pour_63 ?_
            refine r_istore h ([(4, .int (nI 0)), (3, .int (nI ((sO (σ.2.2 j)).length - sP (σ.2.2 j)))), (0, .ref (G.1 33)), (1, .int (nI j)), (2, .int (nI y))]) dX4_pour_64 (by decide) rfl ?_
            have hlen : (sO (σ.2.2 j)).length - sP (σ.2.2 j) = (sO (σ.2.2 j)).length - sP (σ.2.2 j) := rfl
            have loop : ∀ (q k : Nat) (c1 : CC), ((sO (σ.2.2 j)).length - sP (σ.2.2 j)) + 1 ≤ k + q → k ≤ ((sO (σ.2.2 j)).length - sP (σ.2.2 j)) → Mdl G c1 (stT (stS σ y (((sO (σ.2.2 j)).drop (sP (σ.2.2 j))).take k)) j (pPn k (σ.2.2 j))) (nI 0) → (∀ y : Nat, y < 33 ∨ 47 ≤ y → c1 y = c y) → V G X c1 [(0, .ref (G.1 33)), (1, .int (nI j)), (2, .int (nI y)), (3, .int (nI ((sO (σ.2.2 j)).length - sP (σ.2.2 j)))), (4, .int (nI k))] (0) (0) 66 [] := by
              intro q
              induction q with
              | zero => intro k c1 a1 a2; exact absurd a1 (by omega)
              | succ q ih =>
                intro k c1 a1 a2 m1 k1
                refine r_iload h 4 rfl dX4_pour_66 ?_
                refine r_iload_n h 3 rfl rfl dX4_pour_68 ?_
                refine rn_icmp_ge h (a := k) (b := (sO (σ.2.2 j)).length - sP (σ.2.2 j)) (by omega) (by omega) 88 dX4_pour_69 (by decide) (fun z49 => ?_) (fun z49 => ?_)
                · have hk9 : k = (sO (σ.2.2 j)).length - sP (σ.2.2 j) := by omega
                  subst hk9
                  refine r_iload_n h 3 rfl rfl dX4_pour_88 ?_
                  exact r_iret h hQ hr dX4_pour_89 ⟨by decide, by decide⟩ ⟨_, rfl, mQ.of (show f_pour σ (nI j) (nI y) = (0, nI ((sO (σ.2.2 j)).length - sP (σ.2.2 j)), stT (stS σ y (((sO (σ.2.2 j)).drop (sP (σ.2.2 j))).take ((sO (σ.2.2 j)).length - sP (σ.2.2 j)))) j (pPn ((sO (σ.2.2 j)).length - sP (σ.2.2 j)) (σ.2.2 j))) by simp [f_pour, opn, ixB_yes hj, ixN_nI hj, ixB_yes hy, ixN_nI hy, hs20, hle]) (fun _ => rfl) (m1) ((show okM (stT σ j (pPn ((sO (σ.2.2 j)).length - sP (σ.2.2 j)) (σ.2.2 j))) from hM.nx j _)) (fun y hy => (k1 y (by omega)))⟩
                · refine r_aload_n h 0 rfl rfl dX4_pour_72 ?_
                  refine r_iload_n h 2 rfl rfl dX4_pour_73 ?_
                  refine r_aload_n h 0 rfl rfl dX4_pour_74 ?_
                  refine r_iload_n h 1 rfl rfl dX4_pour_75 ?_
                  refine r_cV h k_X4_112 (i := 33) (As := [.int (nI j)]) (rest := [.int (nI y), .ref (G.1 33)]) (c_X4_passes h.i h.t hj (σ := (stS σ y (((sO (σ.2.2 j)).drop (sP (σ.2.2 j))).take k))) (t := pPn k (σ.2.2 j)) m1 (okS_pn hos k)) (by omega) m1.o rfl rfl rfl (Nat.le_of_ble_eq_true rfl) ⟨by decide, by decide, by decide, by decide⟩ dX4_pour_76 (fun _ z => z.elim) (fun v53 c50 p54 => ?_)
                  obtain ⟨r, rfl, rfl, hm51, k52⟩ := p54
                  have hx : nxA (pPn k (σ.2.2 j)) = ((sO (σ.2.2 j)).drop (sP (σ.2.2 j))).getD k 0 := by rw [getD_drop]; exact nx_at (by omega)
                  rw [hx]
                  refine r_cV h k_X4_67 (i := 33) (As := [.int (nI y), .int (((sO (σ.2.2 j)).drop (sP (σ.2.2 j))).getD k 0)]) (rest := []) (c_X4_adds h.i h.t hy (σ := stT σ j (pNx (pPn k (σ.2.2 j)))) (A := ((sO (σ.2.2 j)).drop (sP (σ.2.2 j))).take k) hm51 (by rw [List.length_take]; omega) (((sO (σ.2.2 j)).drop (sP (σ.2.2 j))).getD k 0)) (by omega) hm51.o rfl rfl rfl (Nat.le_of_ble_eq_true rfl) ⟨by decide, by decide, by decide, by decide⟩ dX4_pour_79 (fun _ z => z.elim) (fun v58 c55 p59 => ?_)
                  obtain ⟨rfl, hm56, k57⟩ := p59
                  have hm56 : Mdl G c55 (stT (stS σ y (((sO (σ.2.2 j)).drop (sP (σ.2.2 j))).take (k + 1))) j (pPn (k + 1) (σ.2.2 j))) (nI 0) := by rw [take_snoc (by rw [List.length_drop]; omega)]; exact hm56
                  refine r_iinc h 4 ([(4, .int (nI (k + 1))), (0, .ref (G.1 33)), (1, .int (nI j)), (2, .int (nI y)), (3, .int (nI ((sO (σ.2.2 j)).length - sP (σ.2.2 j))))]) rfl (inc_1 (k)) dX4_pour_82 (by decide) rfl ?_
                  refine r_goto h 66 dX4_pour_85 (by decide) ?_
                  refine V_lv [1, 2, 3, 4, 0] rfl ?_
                  exact ih (k + 1) _ (by omega) (by omega) hm56 (fun y hy => (((k57 y (by omega) (by omega)).trans (k52 y (by omega) (by omega) (by omega))).trans (k1 y (by omega))))
            refine V_lv [2, 3, 4, 1, 0] rfl ?_
            exact loop (((sO (σ.2.2 j)).length - sP (σ.2.2 j)) + 1) 0 c46 (by omega) (by omega) hm7 (fun y hy => (((((k48 y (by omega)).trans (k36 y (by omega))).trans (k17 y (by omega))).trans (k10 y (by omega))).trans (k3 y (by omega))))
          · exact absurd u39 (by decide)
        · refine r_iconst h (v := nI 1) (by decide) dX4_pour_36 ?_
          refine r_goto h 41 dX4_pour_37 (by decide) ?_
          refine r_iconst h (v := nI 3) (by decide) dX4_pour_41 ?_
          have hm26 := hm21.eq (stT_id σ j)
          refine r_cV h k_X4_59 (i := 33) (As := [.int (nI 1), .int (nI 3)]) (rest := []) (c_X4_isThrown h.i h.t hm26 (nI 1) (nI 3) (nI 3) (by decide) (by decide)) (by omega) hm26.o rfl rfl rfl (Nat.le_of_ble_eq_true rfl) ⟨by decide, by decide, by decide, by decide⟩ dX4_pour_42 (fun _ z => z.elim) (fun v30 c27 p31 => ?_)
          obtain ⟨r, rfl, rfl, hm28, k29⟩ := p31
          refine rn_if_eq h (a := 1) (by omega) 50 dX4_pour_45 (by decide) (fun u32 => ?_) (fun u32 => ?_)
          · exact absurd u32 (by decide)
          · refine r_iconst h (v := nI 0) (by decide) dX4_pour_48 ?_
            exact r_iret h hQ hr dX4_pour_49 ⟨by decide, by decide⟩ ⟨_, rfl, mQ.of (show f_pour σ (nI j) (nI y) = (3, 0, σ) by simp [f_pour, opn, ixB_yes hj, ixN_nI hj, ixB_yes hy, ixN_nI hy, hs20, show ¬ (sO (σ.2.2 j)).length - sP (σ.2.2 j) ≤ 120 by omega]) (fun z => absurd z (by decide)) (hm28) (hM) (fun y hy => ((((k29 y (by omega)).trans (k17 y (by omega))).trans (k10 y (by omega))).trans (k3 y (by omega))))⟩
set_option maxRecDepth 100000 in
set_option maxHeartbeats 4000000 in
/-- X4_readLine -/
theorem c_X4_readLine {G : GG} {l : Launch} {c : CC} (hG : InjG G) (hl0 : l.stackTraces = false) {σ : St} {th : Int32} (hm : Mdl G c σ th) (hB : Bnd σ) (hM : okM σ) (x y0 : Int32) : MC G l yX4_readLine (.code yX4_readLine cX4_readLine 5 (some .int) :: gws) (rmF 2 0 0 49) [.ref (G.1 33), .int x, .int y0] c (pI (mQ G c (f_readLine σ x y0))) (pF) := by
  refine MC.of (by decide) hl0 hG (Nat.le_of_ble_eq_true rfl) (fun X hX h hN hQ hr => ?_)
  subst hX
  refine r_aload_n h 0 rfl rfl dX4_readLine_0 ?_
  refine r_iload_n h 1 rfl rfl dX4_readLine_1 ?_
  refine r_cV h k_X4_63 (i := 33) (As := [.int x]) (rest := []) (c_X4_isNo h.i h.t hm x) (by omega) hm.o rfl rfl rfl (Nat.le_of_ble_eq_true rfl) ⟨by decide, by decide, by decide, by decide⟩ dX4_readLine_2 (fun _ z => z.elim) (fun v4 c1 p5 => ?_)
  obtain ⟨r, rfl, rfl, hm2, k3⟩ := p5
  refine rb_if_ne h 25 dX4_readLine_5 (by decide) (fun u6 => ?_) (fun u6 => ?_)
  · have hm7 : Mdl G c1 σ (nI 1) := by rw [if_pos u6] at hm2; exact hm2
    refine r_iconst h (v := nI 0) (by decide) dX4_readLine_25 ?_
    exact r_iret h hQ hr dX4_readLine_26 ⟨by decide, by decide⟩ ⟨_, rfl, mQ.of (show f_readLine σ x y0 = (1, 0, σ) by simp [f_readLine, opn, u6]) (fun z => absurd z (by decide)) (hm7) (hM) (fun y hy => (k3 y (by omega)))⟩
  · have hm7 : Mdl G c1 σ (nI 0) := by rw [if_neg u6] at hm2; exact hm2
    obtain ⟨j, hj, rfl⟩ := ixB_ix u6
    have hos := (hB.2.2 j hj).1
    have hO := (hB.2.2 j hj).2.1
    have hP : sP (σ.2.2 j) ≤ (sO (σ.2.2 j)).length := hos.1
    refine r_aload_n h 0 rfl rfl dX4_readLine_8 ?_
    refine r_iload_n h 2 rfl rfl dX4_readLine_9 ?_
    refine r_cV h k_X4_63 (i := 33) (As := [.int y0]) (rest := []) (c_X4_isNo h.i h.t hm7 y0) (by omega) hm7.o rfl rfl rfl (Nat.le_of_ble_eq_true rfl) ⟨by decide, by decide, by decide, by decide⟩ dX4_readLine_10 (fun _ z => z.elim) (fun v11 c8 p12 => ?_)
    obtain ⟨r, rfl, rfl, hm9, k10⟩ := p12
    refine rb_if_ne h 25 dX4_readLine_13 (by decide) (fun u13 => ?_) (fun u13 => ?_)
    · have hm14 : Mdl G c8 σ (nI 1) := by rw [if_pos u13] at hm9; exact hm9
      refine r_iconst h (v := nI 0) (by decide) dX4_readLine_25 ?_
      exact r_iret h hQ hr dX4_readLine_26 ⟨by decide, by decide⟩ ⟨_, rfl, mQ.of (show f_readLine σ (nI j) y0 = (1, 0, σ) by simp [f_readLine, opn, ixB_yes hj, ixN_nI hj, u13]) (fun z => absurd z (by decide)) (hm14) (hM) (fun y hy => ((k10 y (by omega)).trans (k3 y (by omega))))⟩
    · have hm14 : Mdl G c8 σ (nI 0) := by rw [if_neg u13] at hm9; exact hm9
      obtain ⟨y, hy, rfl⟩ := ixB_ix u13
      refine r_aload_n h 0 rfl rfl dX4_readLine_16 ?_
      refine r_iload_n h 1 rfl rfl dX4_readLine_17 ?_
      refine r_iconst h (v := nI 2) (by decide) dX4_readLine_18 ?_
      refine r_cV h k_X4_108 (i := 33) (As := [.int (nI j), .int (nI 2)]) (rest := []) (c_X4_isShut h.i h.t hm14 hj (nI 2)) (by omega) hm14.o rfl rfl rfl (Nat.le_of_ble_eq_true rfl) ⟨by decide, by decide, by decide, by decide⟩ dX4_readLine_19 (fun _ z => z.elim) (fun v18 c15 p19 => ?_)
      obtain ⟨r, rfl, rfl, hm16, k17⟩ := p19
      refine rb_if_eq h 27 dX4_readLine_22 (by decide) (fun hs20 => ?_) (fun hs20 => ?_)
      · have hm21 : Mdl G c15 σ (nI 0) := by rw [if_neg hs20] at hm16; exact hm16
        have hm21 := hm21.inT j
        refine r_iconst h (v := nI 0) (by decide) dX4_readLine_27 ?_
        refine r_istore_n h ([(3, .int (nI 0)), (0, .ref (G.1 33)), (1, .int (nI j)), (2, .int (nI y))]) rfl dX4_readLine_28 (by decide) rfl ?_
        have hnl : nl ((sO (σ.2.2 j)).drop (sP (σ.2.2 j))) ≤ (sO (σ.2.2 j)).length - sP (σ.2.2 j) := Nat.le_trans (nl_le _) (by rw [List.length_drop]; exact Nat.le_refl _)
        suffices KK : V G X c15 [(0, .ref (G.1 33)), (1, .int (nI j)), (2, .int (nI y)), (3, .int (nI (nl ((sO (σ.2.2 j)).drop (sP (σ.2.2 j))))))] (0) (0) 62 [] from ?_
        · skip
          have loop : ∀ (q k : Nat), (sO (σ.2.2 j)).length - sP (σ.2.2 j) + 1 ≤ k + q → k ≤ (sO (σ.2.2 j)).length - sP (σ.2.2 j) → nl ((sO (σ.2.2 j)).drop (sP (σ.2.2 j))) = k + nl ((sO (σ.2.2 j)).drop (sP (σ.2.2 j) + k)) → V G X c15 [(0, .ref (G.1 33)), (1, .int (nI j)), (2, .int (nI y)), (3, .int (nI k))] (0) (0) 29 [] := by
            intro q
            induction q with
            | zero => intro k a1 a2; exact absurd a1 (by omega)
            | succ q ih =>
              intro k a1 a2 a3
              refine r_iload_n h 3 rfl rfl dX4_readLine_29 ?_
              refine r_aload_n h 0 rfl rfl dX4_readLine_30 ?_
              refine r_iload_n h 1 rfl rfl dX4_readLine_31 ?_
              refine r_cV h k_X4_98 (i := 33) (As := [.int (nI j)]) (rest := [.int (nI k)]) (c_X4_leftOf h.i h.t hj (σ := σ) (t := (σ.2.2 j)) hm21 (hP)) (by omega) hm21.o rfl rfl rfl (Nat.le_of_ble_eq_true rfl) ⟨by decide, by decide, by decide, by decide⟩ dX4_readLine_32 (fun _ z => z.elim) (fun v22 c23 p24 => ?_)
              obtain ⟨r, rfl, rfl, rfl⟩ := p24
              refine rn_icmp_ge h (a := k) (b := (sO (σ.2.2 j)).length - sP (σ.2.2 j)) (by omega) (by omega) 62 dX4_readLine_35 (by decide) (fun z25 => ?_) (fun z25 => ?_)
              · have hk9 : nl ((sO (σ.2.2 j)).drop (sP (σ.2.2 j))) = k := by rw [a3, nl_end (show (sO (σ.2.2 j)).length ≤ sP (σ.2.2 j) + k by omega)]; omega
                rw [hk9] at KK
                exact KK
              · refine r_aload_n h 0 rfl rfl dX4_readLine_38 ?_
                refine r_iload_n h 1 rfl rfl dX4_readLine_39 ?_
                refine r_aload_n h 0 rfl rfl dX4_readLine_40 ?_
                refine r_getf h F_X4_31 (i := 33) (by omega) hm21.o rfl dX4_readLine_41 ?_
                refine r_iload_n h 1 rfl rfl dX4_readLine_44 ?_
                obtain ⟨f26, e27, q28⟩ := hm21.a41
                refine r_iald h (i := 41) (by omega) e27 (x := j) (by omega) (by decide) dX4_readLine_45 ?_
                have z29 : f26 (j) = (nI (sP (σ.2.2 j))) := (q28 j hj).trans (by rw [stT_at])
                rw [z29]
                refine r_iload_n h 3 rfl rfl dX4_readLine_46 ?_
                refine r_iadd h (nI_add (sP (σ.2.2 j)) (k)) dX4_readLine_47 ?_
                refine r_cV h k_X4_101 (i := 33) (As := [.int (nI j), .int (nI (sP (σ.2.2 j) + k))]) (rest := []) (c_X4_outAt h.i h.t hj (σ := σ) (t := (σ.2.2 j)) hm21 (k := sP (σ.2.2 j) + k) (by omega)) (by omega) hm21.o rfl rfl rfl (Nat.le_of_ble_eq_true rfl) ⟨by decide, by decide, by decide, by decide⟩ dX4_readLine_48 (fun _ z => z.elim) (fun v30 c31 p32 => ?_)
                obtain ⟨r, rfl, rfl, rfl⟩ := p32
                refine r_bipush h (v := nI 10) (by decide) dX4_readLine_51 ?_
                refine r_icmp_eq h 62 dX4_readLine_53 (by decide) (fun v33 => ?_) (fun v33 => ?_)
                · have hk9 : nl ((sO (σ.2.2 j)).drop (sP (σ.2.2 j))) = k := by rw [a3, nl_yes (by omega) v33]; omega
                  rw [hk9] at KK
                  exact KK
                · refine r_iinc h 3 ([(3, .int (nI (k + 1))), (0, .ref (G.1 33)), (1, .int (nI j)), (2, .int (nI y))]) rfl (inc_1 (k)) dX4_readLine_56 (by decide) rfl ?_
                  refine r_goto h 29 dX4_readLine_59 (by decide) ?_
                  refine V_lv [1, 2, 3, 0] rfl ?_
                  exact ih (k + 1) (by omega) (by omega) (by rw [a3, nl_no (by omega) v33, show sP (σ.2.2 j) + (k + 1) = sP (σ.2.2 j) + k + 1 by omega]; omega)
          refine V_lv [1, 2, 3, 0] rfl ?_
          exact loop ((sO (σ.2.2 j)).length - sP (σ.2.2 j) + 1) 0 (by omega) (by omega) (by rw [Nat.zero_add]; rfl)
        · refine r_aload_n h 0 rfl rfl dX4_readLine_62 ?_
          refine r_iload_n h 3 rfl rfl dX4_readLine_63 ?_
          refine r_bipush h (v := nI 120) (by decide) dX4_readLine_64 ?_
          refine rn_icmp_le h (a := nl ((sO (σ.2.2 j)).drop (sP (σ.2.2 j)))) (b := 120) (by omega) (by omega) 73 dX4_readLine_66 (by decide) (fun r34 => ?_) (fun r34 => ?_)
          · have hle : nl ((sO (σ.2.2 j)).drop (sP (σ.2.2 j))) ≤ 120 := r34
            refine r_iconst h (v := nI 0) (by decide) dX4_readLine_73 ?_
            refine r_iconst h (v := nI 3) (by decide) dX4_readLine_74 ?_
            have hm42 := hm21.eq (stT_id σ j)
            refine r_cV h k_X4_59 (i := 33) (As := [.int (nI 0), .int (nI 3)]) (rest := []) (c_X4_isThrown h.i h.t hm42 (nI 0) (nI 3) (nI 0) (by decide) (by decide)) (by omega) hm42.o rfl rfl rfl (Nat.le_of_ble_eq_true rfl) ⟨by decide, by decide, by decide, by decide⟩ dX4_readLine_75 (fun _ z => z.elim) (fun v46 c43 p47 => ?_)
            obtain ⟨r, rfl, rfl, hm44, k45⟩ := p47
            refine rn_if_eq h (a := 0) (by omega) 83 dX4_readLine_78 (by decide) (fun u48 => ?_) (fun u48 => ?_)
            · have hm44 := hm44.inT j
              refine r_aload_n h 0 rfl rfl dX4_readLine_83 ?_
              refine r_iload_n h 1 rfl rfl dX4_readLine_84 ?_
              refine r_cV h k_X4_98 (i := 33) (As := [.int (nI j)]) (rest := []) (c_X4_leftOf h.i h.t hj (σ := σ) (t := (σ.2.2 j)) hm44 (hP)) (by omega) hm44.o rfl rfl rfl (Nat.le_of_ble_eq_true rfl) ⟨by decide, by decide, by decide, by decide⟩ dX4_readLine_85 (fun _ z => z.elim) (fun v49 c50 p51 => ?_)
              obtain ⟨r, rfl, rfl, rfl⟩ := p51
              refine rn_if_ne h (a := (sO (σ.2.2 j)).length - sP (σ.2.2 j)) (by omega) 93 dX4_readLine_88 (by decide) (fun z52 => ?_) (fun z52 => ?_)
              · refine r_aload_n h 0 rfl rfl dX4_readLine_93 ?_
                refine r_getf h F_X4_13 (i := 33) (by omega) hm44.o rfl dX4_readLine_94 ?_
                refine r_iload_n h 2 rfl rfl dX4_readLine_97 ?_
                refine r_iconst h (v := nI 0) (by decide) dX4_readLine_98 ?_
                obtain ⟨f53, e54, q55⟩ := hm44.a35
                refine r_iast h (i := 35) (by omega) e54 (x := y) (by omega) (by decide) dX4_readLine_99 (fun c56 h57 k58 => ?_)
                have hm7 : Mdl G c56 (stT (stS σ y (((sO (σ.2.2 j)).drop (sP (σ.2.2 j))).take 0)) j (pPn 0 (σ.2.2 j))) (nI 0) := by have z7 := (hm44.eq (stT_id σ j)).cutS hy (n := 0) (Nat.zero_le _) q55 h57 k58; exact z7.inT j
                refine r_iconst h (v := nI 0) (by decide) dX4_readLine_100 ?_
                refine r_istore h ([(4, .int (nI 0)), (0, .ref (G.1 33)), (1, .int (nI j)), (2, .int (nI y)), (3, .int (nI (nl ((sO (σ.2.2 j)).drop (sP (σ.2.2 j))))))]) dX4_readLine_101 (by decide) rfl ?_
                have loop : ∀ (q k : Nat) (c1 : CC), (nl ((sO (σ.2.2 j)).drop (sP (σ.2.2 j)))) + 1 ≤ k + q → k ≤ (nl ((sO (σ.2.2 j)).drop (sP (σ.2.2 j)))) → Mdl G c1 (stT (stS σ y (((sO (σ.2.2 j)).drop (sP (σ.2.2 j))).take k)) j (pPn k (σ.2.2 j))) (nI 0) → (∀ y : Nat, y < 33 ∨ 47 ≤ y → c1 y = c y) → V G X c1 [(0, .ref (G.1 33)), (1, .int (nI j)), (2, .int (nI y)), (3, .int (nI (nl ((sO (σ.2.2 j)).drop (sP (σ.2.2 j)))))), (4, .int (nI k))] (0) (0) 103 [] := by
                  intro q
                  induction q with
                  | zero => intro k c1 a1 a2; exact absurd a1 (by omega)
                  | succ q ih =>
                    intro k c1 a1 a2 m1 k1
                    refine r_iload h 4 rfl dX4_readLine_103 ?_
                    refine r_iload_n h 3 rfl rfl dX4_readLine_105 ?_
                    refine rn_icmp_ge h (a := k) (b := nl ((sO (σ.2.2 j)).drop (sP (σ.2.2 j)))) (by omega) (by omega) 125 dX4_readLine_106 (by decide) (fun z59 => ?_) (fun z59 => ?_)
                    · have hk9 : k = nl ((sO (σ.2.2 j)).drop (sP (σ.2.2 j))) := by omega
                      subst hk9
                      refine r_aload_n h 0 rfl rfl dX4_readLine_125 ?_
                      refine r_iload_n h 1 rfl rfl dX4_readLine_126 ?_
                      refine r_cV h k_X4_112 (i := 33) (As := [.int (nI j)]) (rest := []) (c_X4_passes h.i h.t hj (σ := (stS σ y (((sO (σ.2.2 j)).drop (sP (σ.2.2 j))).take (nl ((sO (σ.2.2 j)).drop (sP (σ.2.2 j))))))) (t := pPn (nl ((sO (σ.2.2 j)).drop (sP (σ.2.2 j)))) (σ.2.2 j)) m1 (okS_pn hos _)) (by omega) m1.o rfl rfl rfl (Nat.le_of_ble_eq_true rfl) ⟨by decide, by decide, by decide, by decide⟩ dX4_readLine_127 (fun _ z => z.elim) (fun v73 c70 p74 => ?_)
                      obtain ⟨r, rfl, rfl, hm71, k72⟩ := p74
                      refine r_istore h ([(4, .int (nxA (pPn (nl ((sO (σ.2.2 j)).drop (sP (σ.2.2 j)))) (σ.2.2 j)))), (0, .ref (G.1 33)), (1, .int (nI j)), (2, .int (nI y)), (3, .int (nI (nl ((sO (σ.2.2 j)).drop (sP (σ.2.2 j))))))]) dX4_readLine_130 (by decide) rfl ?_
                      refine r_iload_n h 4 rfl rfl dX4_readLine_132 ?_
                      exact r_iret h hQ hr dX4_readLine_133 ⟨by decide, by decide⟩ ⟨_, rfl, mQ.of (show f_readLine σ (nI j) (nI y) = (0, nI (nl ((sO (σ.2.2 j)).drop (sP (σ.2.2 j)))), stT (stS σ y (((sO (σ.2.2 j)).drop (sP (σ.2.2 j))).take (nl ((sO (σ.2.2 j)).drop (sP (σ.2.2 j)))))) j (pNx (pPn (nl ((sO (σ.2.2 j)).drop (sP (σ.2.2 j)))) (σ.2.2 j)))) by simp [f_readLine, opn, ixB_yes hj, ixN_nI hj, ixB_yes hy, ixN_nI hy, hs20, z52, hle]) (fun _ => rfl) (hm71) ((show okM (stT σ j (pPn ((nl ((sO (σ.2.2 j)).drop (sP (σ.2.2 j)))) + 1) (σ.2.2 j))) from hM.nx j _)) (fun y hy => ((k72 y (by omega) (by omega) (by omega)).trans (k1 y (by omega))))⟩
                    · refine r_aload_n h 0 rfl rfl dX4_readLine_109 ?_
                      refine r_iload_n h 2 rfl rfl dX4_readLine_110 ?_
                      refine r_aload_n h 0 rfl rfl dX4_readLine_111 ?_
                      refine r_iload_n h 1 rfl rfl dX4_readLine_112 ?_
                      refine r_cV h k_X4_112 (i := 33) (As := [.int (nI j)]) (rest := [.int (nI y), .ref (G.1 33)]) (c_X4_passes h.i h.t hj (σ := (stS σ y (((sO (σ.2.2 j)).drop (sP (σ.2.2 j))).take k))) (t := pPn k (σ.2.2 j)) m1 (okS_pn hos k)) (by omega) m1.o rfl rfl rfl (Nat.le_of_ble_eq_true rfl) ⟨by decide, by decide, by decide, by decide⟩ dX4_readLine_113 (fun _ z => z.elim) (fun v63 c60 p64 => ?_)
                      obtain ⟨r, rfl, rfl, hm61, k62⟩ := p64
                      have hx : nxA (pPn k (σ.2.2 j)) = ((sO (σ.2.2 j)).drop (sP (σ.2.2 j))).getD k 0 := by rw [getD_drop]; exact nx_at (by omega)
                      rw [hx]
                      refine r_cV h k_X4_67 (i := 33) (As := [.int (nI y), .int (((sO (σ.2.2 j)).drop (sP (σ.2.2 j))).getD k 0)]) (rest := []) (c_X4_adds h.i h.t hy (σ := stT σ j (pNx (pPn k (σ.2.2 j)))) (A := ((sO (σ.2.2 j)).drop (sP (σ.2.2 j))).take k) hm61 (by rw [List.length_take]; omega) (((sO (σ.2.2 j)).drop (sP (σ.2.2 j))).getD k 0)) (by omega) hm61.o rfl rfl rfl (Nat.le_of_ble_eq_true rfl) ⟨by decide, by decide, by decide, by decide⟩ dX4_readLine_116 (fun _ z => z.elim) (fun v68 c65 p69 => ?_)
                      obtain ⟨rfl, hm66, k67⟩ := p69
                      have hm66 : Mdl G c65 (stT (stS σ y (((sO (σ.2.2 j)).drop (sP (σ.2.2 j))).take (k + 1))) j (pPn (k + 1) (σ.2.2 j))) (nI 0) := by rw [take_snoc (by rw [List.length_drop]; omega)]; exact hm66
                      refine r_iinc h 4 ([(4, .int (nI (k + 1))), (0, .ref (G.1 33)), (1, .int (nI j)), (2, .int (nI y)), (3, .int (nI (nl ((sO (σ.2.2 j)).drop (sP (σ.2.2 j))))))]) rfl (inc_1 (k)) dX4_readLine_119 (by decide) rfl ?_
                      refine r_goto h 103 dX4_readLine_122 (by decide) ?_
                      refine V_lv [1, 2, 3, 4, 0] rfl ?_
                      exact ih (k + 1) _ (by omega) (by omega) hm66 (fun y hy => (((k67 y (by omega) (by omega)).trans (k62 y (by omega) (by omega) (by omega))).trans (k1 y (by omega))))
                refine V_lv [1, 2, 3, 4, 0] rfl ?_
                exact loop ((nl ((sO (σ.2.2 j)).drop (sP (σ.2.2 j)))) + 1) 0 c56 (by omega) (by omega) hm7 (fun y hy => (((((k58 y (by omega)).trans (k45 y (by omega))).trans (k17 y (by omega))).trans (k10 y (by omega))).trans (k3 y (by omega))))
              · refine r_iconst h (v := -1) (by decide) dX4_readLine_91 ?_
                exact r_iret h hQ hr dX4_readLine_92 ⟨by decide, by decide⟩ ⟨_, rfl, mQ.of (show f_readLine σ (nI j) (nI y) = (0, -1, σ) by simp [f_readLine, opn, ixB_yes hj, ixN_nI hj, ixB_yes hy, ixN_nI hy, hs20, z52]) (fun _ => rfl) (hm44.eq (stT_id σ j)) (hM) (fun y hy => ((((k45 y (by omega)).trans (k17 y (by omega))).trans (k10 y (by omega))).trans (k3 y (by omega))))⟩
            · exact absurd u48 (by decide)
          · refine r_iconst h (v := nI 1) (by decide) dX4_readLine_69 ?_
            refine r_goto h 74 dX4_readLine_70 (by decide) ?_
            refine r_iconst h (v := nI 3) (by decide) dX4_readLine_74 ?_
            have hm35 := hm21.eq (stT_id σ j)
            refine r_cV h k_X4_59 (i := 33) (As := [.int (nI 1), .int (nI 3)]) (rest := []) (c_X4_isThrown h.i h.t hm35 (nI 1) (nI 3) (nI 3) (by decide) (by decide)) (by omega) hm35.o rfl rfl rfl (Nat.le_of_ble_eq_true rfl) ⟨by decide, by decide, by decide, by decide⟩ dX4_readLine_75 (fun _ z => z.elim) (fun v39 c36 p40 => ?_)
            obtain ⟨r, rfl, rfl, hm37, k38⟩ := p40
            refine rn_if_eq h (a := 1) (by omega) 83 dX4_readLine_78 (by decide) (fun u41 => ?_) (fun u41 => ?_)
            · exact absurd u41 (by decide)
            · refine r_iconst h (v := nI 0) (by decide) dX4_readLine_81 ?_
              exact r_iret h hQ hr dX4_readLine_82 ⟨by decide, by decide⟩ ⟨_, rfl, mQ.of (show f_readLine σ (nI j) (nI y) = (3, 0, σ) by simp [f_readLine, opn, ixB_yes hj, ixN_nI hj, ixB_yes hy, ixN_nI hy, hs20, show ¬ (sO (σ.2.2 j)).length - sP (σ.2.2 j) = 0 by omega, show ¬ nl ((sO (σ.2.2 j)).drop (sP (σ.2.2 j))) ≤ 120 by omega]) (fun z => absurd z (by decide)) (hm37) (hM) (fun y hy => ((((k38 y (by omega)).trans (k17 y (by omega))).trans (k10 y (by omega))).trans (k3 y (by omega))))⟩
      · have hm21 : Mdl G c15 σ (nI 2) := by rw [if_pos hs20] at hm16; exact hm16
        refine r_iconst h (v := nI 0) (by decide) dX4_readLine_25 ?_
        exact r_iret h hQ hr dX4_readLine_26 ⟨by decide, by decide⟩ ⟨_, rfl, mQ.of (show f_readLine σ (nI j) (nI y) = (2, 0, σ) by simp [f_readLine, opn, ixB_yes hj, ixN_nI hj, ixB_yes hy, ixN_nI hy, hs20]) (fun z => absurd z (by decide)) (hm21) (hM) (fun y hy => (((k17 y (by omega)).trans (k10 y (by omega))).trans (k3 y (by omega))))⟩
