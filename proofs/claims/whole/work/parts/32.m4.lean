/-! THE MODEL: its calls, three -/
set_option maxRecDepth 100000 in
set_option maxHeartbeats 4000000 in
/-- X4_back -/
theorem c_X4_back {G : GG} {l : Launch} {c : CC} (hG : InjG G) (hl0 : l.stackTraces = false) {σ : St} {th : Int32} (hm : Mdl G c σ th) (hB : Bnd σ) (hM : okM σ) (x : Int32) : MC G l yX4_back (.code yX4_back cX4_back 4 (some .int) :: gws) (rmF 2 0 0 43) [.ref (G.1 33), .int x] c (pI (mQ G c (f_back σ x))) (pF) := by
  refine MC.of (by decide) hl0 hG (Nat.le_of_ble_eq_true rfl) (fun X hX h hN hQ hr => ?_)
  subst hX
  refine r_aload_n h 0 rfl rfl dX4_back_0 ?_
  refine r_iload_n h 1 rfl rfl dX4_back_1 ?_
  refine r_cV h k_X4_63 (i := 33) (As := [.int x]) (rest := []) (c_X4_isNo h.i h.t hm x) (by omega) hm.o rfl rfl rfl (Nat.le_of_ble_eq_true rfl) ⟨by decide, by decide, by decide, by decide⟩ dX4_back_2 (fun _ z => z.elim) (fun v4 c1 p5 => ?_)
  obtain ⟨r, rfl, rfl, hm2, k3⟩ := p5
  refine rb_if_eq h 10 dX4_back_5 (by decide) (fun u6 => ?_) (fun u6 => ?_)
  · have hm7 : Mdl G c1 σ (nI 0) := by rw [if_neg u6] at hm2; exact hm2
    obtain ⟨j, hj, rfl⟩ := ixB_ix u6
    suffices KK : ∀ v : Int32, v = (if sK (σ.2.2 j) = -1 ∨ isTw (sK (σ.2.2 j)) = true then nI 1 else nI 0) → V G X c1 [(2, .int v), (0, .ref (G.1 33)), (1, .int (nI j))] (0) (0) 38 [] from ?_
    · refine r_aload_n h 0 rfl rfl dX4_back_10 ?_
      refine r_getf h F_X4_19 (i := 33) (by omega) hm7.o rfl dX4_back_11 ?_
      refine r_iload_n h 1 rfl rfl dX4_back_14 ?_
      obtain ⟨f8, e9, q10⟩ := hm7.a37
      refine r_iald h (i := 37) (by omega) e9 (x := j) (by omega) (by decide) dX4_back_15 ?_
      have z11 : f8 (j) = sK (σ.2.2 j) := q10 j hj
      rw [z11]
      refine r_iconst h (v := -1) (by decide) dX4_back_16 ?_
      refine r_icmp_eq h 32 dX4_back_17 (by decide) (fun a12 => ?_) (fun a12 => ?_)
      · refine r_iconst h (v := nI 1) (by decide) dX4_back_32 ?_
        refine r_goto h 37 dX4_back_33 (by decide) ?_
        refine r_istore_n h ([(2, .int (nI 1)), (0, .ref (G.1 33)), (1, .int (nI j))]) rfl dX4_back_37 (by decide) rfl ?_
        exact KK _ (if_pos (Or.inl a12)).symm
      · refine r_aload_n h 0 rfl rfl dX4_back_20 ?_
        refine r_getf h F_X4_19 (i := 33) (by omega) hm7.o rfl dX4_back_21 ?_
        refine r_iload_n h 1 rfl rfl dX4_back_24 ?_
        obtain ⟨f13, e14, q15⟩ := hm7.a37
        refine r_iald h (i := 37) (by omega) e14 (x := j) (by omega) (by decide) dX4_back_25 ?_
        have z16 : f13 (j) = sK (σ.2.2 j) := q15 j hj
        rw [z16]
        refine r_cS h k_X4_89 (As := [.int (sK (σ.2.2 j))]) (rest := []) (c_X4_isOfTwo h.i h.t (sK (σ.2.2 j))) rfl rfl (Nat.le_of_ble_eq_true rfl) ⟨by decide, by decide, by decide, by decide⟩ dX4_back_26 (fun _ z => z.elim) (fun v17 c18 p19 => ?_)
        obtain ⟨r, rfl, rfl, rfl⟩ := p19
        refine rb_if_eq h 36 dX4_back_29 (by decide) (fun a20 => ?_) (fun a20 => ?_)
        · refine r_iconst h (v := nI 0) (by decide) dX4_back_36 ?_
          refine r_istore_n h ([(2, .int (nI 0)), (0, .ref (G.1 33)), (1, .int (nI j))]) rfl dX4_back_37 (by decide) rfl ?_
          exact KK _ (if_neg (fun z => z.elim a12 a20)).symm
        · refine r_iconst h (v := nI 1) (by decide) dX4_back_32 ?_
          refine r_goto h 37 dX4_back_33 (by decide) ?_
          refine r_istore_n h ([(2, .int (nI 1)), (0, .ref (G.1 33)), (1, .int (nI j))]) rfl dX4_back_37 (by decide) rfl ?_
          exact KK _ (if_pos (Or.inr a20)).symm
    · intro v hv
      suffices KK : ∀ v2 : Int32, v2 = (if hasL (sK (σ.2.2 j)) = true ∧ sX (σ.2.2 j) = none then nI 1 else nI 0) → V G X c1 [(3, .int v2), (2, .int v), (0, .ref (G.1 33)), (1, .int (nI j))] (0) (0) 65 [] from ?_
      · refine r_aload_n h 1 rfl rfl dX4_back_38 ?_
        refine r_getf h F_X4_19 (i := 33) (by omega) hm7.o rfl dX4_back_39 ?_
        refine r_iload_n h 2 rfl rfl dX4_back_42 ?_
        obtain ⟨f21, e22, q23⟩ := hm7.a37
        refine r_iald h (i := 37) (by omega) e22 (x := j) (by omega) (by decide) dX4_back_43 ?_
        have z24 : f21 (j) = sK (σ.2.2 j) := q23 j hj
        rw [z24]
        refine r_cS h k_X4_82 (As := [.int (sK (σ.2.2 j))]) (rest := []) (c_X4_hasLine h.i h.t (sK (σ.2.2 j))) rfl rfl (Nat.le_of_ble_eq_true rfl) ⟨by decide, by decide, by decide, by decide⟩ dX4_back_44 (fun _ z => z.elim) (fun v25 c26 p27 => ?_)
        obtain ⟨r, rfl, rfl, rfl⟩ := p27
        refine rb_if_eq h 63 dX4_back_47 (by decide) (fun a28 => ?_) (fun a28 => ?_)
        · refine r_iconst h (v := nI 0) (by decide) dX4_back_63 ?_
          refine r_istore_n h ([(3, .int (nI 0)), (2, .int v), (0, .ref (G.1 33)), (1, .int (nI j))]) rfl dX4_back_64 (by decide) rfl ?_
          exact KK _ (if_neg (fun z => a28 z.1)).symm
        · refine r_aload_n h 1 rfl rfl dX4_back_50 ?_
          refine r_getf h F_X4_41 (i := 33) (by omega) hm7.o rfl dX4_back_51 ?_
          refine r_iload_n h 2 rfl rfl dX4_back_54 ?_
          obtain ⟨f29, e30, q31⟩ := hm7.a44
          refine r_zald h (i := 44) (by omega) e30 (x := j) (by omega) (by decide) dX4_back_55 ?_
          have z32 : f29 (j) = (if (sX (σ.2.2 j)).isSome = true then 1 else 0) := q31 j hj
          rw [z32]
          refine rb_if_ne h 63 dX4_back_56 (by decide) (fun a33 => ?_) (fun a33 => ?_)
          · refine r_iconst h (v := nI 0) (by decide) dX4_back_63 ?_
            refine r_istore_n h ([(3, .int (nI 0)), (2, .int v), (0, .ref (G.1 33)), (1, .int (nI j))]) rfl dX4_back_64 (by decide) rfl ?_
            exact KK _ (if_neg (fun z => by rw [z.2] at a33; exact absurd a33 (by decide))).symm
          · refine r_iconst h (v := nI 1) (by decide) dX4_back_59 ?_
            refine r_goto h 64 dX4_back_60 (by decide) ?_
            refine r_istore_n h ([(3, .int (nI 1)), (2, .int v), (0, .ref (G.1 33)), (1, .int (nI j))]) rfl dX4_back_64 (by decide) rfl ?_
            exact KK _ (if_pos ⟨a28, by cases hx : sX (σ.2.2 j) with | none => rfl | some q => rw [hx] at a33; exact absurd rfl a33⟩).symm
      · intro v2 hv2
        refine r_aload_n h 2 rfl rfl dX4_back_65 ?_
        refine r_iload_n h 1 rfl rfl dX4_back_66 ?_
        refine r_if_ne h 74 dX4_back_67 (by decide) (fun a34 => ?_) (fun a34 => ?_)
        · have hA : sK (σ.2.2 j) = -1 ∨ isTw (sK (σ.2.2 j)) = true := Classical.byContradiction (fun z => a34 (by rw [hv, if_neg z]; rfl))
          refine r_iconst h (v := nI 1) (by decide) dX4_back_74 ?_
          refine r_goto h 79 dX4_back_75 (by decide) ?_
          refine r_iconst h (v := nI 2) (by decide) dX4_back_79 ?_
          refine r_cV h k_X4_59 (i := 33) (As := [.int (nI 1), .int (nI 2)]) (rest := []) (c_X4_isThrown h.i h.t hm7 (nI 1) (nI 2) (nI 2) (by decide) (by decide)) (by omega) hm7.o rfl rfl rfl (Nat.le_of_ble_eq_true rfl) ⟨by decide, by decide, by decide, by decide⟩ dX4_back_80 (fun _ z => z.elim) (fun v38 c35 p39 => ?_)
          obtain ⟨r, rfl, rfl, hm36, k37⟩ := p39
          refine rn_if_eq h (a := 1) (by omega) 88 dX4_back_83 (by decide) (fun u40 => ?_) (fun u40 => ?_)
          · exact absurd u40 (by decide)
          · refine r_iconst h (v := nI 0) (by decide) dX4_back_86 ?_
            exact r_iret h hQ hr dX4_back_87 ⟨by decide, by decide⟩ ⟨_, rfl, mQ.of (show f_back σ (nI j) = (2, 0, σ) from f_back_no hj (hA.elim Or.inl (fun z => Or.inr (bk_tw (hM j hj) z)))) (fun z => absurd z (by decide)) (hm36) (hM) (fun y hy => ((k37 y (by omega)).trans (k3 y (by omega))))⟩
        · have hA : ¬ (sK (σ.2.2 j) = -1 ∨ isTw (sK (σ.2.2 j)) = true) := fun z => by rw [hv, if_pos z] at a34; exact absurd a34 (by decide)
          refine r_iload_n h 0 rfl rfl dX4_back_70 ?_
          refine r_if_eq h 78 dX4_back_71 (by decide) (fun a41 => ?_) (fun a41 => ?_)
          · have hA2 : ¬ (hasL (sK (σ.2.2 j)) = true ∧ sX (σ.2.2 j) = none) := fun z => by rw [hv2, if_pos z] at a41; exact absurd a41 (by decide)
            have hos := hB.2.2 j hj
            refine r_iconst h (v := nI 0) (by decide) dX4_back_78 ?_
            refine r_iconst h (v := nI 2) (by decide) dX4_back_79 ?_
            refine r_cV h k_X4_59 (i := 33) (As := [.int (nI 0), .int (nI 2)]) (rest := []) (c_X4_isThrown h.i h.t hm7 (nI 0) (nI 2) (nI 0) (by decide) (by decide)) (by omega) hm7.o rfl rfl rfl (Nat.le_of_ble_eq_true rfl) ⟨by decide, by decide, by decide, by decide⟩ dX4_back_80 (fun _ z => z.elim) (fun v51 c48 p52 => ?_)
            obtain ⟨r, rfl, rfl, hm49, k50⟩ := p52
            refine rn_if_eq h (a := 0) (by omega) 88 dX4_back_83 (by decide) (fun u53 => ?_) (fun u53 => ?_)
            · have hm49 := hm49.inT j
              refine r_aload_n h 2 rfl rfl dX4_back_88 ?_
              refine r_getf h F_X4_31 (i := 33) (by omega) hm49.o rfl dX4_back_89 ?_
              refine r_iload_n h 3 rfl rfl dX4_back_92 ?_
              refine r_aload_n h 2 rfl rfl dX4_back_93 ?_
              refine r_getf h F_X4_41 (i := 33) (by omega) hm49.o rfl dX4_back_94 ?_
              refine r_iload_n h 3 rfl rfl dX4_back_97 ?_
              obtain ⟨f54, e55, q56⟩ := hm49.a44
              refine r_zald h (i := 44) (by omega) e55 (x := j) (by omega) (by decide) dX4_back_98 ?_
              have z57 : f54 (j) = (if (sX (σ.2.2 j)).isSome = true then 1 else 0) := (q56 j hj).trans (by rw [stT_at])
              rw [z57]
              refine rb_if_eq h 111 dX4_back_99 (by decide) (fun a58 => ?_) (fun a58 => ?_)
              · have hx : sX (σ.2.2 j) = none := by cases hx : sX (σ.2.2 j) with | none => rfl | some q => rw [hx] at a58; exact absurd rfl a58
                refine r_iconst h (v := nI 0) (by decide) dX4_back_111 ?_
                obtain ⟨f89, e90, q91⟩ := hm49.a41
                refine r_iast h (i := 41) (by omega) e90 (x := j) (by omega) (by decide) dX4_back_112 (fun c92 h93 k94 => ?_)
                have hm95 : Mdl G c92 (stT σ j (sK (σ.2.2 j), sO (σ.2.2 j), sM (σ.2.2 j), 0, sN (σ.2.2 j), sG (σ.2.2 j), sX (σ.2.2 j))) ((nI 0)) := hm49.uP hj q91 h93 k94
                refine r_aload_n h 2 rfl rfl dX4_back_113 ?_
                refine r_getf h F_X4_34 (i := 33) (by omega) hm95.o rfl dX4_back_114 ?_
                refine r_iload_n h 3 rfl rfl dX4_back_117 ?_
                refine r_aload_n h 2 rfl rfl dX4_back_118 ?_
                refine r_getf h F_X4_41 (i := 33) (by omega) hm95.o rfl dX4_back_119 ?_
                refine r_iload_n h 3 rfl rfl dX4_back_122 ?_
                obtain ⟨f96, e97, q98⟩ := hm95.a44
                refine r_zald h (i := 44) (by omega) e97 (x := j) (by omega) (by decide) dX4_back_123 ?_
                have z99 : f96 (j) = (if (sX (σ.2.2 j)).isSome = true then 1 else 0) := (q98 j hj).trans (by rw [stT_at])
                rw [z99]
                refine rb_if_eq h 136 dX4_back_124 (by decide) (fun a100 => ?_) (fun a100 => ?_)
                · refine r_iconst h (v := nI 0) (by decide) dX4_back_136 ?_
                  obtain ⟨f101, e102, q103⟩ := hm95.a42
                  refine r_iast h (i := 42) (by omega) e102 (x := j) (by omega) (by decide) dX4_back_137 (fun c104 h105 k106 => ?_)
                  have hm107 : Mdl G c104 (stT σ j (sK (σ.2.2 j), sO (σ.2.2 j), sM (σ.2.2 j), 0, nI 0, sG (σ.2.2 j), sX (σ.2.2 j))) ((nI 0)) := hm95.uN hj q103 h105 k106
                  refine r_aload_n h 2 rfl rfl dX4_back_138 ?_
                  refine r_iload_n h 3 rfl rfl dX4_back_139 ?_
                  refine r_cV h k_X4_121 (i := 33) (As := [.int (nI j)]) (rest := []) (c_X4_lineOf h.i h.t hj hm107) (by omega) hm107.o rfl rfl rfl (Nat.le_of_ble_eq_true rfl) ⟨by decide, by decide, by decide, by decide⟩ dX4_back_140 (fun _ z => z.elim) (fun v108 c109 p110 => ?_)
                  obtain ⟨r, rfl, rfl, rfl⟩ := p110
                  exact r_iret h hQ hr dX4_back_143 ⟨by decide, by decide⟩ ⟨_, rfl, mQ.of (show f_back σ (nI j) = (0, shL (pBk (σ.2.2 j) (0, nI 0)), stT σ j (pBk (σ.2.2 j) (0, nI 0))) from f_back_ok hj (fun z => hA (Or.inl z)) (bk_none hos.2.2 hA hA2 hx)) (fun _ => rfl) (hm107) (hM.set (fun z => z)) (fun y hy => ((((k106 y (by omega)).trans (k94 y (by omega))).trans (k50 y (by omega))).trans (k3 y (by omega))))⟩
                · exact absurd a100 (by rw [hx]; decide)
              · obtain ⟨⟨pp, pn⟩, hx⟩ := Option.isSome_iff_exists.mp a58
                refine r_aload_n h 2 rfl rfl dX4_back_102 ?_
                refine r_getf h F_X4_45 (i := 33) (by omega) hm49.o rfl dX4_back_103 ?_
                refine r_iload_n h 3 rfl rfl dX4_back_106 ?_
                obtain ⟨f59, e60, q61⟩ := hm49.a45
                refine r_iald h (i := 45) (by omega) e60 (x := j) (by omega) (by decide) dX4_back_107 ?_
                have z62 : f59 (j) = (nI (pp)) := by have z := q61 j hj pp pn; rw [stT_at] at z; exact z hx
                rw [z62]
                refine r_goto h 112 dX4_back_108 (by decide) ?_
                obtain ⟨f63, e64, q65⟩ := hm49.a41
                refine r_iast h (i := 41) (by omega) e64 (x := j) (by omega) (by decide) dX4_back_112 (fun c66 h67 k68 => ?_)
                have hm69 : Mdl G c66 (stT σ j (sK (σ.2.2 j), sO (σ.2.2 j), sM (σ.2.2 j), pp, sN (σ.2.2 j), sG (σ.2.2 j), sX (σ.2.2 j))) ((nI 0)) := hm49.uP hj q65 h67 k68
                refine r_aload_n h 2 rfl rfl dX4_back_113 ?_
                refine r_getf h F_X4_34 (i := 33) (by omega) hm69.o rfl dX4_back_114 ?_
                refine r_iload_n h 3 rfl rfl dX4_back_117 ?_
                refine r_aload_n h 2 rfl rfl dX4_back_118 ?_
                refine r_getf h F_X4_41 (i := 33) (by omega) hm69.o rfl dX4_back_119 ?_
                refine r_iload_n h 3 rfl rfl dX4_back_122 ?_
                obtain ⟨f70, e71, q72⟩ := hm69.a44
                refine r_zald h (i := 44) (by omega) e71 (x := j) (by omega) (by decide) dX4_back_123 ?_
                have z73 : f70 (j) = (if (sX (σ.2.2 j)).isSome = true then 1 else 0) := (q72 j hj).trans (by rw [stT_at])
                rw [z73]
                refine rb_if_eq h 136 dX4_back_124 (by decide) (fun a74 => ?_) (fun a74 => ?_)
                · exact absurd (by rw [hx]; rfl) a74
                · refine r_aload_n h 2 rfl rfl dX4_back_127 ?_
                  refine r_getf h F_X4_48 (i := 33) (by omega) hm69.o rfl dX4_back_128 ?_
                  refine r_iload_n h 3 rfl rfl dX4_back_131 ?_
                  obtain ⟨f75, e76, q77⟩ := hm69.a46
                  refine r_iald h (i := 46) (by omega) e76 (x := j) (by omega) (by decide) dX4_back_132 ?_
                  have z78 : f75 (j) = pn := by have z := q77 j hj pp pn; rw [stT_at] at z; exact z hx
                  rw [z78]
                  refine r_goto h 137 dX4_back_133 (by decide) ?_
                  obtain ⟨f79, e80, q81⟩ := hm69.a42
                  refine r_iast h (i := 42) (by omega) e80 (x := j) (by omega) (by decide) dX4_back_137 (fun c82 h83 k84 => ?_)
                  have hm85 : Mdl G c82 (stT σ j (sK (σ.2.2 j), sO (σ.2.2 j), sM (σ.2.2 j), pp, pn, sG (σ.2.2 j), sX (σ.2.2 j))) ((nI 0)) := hm69.uN hj q81 h83 k84
                  refine r_aload_n h 2 rfl rfl dX4_back_138 ?_
                  refine r_iload_n h 3 rfl rfl dX4_back_139 ?_
                  refine r_cV h k_X4_121 (i := 33) (As := [.int (nI j)]) (rest := []) (c_X4_lineOf h.i h.t hj hm85) (by omega) hm85.o rfl rfl rfl (Nat.le_of_ble_eq_true rfl) ⟨by decide, by decide, by decide, by decide⟩ dX4_back_140 (fun _ z => z.elim) (fun v86 c87 p88 => ?_)
                  obtain ⟨r, rfl, rfl, rfl⟩ := p88
                  exact r_iret h hQ hr dX4_back_143 ⟨by decide, by decide⟩ ⟨_, rfl, mQ.of (show f_back σ (nI j) = (0, shL (pBk (σ.2.2 j) (pp, pn)), stT σ j (pBk (σ.2.2 j) (pp, pn))) from f_back_ok hj (fun z => hA (Or.inl z)) (bk_some hx)) (fun _ => rfl) (hm85) (hM.set (fun z => z)) (fun y hy => ((((k84 y (by omega)).trans (k68 y (by omega))).trans (k50 y (by omega))).trans (k3 y (by omega))))⟩
            · exact absurd u53 (by decide)
          · have hA2 : hasL (sK (σ.2.2 j)) = true ∧ sX (σ.2.2 j) = none := Classical.byContradiction (fun z => a41 (by rw [hv2, if_neg z]; rfl))
            refine r_iconst h (v := nI 1) (by decide) dX4_back_74 ?_
            refine r_goto h 79 dX4_back_75 (by decide) ?_
            refine r_iconst h (v := nI 2) (by decide) dX4_back_79 ?_
            refine r_cV h k_X4_59 (i := 33) (As := [.int (nI 1), .int (nI 2)]) (rest := []) (c_X4_isThrown h.i h.t hm7 (nI 1) (nI 2) (nI 2) (by decide) (by decide)) (by omega) hm7.o rfl rfl rfl (Nat.le_of_ble_eq_true rfl) ⟨by decide, by decide, by decide, by decide⟩ dX4_back_80 (fun _ z => z.elim) (fun v45 c42 p46 => ?_)
            obtain ⟨r, rfl, rfl, hm43, k44⟩ := p46
            refine rn_if_eq h (a := 1) (by omega) 88 dX4_back_83 (by decide) (fun u47 => ?_) (fun u47 => ?_)
            · exact absurd u47 (by decide)
            · refine r_iconst h (v := nI 0) (by decide) dX4_back_86 ?_
              exact r_iret h hQ hr dX4_back_87 ⟨by decide, by decide⟩ ⟨_, rfl, mQ.of (show f_back σ (nI j) = (2, 0, σ) from f_back_no hj (Or.inr (bk_ln hA2.1 hA2.2))) (fun z => absurd z (by decide)) (hm43) (hM) (fun y hy => ((k44 y (by omega)).trans (k3 y (by omega))))⟩
  · have hm7 : Mdl G c1 σ (nI 1) := by rw [if_pos u6] at hm2; exact hm2
    refine r_iconst h (v := nI 0) (by decide) dX4_back_8 ?_
    exact r_iret h hQ hr dX4_back_9 ⟨by decide, by decide⟩ ⟨_, rfl, mQ.of (show f_back σ x = (1, 0, σ) by simp [f_back, opn, u6]) (fun z => absurd z (by decide)) (hm7) (hM) (fun y hy => (k3 y (by omega)))⟩
set_option maxRecDepth 100000 in
set_option maxHeartbeats 4000000 in
/-- X4_open -/
theorem c_X4_open {G : GG} {l : Launch} {c : CC} (hG : InjG G) (hl0 : l.stackTraces = false) {σ : St} {th : Int32} (hm : Mdl G c σ th) (hB : Bnd σ) (hM : okM σ) (x kd sa sb : Int32) : MC G l yX4_open (.code yX4_open cX4_open 7 (some .int) :: gws) (rmF 2 0 0 49) [.ref (G.1 33), .int x, .int kd, .int sa, .int sb] c (pI (mQ G c (f_open σ x kd sa sb))) (pF) := by
  refine MC.of (by decide) hl0 hG (Nat.le_of_ble_eq_true rfl) (fun X hX h hN hQ hr => ?_)
  subst hX
  refine r_aload_n h 0 rfl rfl dX4_open_0 ?_
  refine r_iload_n h 1 rfl rfl dX4_open_1 ?_
  refine r_cV h k_X4_63 (i := 33) (As := [.int x]) (rest := []) (c_X4_isNo h.i h.t hm x) (by omega) hm.o rfl rfl rfl (Nat.le_of_ble_eq_true rfl) ⟨by decide, by decide, by decide, by decide⟩ dX4_open_2 (fun _ z => z.elim) (fun v4 c1 p5 => ?_)
  obtain ⟨r, rfl, rfl, hm2, k3⟩ := p5
  refine rb_if_ne h 48 dX4_open_5 (by decide) (fun u6 => ?_) (fun u6 => ?_)
  · have hm7 : Mdl G c1 σ (nI 1) := by rw [if_pos u6] at hm2; exact hm2
    refine r_iconst h (v := nI 0) (by decide) dX4_open_48 ?_
    exact r_iret h hQ hr dX4_open_49 ⟨by decide, by decide⟩ ⟨_, rfl, mQ.of (show f_open σ x kd sa sb = (1, 0, σ) by simp [f_open, opn, u6]) (fun z => absurd z (by decide)) (hm7) (hM) (fun y hy => (k3 y (by omega)))⟩
  · have hm7 : Mdl G c1 σ (nI 0) := by rw [if_neg u6] at hm2; exact hm2
    obtain ⟨j, hj, rfl⟩ := ixB_ix u6
    refine r_aload_n h 0 rfl rfl dX4_open_8 ?_
    refine r_iload_n h 3 rfl rfl dX4_open_9 ?_
    refine r_cV h k_X4_63 (i := 33) (As := [.int sa]) (rest := []) (c_X4_isNo h.i h.t hm7 sa) (by omega) hm7.o rfl rfl rfl (Nat.le_of_ble_eq_true rfl) ⟨by decide, by decide, by decide, by decide⟩ dX4_open_10 (fun _ z => z.elim) (fun v11 c8 p12 => ?_)
    obtain ⟨r, rfl, rfl, hm9, k10⟩ := p12
    refine rb_if_ne h 48 dX4_open_13 (by decide) (fun u13 => ?_) (fun u13 => ?_)
    · have hm14 : Mdl G c8 σ (nI 1) := by rw [if_pos u13] at hm9; exact hm9
      refine r_iconst h (v := nI 0) (by decide) dX4_open_48 ?_
      exact r_iret h hQ hr dX4_open_49 ⟨by decide, by decide⟩ ⟨_, rfl, mQ.of (show f_open σ (nI j) kd sa sb = (1, 0, σ) by simp [f_open, opn, ixB_yes hj, ixN_nI hj, u13]) (fun z => absurd z (by decide)) (hm14) (hM) (fun y hy => ((k10 y (by omega)).trans (k3 y (by omega))))⟩
    · have hm14 : Mdl G c8 σ (nI 0) := by rw [if_neg u13] at hm9; exact hm9
      obtain ⟨a, ha, rfl⟩ := ixB_ix u13
      refine r_aload_n h 0 rfl rfl dX4_open_16 ?_
      refine r_iload h 4 rfl dX4_open_17 ?_
      refine r_cV h k_X4_63 (i := 33) (As := [.int sb]) (rest := []) (c_X4_isNo h.i h.t hm14 sb) (by omega) hm14.o rfl rfl rfl (Nat.le_of_ble_eq_true rfl) ⟨by decide, by decide, by decide, by decide⟩ dX4_open_19 (fun _ z => z.elim) (fun v18 c15 p19 => ?_)
      obtain ⟨r, rfl, rfl, hm16, k17⟩ := p19
      refine rb_if_ne h 48 dX4_open_22 (by decide) (fun u20 => ?_) (fun u20 => ?_)
      · have hm21 : Mdl G c15 σ (nI 1) := by rw [if_pos u20] at hm16; exact hm16
        refine r_iconst h (v := nI 0) (by decide) dX4_open_48 ?_
        exact r_iret h hQ hr dX4_open_49 ⟨by decide, by decide⟩ ⟨_, rfl, mQ.of (show f_open σ (nI j) kd (nI a) sb = (1, 0, σ) by simp [f_open, opn, ixB_yes hj, ixN_nI hj, ixB_yes ha, ixN_nI ha, u20]) (fun z => absurd z (by decide)) (hm21) (hM) (fun y hy => (((k17 y (by omega)).trans (k10 y (by omega))).trans (k3 y (by omega))))⟩
      · have hm21 : Mdl G c15 σ (nI 0) := by rw [if_neg u20] at hm16; exact hm16
        obtain ⟨b, hb, rfl⟩ := ixB_ix u20
        refine r_aload_n h 0 rfl rfl dX4_open_25 ?_
        refine r_iload_n h 2 rfl rfl dX4_open_26 ?_
        refine r_iconst h (v := nI 0) (by decide) dX4_open_27 ?_
        refine r_bipush h (v := nI 7) (by decide) dX4_open_28 ?_
        refine r_cS h k_X4_55 (As := [.int kd, .int (nI 0), .int (nI 7)]) (rest := [.ref (G.1 33)]) (c_X4_lies h.i h.t kd (nI (0)) (nI (7))) rfl rfl (Nat.le_of_ble_eq_true rfl) ⟨by decide, by decide, by decide, by decide⟩ dX4_open_30 (fun _ z => z.elim) (fun v22 c23 p24 => ?_)
        obtain ⟨r, rfl, rfl, rfl⟩ := p24
        refine rb_if_ne h 40 dX4_open_33 (by decide) (fun hb25 => ?_) (fun hb25 => ?_)
        · refine r_iconst h (v := nI 0) (by decide) dX4_open_40 ?_
          refine r_iconst h (v := nI 2) (by decide) dX4_open_41 ?_
          refine r_cV h k_X4_59 (i := 33) (As := [.int (nI 0), .int (nI 2)]) (rest := []) (c_X4_isThrown h.i h.t hm21 (nI 0) (nI 2) (nI 0) (by decide) (by decide)) (by omega) hm21.o rfl rfl rfl (Nat.le_of_ble_eq_true rfl) ⟨by decide, by decide, by decide, by decide⟩ dX4_open_42 (fun _ z => z.elim) (fun v35 c32 p36 => ?_)
          obtain ⟨r, rfl, rfl, hm33, k34⟩ := p36
          refine rn_if_eq h (a := 0) (by omega) 50 dX4_open_45 (by decide) (fun u37 => ?_) (fun u37 => ?_)
          · obtain ⟨m, mlo, mhi, rfl⟩ := btB_nat hb25 (by decide) (by decide)
            have hLa := hB.1 a ha
            have hLb := hB.1 b hb
            have hla := hLa.1
            have hlb := hLb.1
            suffices KK : V G X c32 [(5, .int (if isLi (nI m) = true then 1 else 0)), (0, .ref (G.1 33)), (1, .int (nI j)), (2, .int (nI m)), (3, .int (nI a)), (4, .int (nI b))] (0) (0) 70 [] from ?_
            · refine r_iload_n h 2 rfl rfl dX4_open_50 ?_
              refine r_cS h k_X4_82 (As := [.int (nI m)]) (rest := []) (c_X4_hasLine h.i h.t (nI m)) rfl rfl (Nat.le_of_ble_eq_true rfl) ⟨by decide, by decide, by decide, by decide⟩ dX4_open_51 (fun _ z => z.elim) (fun v38 c39 p40 => ?_)
              obtain ⟨r, rfl, rfl, rfl⟩ := p40
              refine rb_if_ne h 63 dX4_open_54 (by decide) (fun a41 => ?_) (fun a41 => ?_)
              · refine r_iconst h (v := nI 1) (by decide) dX4_open_63 ?_
                refine r_goto h 68 dX4_open_64 (by decide) ?_
                refine r_istore h ([(5, .int (nI 1)), (0, .ref (G.1 33)), (1, .int (nI j)), (2, .int (nI m)), (3, .int (nI a)), (4, .int (nI b))]) dX4_open_68 (by decide) rfl ?_
                rw [if_pos (li_of a41)] at KK
                exact KK
              · refine r_iload_n h 2 rfl rfl dX4_open_57 ?_
                refine r_bipush h (v := nI 7) (by decide) dX4_open_58 ?_
                refine r_icmp_ne h 67 dX4_open_60 (by decide) (fun a42 => ?_) (fun a42 => ?_)
                · refine r_iconst h (v := nI 0) (by decide) dX4_open_67 ?_
                  refine r_istore h ([(5, .int (nI 0)), (0, .ref (G.1 33)), (1, .int (nI j)), (2, .int (nI m)), (3, .int (nI a)), (4, .int (nI b))]) dX4_open_68 (by decide) rfl ?_
                  rw [if_neg (li_no a41 a42)] at KK
                  exact KK
                · refine r_iconst h (v := nI 1) (by decide) dX4_open_63 ?_
                  refine r_goto h 68 dX4_open_64 (by decide) ?_
                  refine r_istore h ([(5, .int (nI 1)), (0, .ref (G.1 33)), (1, .int (nI j)), (2, .int (nI m)), (3, .int (nI a)), (4, .int (nI b))]) dX4_open_68 (by decide) rfl ?_
                  rw [if_pos (li_7 a42)] at KK
                  exact KK
            · have hm33 := hm33.inT j
              refine r_aload_n h 1 rfl rfl dX4_open_70 ?_
              refine r_getf h F_X4_19 (i := 33) (by omega) hm33.o rfl dX4_open_71 ?_
              refine r_iload_n h 2 rfl rfl dX4_open_74 ?_
              refine r_iload_n h 3 rfl rfl dX4_open_75 ?_
              obtain ⟨f43, e44, q45⟩ := hm33.a37
              refine r_iast h (i := 37) (by omega) e44 (x := j) (by omega) (by decide) dX4_open_76 (fun c46 h47 k48 => ?_)
              have hm49 : Mdl G c46 (stT σ j (nI m, sO (σ.2.2 j), sM (σ.2.2 j), sP (σ.2.2 j), sN (σ.2.2 j), sG (σ.2.2 j), sX (σ.2.2 j))) ((nI 0)) := hm33.uK hj q45 h47 k48
              refine r_aload_n h 1 rfl rfl dX4_open_77 ?_
              refine r_getf h F_X4_25 (i := 33) (by omega) hm49.o rfl dX4_open_78 ?_
              refine r_iload_n h 2 rfl rfl dX4_open_81 ?_
              refine r_iconst h (v := nI 0) (by decide) dX4_open_82 ?_
              obtain ⟨f50, e51, q52⟩ := hm49.a39
              refine r_iast h (i := 39) (by omega) e51 (x := j) (by omega) (by decide) dX4_open_83 (fun c53 h54 k55 => ?_)
              have hm56 : Mdl G c53 (stT σ j (nI m, [], sM (σ.2.2 j), sP (σ.2.2 j), sN (σ.2.2 j), sG (σ.2.2 j), sX (σ.2.2 j))) ((nI 0)) := hm49.uO hj q52 h54 k55
              refine r_aload_n h 1 rfl rfl dX4_open_84 ?_
              refine r_iload_n h 2 rfl rfl dX4_open_85 ?_
              refine r_iload_n h 4 rfl rfl dX4_open_86 ?_
              refine r_iload h 0 rfl dX4_open_87 ?_
              refine r_iconst h (v := nI 0) (by decide) dX4_open_89 ?_
              refine r_cV h k_X4_85 (i := 33) (As := [.int (nI j), .int (nI a), .int (if isLi (nI m) = true then 1 else 0), .int (nI 0)]) (rest := []) (c_X4_goesIn h.i h.t hj ha (A := (σ.1 a)) rfl hm56 hLa.2 (by show 0 + (σ.1 a).length ≤ 240; omega) (isLi (nI m)) ((nI (0)))) (by omega) hm56.o rfl rfl rfl (Nat.le_of_ble_eq_true rfl) ⟨by decide, by decide, by decide, by decide⟩ dX4_open_90 (fun _ z => z.elim) (fun v60 c57 p61 => ?_)
              obtain ⟨r, rfl, rfl, hm58, k59⟩ := p61
              have hm58 : Mdl G c57 (stT σ j (nI m, [] ++ gI (isLi (nI m)) (nI 0) (σ.1 a), sM (σ.2.2 j), sP (σ.2.2 j), sN (σ.2.2 j), sG (σ.2.2 j), sX (σ.2.2 j))) (nI 0) := hm58
              refine r_istore h ([(6, .int (if (σ.1 a).length = 0 then (nI (0)) else (σ.1 a).getD ((σ.1 a).length - 1) 0)), (5, .int (if isLi (nI m) = true then 1 else 0)), (0, .ref (G.1 33)), (1, .int (nI j)), (2, .int (nI m)), (3, .int (nI a)), (4, .int (nI b))]) dX4_open_93 (by decide) rfl ?_
              refine r_aload_n h 2 rfl rfl dX4_open_95 ?_
              refine r_getf h F_X4_28 (i := 33) (by omega) hm58.o rfl dX4_open_96 ?_
              refine r_iload_n h 3 rfl rfl dX4_open_99 ?_
              refine r_aload_n h 2 rfl rfl dX4_open_100 ?_
              refine r_getf h F_X4_25 (i := 33) (by omega) hm58.o rfl dX4_open_101 ?_
              refine r_iload_n h 3 rfl rfl dX4_open_104 ?_
              obtain ⟨f62, e63, q64⟩ := hm58.a39
              refine r_iald h (i := 39) (by omega) e63 (x := j) (by omega) (by decide) dX4_open_105 ?_
              have z65 : f62 (j) = (nI (([] ++ gI (isLi (nI m)) (nI 0) (σ.1 a)).length)) := (q64 j hj).trans (by rw [stT_at])
              rw [z65]
              obtain ⟨f66, e67, q68⟩ := hm58.a40
              refine r_iast h (i := 40) (by omega) e67 (x := j) (by omega) (by decide) dX4_open_106 (fun c69 h70 k71 => ?_)
              have hm72 : Mdl G c69 (stT σ j (nI m, [] ++ gI (isLi (nI m)) (nI 0) (σ.1 a), ([] ++ gI (isLi (nI m)) (nI 0) (σ.1 a)).length, sP (σ.2.2 j), sN (σ.2.2 j), sG (σ.2.2 j), sX (σ.2.2 j))) ((nI 0)) := hm58.uM hj q68 h70 k71
              refine r_iload_n h 4 rfl rfl dX4_open_107 ?_
              refine r_cS h k_X4_89 (As := [.int (nI m)]) (rest := []) (c_X4_isOfTwo h.i h.t (nI m)) rfl rfl (Nat.le_of_ble_eq_true rfl) ⟨by decide, by decide, by decide, by decide⟩ dX4_open_108 (fun _ z => z.elim) (fun v73 c74 p75 => ?_)
              obtain ⟨r, rfl, rfl, rfl⟩ := p75
              have hF : [] ++ gI (isLi (nI m)) (nI 0) (σ.1 a) = fpK (nI m) (σ.1 a) := by rw [List.nil_append]; exact gI_out.symm
              have hgl : ([] ++ gI (isLi (nI m)) (nI 0) (σ.1 a)).length ≤ (σ.1 a).length := by rw [hF]; exact fpK_len _ _
              suffices KK : ∀ (v : Int32) (c1 : CC) (O : List Int32), O = outK (nI m) (σ.1 a) (σ.1 b) → Mdl G c1 (stT σ j (nI m, O, (fpK (nI m) (σ.1 a)).length, sP (σ.2.2 j), sN (σ.2.2 j), sG (σ.2.2 j), sX (σ.2.2 j))) (nI 0) → (∀ y : Nat, y < 33 ∨ 47 ≤ y → c1 y = c y) → V G X c1 [(6, .int v), (5, .int (if isLi (nI m) = true then 1 else 0)), (0, .ref (G.1 33)), (1, .int (nI j)), (2, .int (nI m)), (3, .int (nI a)), (4, .int (nI b))] (0) (0) 136 [] from ?_
              · refine rb_if_eq h 136 dX4_open_111 (by decide) (fun tw76 => ?_) (fun tw76 => ?_)
                · exact KK _ _ ([] ++ gI (isLi (nI m)) (nI 0) (σ.1 a)) (by rw [hF]; exact out_one tw76) (by rw [← hF]; exact hm72) (fun y hy => ((((((((k71 y (by omega)).trans (k59 y (by omega) (by omega))).trans (k55 y (by omega))).trans (k48 y (by omega))).trans (k34 y (by omega))).trans (k17 y (by omega))).trans (k10 y (by omega))).trans (k3 y (by omega))))
                · refine r_aload_n h 2 rfl rfl dX4_open_114 ?_
                  refine r_iload_n h 3 rfl rfl dX4_open_115 ?_
                  refine r_iload h 6 rfl dX4_open_116 ?_
                  refine r_iload h 1 rfl dX4_open_118 ?_
                  refine r_iload_n h 4 rfl rfl dX4_open_120 ?_
                  refine r_iconst h (v := nI 5) (by decide) dX4_open_121 ?_
                  refine r_icmp_ne h 130 dX4_open_122 (by decide) (fun a77 => ?_) (fun a77 => ?_)
                  · refine r_iconst h (v := nI 0) (by decide) dX4_open_130 ?_
                    refine r_cV h k_X4_85 (i := 33) (As := [.int (nI j), .int (nI b), .int (if isLi (nI m) = true then 1 else 0), .int (nI 0)]) (rest := []) (c_X4_goesIn h.i h.t hj hb (A := (σ.1 b)) rfl hm72 hLb.2 (by show ([] ++ gI (isLi (nI m)) (nI 0) (σ.1 a)).length + (σ.1 b).length ≤ 240; omega) (isLi (nI m)) ((nI (0)))) (by omega) hm72.o rfl rfl rfl (Nat.le_of_ble_eq_true rfl) ⟨by decide, by decide, by decide, by decide⟩ dX4_open_131 (fun _ z => z.elim) (fun v81 c78 p82 => ?_)
                    obtain ⟨r, rfl, rfl, hm79, k80⟩ := p82
                    have hm79 : Mdl G c78 (stT σ j (nI m, ([] ++ gI (isLi (nI m)) (nI 0) (σ.1 a)) ++ gI (isLi (nI m)) (nI 0) (σ.1 b), ([] ++ gI (isLi (nI m)) (nI 0) (σ.1 a)).length, sP (σ.2.2 j), sN (σ.2.2 j), sG (σ.2.2 j), sX (σ.2.2 j))) (nI 0) := hm79
                    refine r_istore h ([(6, .int (if (σ.1 b).length = 0 then (nI (0)) else (σ.1 b).getD ((σ.1 b).length - 1) 0)), (5, .int (if isLi (nI m) = true then 1 else 0)), (0, .ref (G.1 33)), (1, .int (nI j)), (2, .int (nI m)), (3, .int (nI a)), (4, .int (nI b))]) dX4_open_134 (by decide) rfl ?_
                    refine V_lv [0, 1, 2, 3, 4, 5, 6] rfl ?_
                    exact KK _ _ (([] ++ gI (isLi (nI m)) (nI 0) (σ.1 a)) ++ gI (isLi (nI m)) (nI 0) (σ.1 b)) (by rw [hF]; exact gI_two (by omega) tw76 ((if_neg a77).symm)) (by rw [← hF]; exact hm79) (fun y hy => (((((((((k80 y (by omega) (by omega)).trans (k71 y (by omega))).trans (k59 y (by omega) (by omega))).trans (k55 y (by omega))).trans (k48 y (by omega))).trans (k34 y (by omega))).trans (k17 y (by omega))).trans (k10 y (by omega))).trans (k3 y (by omega))))
                  · refine r_iload h 0 rfl dX4_open_125 ?_
                    refine r_goto h 131 dX4_open_127 (by decide) ?_
                    refine r_cV h k_X4_85 (i := 33) (As := [.int (nI j), .int (nI b), .int (if isLi (nI m) = true then 1 else 0), .int (if (σ.1 a).length = 0 then (nI (0)) else (σ.1 a).getD ((σ.1 a).length - 1) 0)]) (rest := []) (c_X4_goesIn h.i h.t hj hb (A := (σ.1 b)) rfl hm72 hLb.2 (by show ([] ++ gI (isLi (nI m)) (nI 0) (σ.1 a)).length + (σ.1 b).length ≤ 240; omega) (isLi (nI m)) (if (σ.1 a).length = 0 then (nI (0)) else (σ.1 a).getD ((σ.1 a).length - 1) 0)) (by omega) hm72.o rfl rfl rfl (Nat.le_of_ble_eq_true rfl) ⟨by decide, by decide, by decide, by decide⟩ dX4_open_131 (fun _ z => z.elim) (fun v86 c83 p87 => ?_)
                    obtain ⟨r, rfl, rfl, hm84, k85⟩ := p87
                    have hm84 : Mdl G c83 (stT σ j (nI m, ([] ++ gI (isLi (nI m)) (nI 0) (σ.1 a)) ++ gI (isLi (nI m)) (if (σ.1 a).length = 0 then nI 0 else (σ.1 a).getD ((σ.1 a).length - 1) 0) (σ.1 b), ([] ++ gI (isLi (nI m)) (nI 0) (σ.1 a)).length, sP (σ.2.2 j), sN (σ.2.2 j), sG (σ.2.2 j), sX (σ.2.2 j))) (nI 0) := hm84
                    refine r_istore h ([(6, .int (if (σ.1 b).length = 0 then if (σ.1 a).length = 0 then (nI (0)) else (σ.1 a).getD ((σ.1 a).length - 1) 0 else (σ.1 b).getD ((σ.1 b).length - 1) 0)), (5, .int (if isLi (nI m) = true then 1 else 0)), (0, .ref (G.1 33)), (1, .int (nI j)), (2, .int (nI m)), (3, .int (nI a)), (4, .int (nI b))]) dX4_open_134 (by decide) rfl ?_
                    refine V_lv [0, 1, 2, 3, 4, 5, 6] rfl ?_
                    exact KK _ _ (([] ++ gI (isLi (nI m)) (nI 0) (σ.1 a)) ++ gI (isLi (nI m)) (if (σ.1 a).length = 0 then nI 0 else (σ.1 a).getD ((σ.1 a).length - 1) 0) (σ.1 b)) (by rw [hF]; exact gI_two (by omega) tw76 ((if_pos a77).symm)) (by rw [← hF]; exact hm84) (fun y hy => (((((((((k85 y (by omega) (by omega)).trans (k71 y (by omega))).trans (k59 y (by omega) (by omega))).trans (k55 y (by omega))).trans (k48 y (by omega))).trans (k34 y (by omega))).trans (k17 y (by omega))).trans (k10 y (by omega))).trans (k3 y (by omega))))
              · intro v c1 O hO m1 k1
                refine r_aload_n h 2 rfl rfl dX4_open_136 ?_
                refine r_getf h F_X4_31 (i := 33) (by omega) m1.o rfl dX4_open_137 ?_
                refine r_iload_n h 3 rfl rfl dX4_open_140 ?_
                refine r_iconst h (v := nI 0) (by decide) dX4_open_141 ?_
                obtain ⟨f88, e89, q90⟩ := m1.a41
                refine r_iast h (i := 41) (by omega) e89 (x := j) (by omega) (by decide) dX4_open_142 (fun c91 h92 k93 => ?_)
                have hm94 : Mdl G c91 (stT σ j (nI m, O, (fpK (nI m) (σ.1 a)).length, 0, sN (σ.2.2 j), sG (σ.2.2 j), sX (σ.2.2 j))) ((nI 0)) := m1.uP hj q90 h92 k93
                refine r_aload_n h 2 rfl rfl dX4_open_143 ?_
                refine r_getf h F_X4_34 (i := 33) (by omega) hm94.o rfl dX4_open_144 ?_
                refine r_iload_n h 3 rfl rfl dX4_open_147 ?_
                refine r_iconst h (v := nI 0) (by decide) dX4_open_148 ?_
                obtain ⟨f95, e96, q97⟩ := hm94.a42
                refine r_iast h (i := 42) (by omega) e96 (x := j) (by omega) (by decide) dX4_open_149 (fun c98 h99 k100 => ?_)
                have hm101 : Mdl G c98 (stT σ j (nI m, O, (fpK (nI m) (σ.1 a)).length, 0, nI 0, sG (σ.2.2 j), sX (σ.2.2 j))) ((nI 0)) := hm94.uN hj q97 h99 k100
                refine r_aload_n h 2 rfl rfl dX4_open_150 ?_
                refine r_getf h F_X4_37 (i := 33) (by omega) hm101.o rfl dX4_open_151 ?_
                refine r_iload_n h 3 rfl rfl dX4_open_154 ?_
                refine r_ldc2 h K_X4_92 dX4_open_155 ?_
                obtain ⟨f102, e103, q104⟩ := hm101.a43
                refine r_last h (i := 43) (by omega) e103 (x := j) (by omega) (by decide) dX4_open_158 (fun c105 h106 k107 => ?_)
                have hm108 : Mdl G c105 (stT σ j (nI m, O, (fpK (nI m) (σ.1 a)).length, 0, nI 0, 4294967295, sX (σ.2.2 j))) ((nI 0)) := hm101.uG hj q104 h106 k107
                refine r_aload_n h 2 rfl rfl dX4_open_159 ?_
                refine r_getf h F_X4_41 (i := 33) (by omega) hm108.o rfl dX4_open_160 ?_
                refine r_iload_n h 3 rfl rfl dX4_open_163 ?_
                refine r_iconst h (v := nI 0) (by decide) dX4_open_164 ?_
                obtain ⟨f109, e110, q111⟩ := hm108.a44
                refine r_zast h (i := 44) (by omega) e110 (x := j) (by omega) (by decide) dX4_open_165 (fun c112 h113 k114 => ?_)
                have hm115 : Mdl G c112 (stT σ j (nI m, O, (fpK (nI m) (σ.1 a)).length, 0, nI 0, 4294967295, none)) ((nI 0)) := hm108.uZ hj q111 h113 k114
                refine r_iload_n h 4 rfl rfl dX4_open_166 ?_
                refine r_cS h k_X4_89 (As := [.int (nI m)]) (rest := []) (c_X4_isOfTwo h.i h.t (nI m)) rfl rfl (Nat.le_of_ble_eq_true rfl) ⟨by decide, by decide, by decide, by decide⟩ dX4_open_167 (fun _ z => z.elim) (fun v116 c117 p118 => ?_)
                obtain ⟨r, rfl, rfl, rfl⟩ := p118
                refine rb_if_eq h 190 dX4_open_170 (by decide) (fun tw119 => ?_) (fun tw119 => ?_)
                · refine r_aload_n h 2 rfl rfl dX4_open_190 ?_
                  refine r_getf h F_X4_13 (i := 33) (by omega) hm115.o rfl dX4_open_191 ?_
                  refine r_iload_n h 5 rfl rfl dX4_open_194 ?_
                  obtain ⟨f120, e121, q122⟩ := hm115.a35
                  refine r_iald h (i := 35) (by omega) e121 (x := a) (by omega) (by decide) dX4_open_195 ?_
                  have z123 : f120 (a) = (nI ((σ.1 a).length)) := q122 a ha
                  rw [z123]
                  exact r_iret h hQ hr dX4_open_196 ⟨by decide, by decide⟩ ⟨_, rfl, mQ.of (show f_open σ (nI j) (nI m) (nI a) (nI b) = (0, nI (σ.1 a).length, stT σ j (pOp (nI m) (σ.1 a) (σ.1 b))) by simp [f_open, opn, ixB_yes hj, ixN_nI hj, ixB_yes ha, ixN_nI ha, ixB_yes hb, ixN_nI hb, hb25, hb25, tw119]) (fun _ => rfl) (by have z9 := hm115; rw [hO] at z9; exact z9) (hM.set (fun _ q e => by cases e)) (fun y hy => (((((k114 y (by omega)).trans (k107 y (by omega))).trans (k100 y (by omega))).trans (k93 y (by omega))).trans (k1 y (by omega))))⟩
                · refine r_aload_n h 2 rfl rfl dX4_open_173 ?_
                  refine r_getf h F_X4_13 (i := 33) (by omega) hm115.o rfl dX4_open_174 ?_
                  refine r_iload_n h 5 rfl rfl dX4_open_177 ?_
                  obtain ⟨f124, e125, q126⟩ := hm115.a35
                  refine r_iald h (i := 35) (by omega) e125 (x := a) (by omega) (by decide) dX4_open_178 ?_
                  have z127 : f124 (a) = (nI ((σ.1 a).length)) := q126 a ha
                  rw [z127]
                  refine r_aload_n h 2 rfl rfl dX4_open_179 ?_
                  refine r_getf h F_X4_13 (i := 33) (by omega) hm115.o rfl dX4_open_180 ?_
                  refine r_iload h 6 rfl dX4_open_183 ?_
                  obtain ⟨f128, e129, q130⟩ := hm115.a35
                  refine r_iald h (i := 35) (by omega) e129 (x := b) (by omega) (by decide) dX4_open_185 ?_
                  have z131 : f128 (b) = (nI ((σ.1 b).length)) := q130 b hb
                  rw [z131]
                  refine r_iadd h (nI_add ((σ.1 a).length) ((σ.1 b).length)) dX4_open_186 ?_
                  refine r_goto h 196 dX4_open_187 (by decide) ?_
                  exact r_iret h hQ hr dX4_open_196 ⟨by decide, by decide⟩ ⟨_, rfl, mQ.of (show f_open σ (nI j) (nI m) (nI a) (nI b) = (0, nI ((σ.1 a).length + (σ.1 b).length), stT σ j (pOp (nI m) (σ.1 a) (σ.1 b))) by simp [f_open, opn, ixB_yes hj, ixN_nI hj, ixB_yes ha, ixN_nI ha, ixB_yes hb, ixN_nI hb, hb25, hb25, tw119]) (fun _ => rfl) (by have z9 := hm115; rw [hO] at z9; exact z9) (hM.set (fun _ q e => by cases e)) (fun y hy => (((((k114 y (by omega)).trans (k107 y (by omega))).trans (k100 y (by omega))).trans (k93 y (by omega))).trans (k1 y (by omega))))⟩
          · exact absurd u37 (by decide)
        · refine r_iconst h (v := nI 1) (by decide) dX4_open_36 ?_
          refine r_goto h 41 dX4_open_37 (by decide) ?_
          refine r_iconst h (v := nI 2) (by decide) dX4_open_41 ?_
          refine r_cV h k_X4_59 (i := 33) (As := [.int (nI 1), .int (nI 2)]) (rest := []) (c_X4_isThrown h.i h.t hm21 (nI 1) (nI 2) (nI 2) (by decide) (by decide)) (by omega) hm21.o rfl rfl rfl (Nat.le_of_ble_eq_true rfl) ⟨by decide, by decide, by decide, by decide⟩ dX4_open_42 (fun _ z => z.elim) (fun v29 c26 p30 => ?_)
          obtain ⟨r, rfl, rfl, hm27, k28⟩ := p30
          refine rn_if_eq h (a := 1) (by omega) 50 dX4_open_45 (by decide) (fun u31 => ?_) (fun u31 => ?_)
          · exact absurd u31 (by decide)
          · refine r_iconst h (v := nI 0) (by decide) dX4_open_48 ?_
            exact r_iret h hQ hr dX4_open_49 ⟨by decide, by decide⟩ ⟨_, rfl, mQ.of (show f_open σ (nI j) kd (nI a) (nI b) = (2, 0, σ) by simp [f_open, opn, ixB_yes hj, ixN_nI hj, ixB_yes ha, ixN_nI ha, ixB_yes hb, ixN_nI hb, hb25]) (fun z => absurd z (by decide)) (hm27) (hM) (fun y hy => ((((k28 y (by omega)).trans (k17 y (by omega))).trans (k10 y (by omega))).trans (k3 y (by omega))))⟩
