/-! THE MODEL: its calls, one -/
set_option maxRecDepth 100000 in
set_option maxHeartbeats 4000000 in
/-- X4_type -/
theorem c_X4_type {G : GG} {l : Launch} {c : CC} (hG : InjG G) (hl0 : l.stackTraces = false) {σ : St} {th : Int32} (hm : Mdl G c σ th) (hB : Bnd σ) (hM : okM σ) (x y : Int32) : MC G l yX4_type (.code yX4_type cX4_type 3 (some .int) :: gws) (rmF 2 0 0 43) [.ref (G.1 33), .int x, .int y] c (pI (mQ G c (f_type σ x y))) (pF) := by
  refine MC.of (by decide) hl0 hG (Nat.le_of_ble_eq_true rfl) (fun X hX h hN hQ hr => ?_)
  subst hX
  refine r_aload_n h 0 rfl rfl dX4_type_0 ?_
  refine r_iload_n h 1 rfl rfl dX4_type_1 ?_
  refine r_cV h k_X4_63 (i := 33) (As := [.int x]) (rest := []) (c_X4_isNo h.i h.t hm x) (by omega) hm.o rfl rfl rfl (Nat.le_of_ble_eq_true rfl) ⟨by decide, by decide, by decide, by decide⟩ dX4_type_2 (fun _ z => z.elim) (fun v4 c1 p5 => ?_)
  obtain ⟨r, rfl, rfl, hm2, k3⟩ := p5
  refine rb_if_ne h 56 dX4_type_5 (by decide) (fun u6 => ?_) (fun u6 => ?_)
  · have hm7 : Mdl G c1 σ (nI 1) := by rw [if_pos u6] at hm2; exact hm2
    refine r_iconst h (v := nI 0) (by decide) dX4_type_56 ?_
    exact r_iret h hQ hr dX4_type_57 ⟨by decide, by decide⟩ ⟨_, rfl, mQ.of (show f_type σ x y = (1, 0, σ) by simp [f_type, opn, u6]) (fun z => absurd z (by decide)) (hm7) (hM) (fun y hy => (k3 y (by omega)))⟩
  · have hm7 : Mdl G c1 σ (nI 0) := by rw [if_neg u6] at hm2; exact hm2
    obtain ⟨j, hj, rfl⟩ := ixB_ix u6
    have hLj := hB.1 j hj
    have hl := hLj.1
    refine r_aload_n h 0 rfl rfl dX4_type_8 ?_
    refine r_iload_n h 2 rfl rfl dX4_type_9 ?_
    refine r_iconst h (v := nI 0) (by decide) dX4_type_10 ?_
    refine r_sipush h (v := nI 255) (by decide) dX4_type_11 ?_
    refine r_cS h k_X4_55 (As := [.int y, .int (nI 0), .int (nI 255)]) (rest := [.ref (G.1 33)]) (c_X4_lies h.i h.t y (nI (0)) (nI (255))) rfl rfl (Nat.le_of_ble_eq_true rfl) ⟨by decide, by decide, by decide, by decide⟩ dX4_type_14 (fun _ z => z.elim) (fun v8 c9 p10 => ?_)
    obtain ⟨r, rfl, rfl, rfl⟩ := p10
    rw [btB_by]
    refine rb_if_ne h 24 dX4_type_17 (by decide) (fun hb11 => ?_) (fun hb11 => ?_)
    · refine r_iconst h (v := nI 0) (by decide) dX4_type_24 ?_
      refine r_iconst h (v := nI 2) (by decide) dX4_type_25 ?_
      refine r_cV h k_X4_59 (i := 33) (As := [.int (nI 0), .int (nI 2)]) (rest := []) (c_X4_isThrown h.i h.t hm7 (nI 0) (nI 2) (nI 0) (by decide) (by decide)) (by omega) hm7.o rfl rfl rfl (Nat.le_of_ble_eq_true rfl) ⟨by decide, by decide, by decide, by decide⟩ dX4_type_26 (fun _ z => z.elim) (fun v21 c18 p22 => ?_)
      obtain ⟨r, rfl, rfl, hm19, k20⟩ := p22
      refine rn_if_ne h (a := 0) (by omega) 56 dX4_type_29 (by decide) (fun u23 => ?_) (fun u23 => ?_)
      · exact absurd u23 (by decide)
      · refine r_aload_n h 0 rfl rfl dX4_type_32 ?_
        refine r_aload_n h 0 rfl rfl dX4_type_33 ?_
        refine r_getf h F_X4_13 (i := 33) (by omega) hm19.o rfl dX4_type_34 ?_
        refine r_iload_n h 1 rfl rfl dX4_type_37 ?_
        obtain ⟨f24, e25, q26⟩ := hm19.a35
        refine r_iald h (i := 35) (by omega) e25 (x := j) (by omega) (by decide) dX4_type_38 ?_
        have z27 : f24 (j) = (nI ((σ.1 j).length)) := q26 j hj
        rw [z27]
        refine r_bipush h (v := nI 120) (by decide) dX4_type_39 ?_
        refine rn_icmp_ne h (a := (σ.1 j).length) (b := 120) (by omega) (by omega) 48 dX4_type_41 (by decide) (fun z28 => ?_) (fun z28 => ?_)
        · refine r_iconst h (v := nI 0) (by decide) dX4_type_48 ?_
          refine r_iconst h (v := nI 3) (by decide) dX4_type_49 ?_
          refine r_cV h k_X4_59 (i := 33) (As := [.int (nI 0), .int (nI 3)]) (rest := []) (c_X4_isThrown h.i h.t hm19 (nI 0) (nI 3) (nI 0) (by decide) (by decide)) (by omega) hm19.o rfl rfl rfl (Nat.le_of_ble_eq_true rfl) ⟨by decide, by decide, by decide, by decide⟩ dX4_type_50 (fun _ z => z.elim) (fun v38 c35 p39 => ?_)
          obtain ⟨r, rfl, rfl, hm36, k37⟩ := p39
          refine rn_if_eq h (a := 0) (by omega) 58 dX4_type_53 (by decide) (fun u40 => ?_) (fun u40 => ?_)
          · refine r_aload_n h 0 rfl rfl dX4_type_58 ?_
            refine r_iload_n h 1 rfl rfl dX4_type_59 ?_
            refine r_iload_n h 2 rfl rfl dX4_type_60 ?_
            have hm36 := hm36.inS j
            refine r_cV h k_X4_67 (i := 33) (As := [.int (nI j), .int y]) (rest := []) (c_X4_adds h.i h.t hj (σ := σ) (A := σ.1 j) hm36 (by omega) (y)) (by omega) hm36.o rfl rfl rfl (Nat.le_of_ble_eq_true rfl) ⟨by decide, by decide, by decide, by decide⟩ dX4_type_61 (fun _ z => z.elim) (fun v44 c41 p45 => ?_)
            obtain ⟨rfl, hm42, k43⟩ := p45
            refine r_aload_n h 0 rfl rfl dX4_type_64 ?_
            refine r_getf h F_X4_13 (i := 33) (by omega) hm42.o rfl dX4_type_65 ?_
            refine r_iload_n h 1 rfl rfl dX4_type_68 ?_
            obtain ⟨f46, e47, q48⟩ := hm42.a35
            refine r_iald h (i := 35) (by omega) e47 (x := j) (by omega) (by decide) dX4_type_69 ?_
            have z49 : f46 (j) = (nI ((σ.1 j).length + 1)) := (q48 j hj).trans (by rw [stS_at, List.length_append]; rfl)
            rw [z49]
            exact r_iret h hQ hr dX4_type_70 ⟨by decide, by decide⟩ ⟨_, rfl, mQ.of (show f_type σ (nI j) y = (0, nI ((σ.1 j).length + 1), stS σ j (σ.1 j ++ [y])) by simp [f_type, opn, ixB_yes hj, ixN_nI hj, hb11, show (σ.1 j).length < 120 by omega]) (fun _ => rfl) (hm42) (hM) (fun y hy => ((((k43 y (by omega) (by omega)).trans (k37 y (by omega))).trans (k20 y (by omega))).trans (k3 y (by omega))))⟩
          · exact absurd u40 (by decide)
        · refine r_iconst h (v := nI 1) (by decide) dX4_type_44 ?_
          refine r_goto h 49 dX4_type_45 (by decide) ?_
          refine r_iconst h (v := nI 3) (by decide) dX4_type_49 ?_
          refine r_cV h k_X4_59 (i := 33) (As := [.int (nI 1), .int (nI 3)]) (rest := []) (c_X4_isThrown h.i h.t hm19 (nI 1) (nI 3) (nI 3) (by decide) (by decide)) (by omega) hm19.o rfl rfl rfl (Nat.le_of_ble_eq_true rfl) ⟨by decide, by decide, by decide, by decide⟩ dX4_type_50 (fun _ z => z.elim) (fun v32 c29 p33 => ?_)
          obtain ⟨r, rfl, rfl, hm30, k31⟩ := p33
          refine rn_if_eq h (a := 1) (by omega) 58 dX4_type_53 (by decide) (fun u34 => ?_) (fun u34 => ?_)
          · exact absurd u34 (by decide)
          · refine r_iconst h (v := nI 0) (by decide) dX4_type_56 ?_
            exact r_iret h hQ hr dX4_type_57 ⟨by decide, by decide⟩ ⟨_, rfl, mQ.of (show f_type σ (nI j) y = (3, 0, σ) by simp [f_type, opn, ixB_yes hj, ixN_nI hj, hb11, show ¬ (σ.1 j).length < 120 by omega]) (fun z => absurd z (by decide)) (hm30) (hM) (fun y hy => (((k31 y (by omega)).trans (k20 y (by omega))).trans (k3 y (by omega))))⟩
    · refine r_iconst h (v := nI 1) (by decide) dX4_type_20 ?_
      refine r_goto h 25 dX4_type_21 (by decide) ?_
      refine r_iconst h (v := nI 2) (by decide) dX4_type_25 ?_
      refine r_cV h k_X4_59 (i := 33) (As := [.int (nI 1), .int (nI 2)]) (rest := []) (c_X4_isThrown h.i h.t hm7 (nI 1) (nI 2) (nI 2) (by decide) (by decide)) (by omega) hm7.o rfl rfl rfl (Nat.le_of_ble_eq_true rfl) ⟨by decide, by decide, by decide, by decide⟩ dX4_type_26 (fun _ z => z.elim) (fun v15 c12 p16 => ?_)
      obtain ⟨r, rfl, rfl, hm13, k14⟩ := p16
      refine rn_if_ne h (a := 1) (by omega) 56 dX4_type_29 (by decide) (fun u17 => ?_) (fun u17 => ?_)
      · refine r_iconst h (v := nI 0) (by decide) dX4_type_56 ?_
        exact r_iret h hQ hr dX4_type_57 ⟨by decide, by decide⟩ ⟨_, rfl, mQ.of (show f_type σ (nI j) y = (2, 0, σ) by simp [f_type, opn, ixB_yes hj, ixN_nI hj, hb11]) (fun z => absurd z (by decide)) (hm13) (hM) (fun y hy => ((k14 y (by omega)).trans (k3 y (by omega))))⟩
      · exact absurd u17 (by decide)
set_option maxRecDepth 100000 in
set_option maxHeartbeats 4000000 in
/-- X4_typeMany -/
theorem c_X4_typeMany {G : GG} {l : Launch} {c : CC} (hG : InjG G) (hl0 : l.stackTraces = false) {σ : St} {th : Int32} (hm : Mdl G c σ th) (hB : Bnd σ) (hM : okM σ) (x y z : Int32) : MC G l yX4_typeMany (.code yX4_typeMany cX4_typeMany 5 (some .int) :: gws) (rmF 2 0 0 43) [.ref (G.1 33), .int x, .int y, .int z] c (pI (mQ G c (f_typeMany σ x y z))) (pF) := by
  refine MC.of (by decide) hl0 hG (Nat.le_of_ble_eq_true rfl) (fun X hX h hN hQ hr => ?_)
  subst hX
  refine r_aload_n h 0 rfl rfl dX4_typeMany_0 ?_
  refine r_iload_n h 1 rfl rfl dX4_typeMany_1 ?_
  refine r_cV h k_X4_63 (i := 33) (As := [.int x]) (rest := []) (c_X4_isNo h.i h.t hm x) (by omega) hm.o rfl rfl rfl (Nat.le_of_ble_eq_true rfl) ⟨by decide, by decide, by decide, by decide⟩ dX4_typeMany_2 (fun _ z => z.elim) (fun v4 c1 p5 => ?_)
  obtain ⟨r, rfl, rfl, hm2, k3⟩ := p5
  refine rb_if_ne h 68 dX4_typeMany_5 (by decide) (fun u6 => ?_) (fun u6 => ?_)
  · have hm7 : Mdl G c1 σ (nI 1) := by rw [if_pos u6] at hm2; exact hm2
    refine r_iconst h (v := nI 0) (by decide) dX4_typeMany_68 ?_
    exact r_iret h hQ hr dX4_typeMany_69 ⟨by decide, by decide⟩ ⟨_, rfl, mQ.of (show f_typeMany σ x y z = (1, 0, σ) by simp [f_typeMany, opn, u6]) (fun z => absurd z (by decide)) (hm7) (hM) (fun y hy => (k3 y (by omega)))⟩
  · have hm7 : Mdl G c1 σ (nI 0) := by rw [if_neg u6] at hm2; exact hm2
    obtain ⟨j, hj, rfl⟩ := ixB_ix u6
    have hLj := hB.1 j hj
    have hl := hLj.1
    refine r_aload_n h 0 rfl rfl dX4_typeMany_8 ?_
    refine r_iload_n h 2 rfl rfl dX4_typeMany_9 ?_
    refine r_iconst h (v := nI 0) (by decide) dX4_typeMany_10 ?_
    refine r_sipush h (v := nI 255) (by decide) dX4_typeMany_11 ?_
    refine r_cS h k_X4_55 (As := [.int y, .int (nI 0), .int (nI 255)]) (rest := [.ref (G.1 33)]) (c_X4_lies h.i h.t y (nI (0)) (nI (255))) rfl rfl (Nat.le_of_ble_eq_true rfl) ⟨by decide, by decide, by decide, by decide⟩ dX4_typeMany_14 (fun _ z => z.elim) (fun v8 c9 p10 => ?_)
    obtain ⟨r, rfl, rfl, rfl⟩ := p10
    rw [btB_by]
    refine rb_if_eq h 30 dX4_typeMany_17 (by decide) (fun b11 => ?_) (fun b11 => ?_)
    · refine r_iconst h (v := nI 1) (by decide) dX4_typeMany_30 ?_
      refine r_goto h 35 dX4_typeMany_31 (by decide) ?_
      refine r_iconst h (v := nI 2) (by decide) dX4_typeMany_35 ?_
      refine r_cV h k_X4_59 (i := 33) (As := [.int (nI 1), .int (nI 2)]) (rest := []) (c_X4_isThrown h.i h.t hm7 (nI 1) (nI 2) (nI 2) (by decide) (by decide)) (by omega) hm7.o rfl rfl rfl (Nat.le_of_ble_eq_true rfl) ⟨by decide, by decide, by decide, by decide⟩ dX4_typeMany_36 (fun _ z => z.elim) (fun v15 c12 p16 => ?_)
      obtain ⟨r, rfl, rfl, hm13, k14⟩ := p16
      refine rn_if_ne h (a := 1) (by omega) 68 dX4_typeMany_39 (by decide) (fun u17 => ?_) (fun u17 => ?_)
      · refine r_iconst h (v := nI 0) (by decide) dX4_typeMany_68 ?_
        exact r_iret h hQ hr dX4_typeMany_69 ⟨by decide, by decide⟩ ⟨_, rfl, mQ.of (show f_typeMany σ (nI j) y z = (2, 0, σ) by simp [f_typeMany, opn, ixB_yes hj, ixN_nI hj, b11]) (fun z => absurd z (by decide)) (hm13) (hM) (fun y hy => ((k14 y (by omega)).trans (k3 y (by omega))))⟩
      · exact absurd u17 (by decide)
    · refine r_iload_n h 3 rfl rfl dX4_typeMany_20 ?_
      refine r_iconst h (v := nI 0) (by decide) dX4_typeMany_21 ?_
      refine r_bipush h (v := nI 60) (by decide) dX4_typeMany_22 ?_
      refine r_cS h k_X4_55 (As := [.int z, .int (nI 0), .int (nI 60)]) (rest := [.ref (G.1 33)]) (c_X4_lies h.i h.t z (nI (0)) (nI (60))) rfl rfl (Nat.le_of_ble_eq_true rfl) ⟨by decide, by decide, by decide, by decide⟩ dX4_typeMany_24 (fun _ z => z.elim) (fun v18 c19 p20 => ?_)
      obtain ⟨r, rfl, rfl, rfl⟩ := p20
      refine rb_if_ne h 34 dX4_typeMany_27 (by decide) (fun hb21 => ?_) (fun hb21 => ?_)
      · refine r_iconst h (v := nI 0) (by decide) dX4_typeMany_34 ?_
        refine r_iconst h (v := nI 2) (by decide) dX4_typeMany_35 ?_
        refine r_cV h k_X4_59 (i := 33) (As := [.int (nI 0), .int (nI 2)]) (rest := []) (c_X4_isThrown h.i h.t hm7 (nI 0) (nI 2) (nI 0) (by decide) (by decide)) (by omega) hm7.o rfl rfl rfl (Nat.le_of_ble_eq_true rfl) ⟨by decide, by decide, by decide, by decide⟩ dX4_typeMany_36 (fun _ z => z.elim) (fun v31 c28 p32 => ?_)
        obtain ⟨r, rfl, rfl, hm29, k30⟩ := p32
        refine rn_if_ne h (a := 0) (by omega) 68 dX4_typeMany_39 (by decide) (fun u33 => ?_) (fun u33 => ?_)
        · exact absurd u33 (by decide)
        · obtain ⟨m, mlo, mhi, rfl⟩ := btB_nat hb21 (by decide) (by decide)
          refine r_aload_n h 0 rfl rfl dX4_typeMany_42 ?_
          refine r_aload_n h 0 rfl rfl dX4_typeMany_43 ?_
          refine r_getf h F_X4_13 (i := 33) (by omega) hm29.o rfl dX4_typeMany_44 ?_
          refine r_iload_n h 1 rfl rfl dX4_typeMany_47 ?_
          obtain ⟨f34, e35, q36⟩ := hm29.a35
          refine r_iald h (i := 35) (by omega) e35 (x := j) (by omega) (by decide) dX4_typeMany_48 ?_
          have z37 : f34 (j) = (nI ((σ.1 j).length)) := q36 j hj
          rw [z37]
          refine r_iload_n h 3 rfl rfl dX4_typeMany_49 ?_
          refine r_iadd h (nI_add ((σ.1 j).length) (m)) dX4_typeMany_50 ?_
          refine r_bipush h (v := nI 120) (by decide) dX4_typeMany_51 ?_
          refine rn_icmp_le h (a := (σ.1 j).length + m) (b := 120) (by omega) (by omega) 60 dX4_typeMany_53 (by decide) (fun r38 => ?_) (fun r38 => ?_)
          · refine r_iconst h (v := nI 0) (by decide) dX4_typeMany_60 ?_
            refine r_iconst h (v := nI 3) (by decide) dX4_typeMany_61 ?_
            refine r_cV h k_X4_59 (i := 33) (As := [.int (nI 0), .int (nI 3)]) (rest := []) (c_X4_isThrown h.i h.t hm29 (nI 0) (nI 3) (nI 0) (by decide) (by decide)) (by omega) hm29.o rfl rfl rfl (Nat.le_of_ble_eq_true rfl) ⟨by decide, by decide, by decide, by decide⟩ dX4_typeMany_62 (fun _ z => z.elim) (fun v48 c45 p49 => ?_)
            obtain ⟨r, rfl, rfl, hm46, k47⟩ := p49
            refine rn_if_eq h (a := 0) (by omega) 70 dX4_typeMany_65 (by decide) (fun u50 => ?_) (fun u50 => ?_)
            · refine r_iconst h (v := nI 0) (by decide) dX4_typeMany_70 ?_
              refine r_istore h ([(4, .int (nI 0)), (0, .ref (G.1 33)), (1, .int (nI j)), (2, .int y), (3, .int (nI m))]) dX4_typeMany_71 (by decide) rfl ?_
              have loop : ∀ (n k : Nat) (c1 : CC), m + 1 ≤ k + n → k ≤ m → Mdl G c1 (stS σ j (σ.1 j ++ List.replicate k y)) (nI 0) → (∀ y : Nat, y < 33 ∨ 47 ≤ y → c1 y = c y) → V G X c1 [(0, .ref (G.1 33)), (1, .int (nI j)), (2, .int y), (3, .int (nI m)), (4, .int (nI k))] (0) (0) 73 [] := by
                intro n
                induction n with
                | zero => intro k c1 a1 a2; exact absurd a1 (by omega)
                | succ n ih =>
                  intro k c1 a1 a2 m1 k1
                  refine r_iload h 4 rfl dX4_typeMany_73 ?_
                  refine r_iload_n h 3 rfl rfl dX4_typeMany_75 ?_
                  refine rn_icmp_ge h (a := k) (b := m) (by omega) (by omega) 91 dX4_typeMany_76 (by decide) (fun z51 => ?_) (fun z51 => ?_)
                  · have hkm : k = m := by omega
                    subst hkm
                    refine r_aload_n h 0 rfl rfl dX4_typeMany_91 ?_
                    refine r_getf h F_X4_13 (i := 33) (by omega) m1.o rfl dX4_typeMany_92 ?_
                    refine r_iload_n h 1 rfl rfl dX4_typeMany_95 ?_
                    obtain ⟨f52, e53, q54⟩ := m1.a35
                    refine r_iald h (i := 35) (by omega) e53 (x := j) (by omega) (by decide) dX4_typeMany_96 ?_
                    have z55 : f52 (j) = (nI ((σ.1 j).length + k)) := (q54 j hj).trans (by rw [stS_at, List.length_append, List.length_replicate])
                    rw [z55]
                    exact r_iret h hQ hr dX4_typeMany_97 ⟨by decide, by decide⟩ ⟨_, rfl, mQ.of (show f_typeMany σ (nI j) y (nI k) = (0, nI ((σ.1 j).length + k), stS σ j (σ.1 j ++ List.replicate k y)) by simp [f_typeMany, opn, ixB_yes hj, ixN_nI hj, b11, hb21, ixN_n (show k < 2147483648 by omega), show (σ.1 j).length + k ≤ 120 by omega]) (fun _ => rfl) (m1) (hM) (fun y hy => (k1 y (by omega)))⟩
                  · refine r_aload_n h 0 rfl rfl dX4_typeMany_79 ?_
                    refine r_iload_n h 1 rfl rfl dX4_typeMany_80 ?_
                    refine r_iload_n h 2 rfl rfl dX4_typeMany_81 ?_
                    refine r_cV h k_X4_67 (i := 33) (As := [.int (nI j), .int y]) (rest := []) (c_X4_adds h.i h.t hj (σ := σ) (A := σ.1 j ++ List.replicate k y) m1 (by rw [List.length_append, List.length_replicate]; omega) (y)) (by omega) m1.o rfl rfl rfl (Nat.le_of_ble_eq_true rfl) ⟨by decide, by decide, by decide, by decide⟩ dX4_typeMany_82 (fun _ z => z.elim) (fun v59 c56 p60 => ?_)
                    obtain ⟨rfl, hm57, k58⟩ := p60
                    refine r_iinc h 4 ([(4, .int (nI (k + 1))), (0, .ref (G.1 33)), (1, .int (nI j)), (2, .int y), (3, .int (nI m))]) rfl (inc_1 (k)) dX4_typeMany_85 (by decide) rfl ?_
                    refine r_goto h 73 dX4_typeMany_88 (by decide) ?_
                    refine V_lv [1, 2, 3, 4, 0] rfl ?_
                    exact ih (k + 1) _ (by omega) (by omega) (by rw [← replicate_snoc, ← List.append_assoc]; exact hm57) (fun y hy => ((k58 y (by omega) (by omega)).trans (k1 y (by omega))))
              refine V_lv [1, 2, 3, 4, 0] rfl ?_
              exact loop (m + 1) 0 c45 (by omega) (by omega) (by rw [show List.replicate 0 y = [] from rfl, List.append_nil]; exact hm46.inS j) (fun y hy => (((k47 y (by omega)).trans (k30 y (by omega))).trans (k3 y (by omega))))
            · exact absurd u50 (by decide)
          · refine r_iconst h (v := nI 1) (by decide) dX4_typeMany_56 ?_
            refine r_goto h 61 dX4_typeMany_57 (by decide) ?_
            refine r_iconst h (v := nI 3) (by decide) dX4_typeMany_61 ?_
            refine r_cV h k_X4_59 (i := 33) (As := [.int (nI 1), .int (nI 3)]) (rest := []) (c_X4_isThrown h.i h.t hm29 (nI 1) (nI 3) (nI 3) (by decide) (by decide)) (by omega) hm29.o rfl rfl rfl (Nat.le_of_ble_eq_true rfl) ⟨by decide, by decide, by decide, by decide⟩ dX4_typeMany_62 (fun _ z => z.elim) (fun v42 c39 p43 => ?_)
            obtain ⟨r, rfl, rfl, hm40, k41⟩ := p43
            refine rn_if_eq h (a := 1) (by omega) 70 dX4_typeMany_65 (by decide) (fun u44 => ?_) (fun u44 => ?_)
            · exact absurd u44 (by decide)
            · refine r_iconst h (v := nI 0) (by decide) dX4_typeMany_68 ?_
              exact r_iret h hQ hr dX4_typeMany_69 ⟨by decide, by decide⟩ ⟨_, rfl, mQ.of (show f_typeMany σ (nI j) y (nI m) = (3, 0, σ) by simp [f_typeMany, opn, ixB_yes hj, ixN_nI hj, b11, hb21, ixN_n (show m < 2147483648 by omega), show ¬ (σ.1 j).length + m ≤ 120 by omega]) (fun z => absurd z (by decide)) (hm40) (hM) (fun y hy => (((k41 y (by omega)).trans (k30 y (by omega))).trans (k3 y (by omega))))⟩
      · refine r_iconst h (v := nI 1) (by decide) dX4_typeMany_30 ?_
        refine r_goto h 35 dX4_typeMany_31 (by decide) ?_
        refine r_iconst h (v := nI 2) (by decide) dX4_typeMany_35 ?_
        refine r_cV h k_X4_59 (i := 33) (As := [.int (nI 1), .int (nI 2)]) (rest := []) (c_X4_isThrown h.i h.t hm7 (nI 1) (nI 2) (nI 2) (by decide) (by decide)) (by omega) hm7.o rfl rfl rfl (Nat.le_of_ble_eq_true rfl) ⟨by decide, by decide, by decide, by decide⟩ dX4_typeMany_36 (fun _ z => z.elim) (fun v25 c22 p26 => ?_)
        obtain ⟨r, rfl, rfl, hm23, k24⟩ := p26
        refine rn_if_ne h (a := 1) (by omega) 68 dX4_typeMany_39 (by decide) (fun u27 => ?_) (fun u27 => ?_)
        · refine r_iconst h (v := nI 0) (by decide) dX4_typeMany_68 ?_
          exact r_iret h hQ hr dX4_typeMany_69 ⟨by decide, by decide⟩ ⟨_, rfl, mQ.of (show f_typeMany σ (nI j) y z = (2, 0, σ) by simp [f_typeMany, opn, ixB_yes hj, ixN_nI hj, b11, hb21]) (fun z => absurd z (by decide)) (hm23) (hM) (fun y hy => ((k24 y (by omega)).trans (k3 y (by omega))))⟩
        · exact absurd u27 (by decide)
set_option maxRecDepth 100000 in
set_option maxHeartbeats 4000000 in
/-- X4_cut -/
theorem c_X4_cut {G : GG} {l : Launch} {c : CC} (hG : InjG G) (hl0 : l.stackTraces = false) {σ : St} {th : Int32} (hm : Mdl G c σ th) (hB : Bnd σ) (hM : okM σ) (x : Int32) : MC G l yX4_cut (.code yX4_cut cX4_cut 2 (some .int) :: gws) (rmF 2 0 0 43) [.ref (G.1 33), .int x] c (pI (mQ G c (f_cut σ x))) (pF) := by
  refine MC.of (by decide) hl0 hG (Nat.le_of_ble_eq_true rfl) (fun X hX h hN hQ hr => ?_)
  subst hX
  refine r_aload_n h 0 rfl rfl dX4_cut_0 ?_
  refine r_iload_n h 1 rfl rfl dX4_cut_1 ?_
  refine r_cV h k_X4_63 (i := 33) (As := [.int x]) (rest := []) (c_X4_isNo h.i h.t hm x) (by omega) hm.o rfl rfl rfl (Nat.le_of_ble_eq_true rfl) ⟨by decide, by decide, by decide, by decide⟩ dX4_cut_2 (fun _ z => z.elim) (fun v4 c1 p5 => ?_)
  obtain ⟨r, rfl, rfl, hm2, k3⟩ := p5
  refine rb_if_ne h 30 dX4_cut_5 (by decide) (fun u6 => ?_) (fun u6 => ?_)
  · have hm7 : Mdl G c1 σ (nI 1) := by rw [if_pos u6] at hm2; exact hm2
    refine r_iconst h (v := nI 0) (by decide) dX4_cut_30 ?_
    exact r_iret h hQ hr dX4_cut_31 ⟨by decide, by decide⟩ ⟨_, rfl, mQ.of (show f_cut σ x = (1, 0, σ) by simp [f_cut, opn, u6]) (fun z => absurd z (by decide)) (hm7) (hM) (fun y hy => (k3 y (by omega)))⟩
  · have hm7 : Mdl G c1 σ (nI 0) := by rw [if_neg u6] at hm2; exact hm2
    obtain ⟨j, hj, rfl⟩ := ixB_ix u6
    have hLj := hB.1 j hj
    have hl := hLj.1
    refine r_aload_n h 0 rfl rfl dX4_cut_8 ?_
    refine r_aload_n h 0 rfl rfl dX4_cut_9 ?_
    refine r_getf h F_X4_13 (i := 33) (by omega) hm7.o rfl dX4_cut_10 ?_
    refine r_iload_n h 1 rfl rfl dX4_cut_13 ?_
    obtain ⟨f8, e9, q10⟩ := hm7.a35
    refine r_iald h (i := 35) (by omega) e9 (x := j) (by omega) (by decide) dX4_cut_14 ?_
    have z11 : f8 (j) = (nI ((σ.1 j).length)) := q10 j hj
    rw [z11]
    refine rn_if_ne h (a := (σ.1 j).length) (by omega) 22 dX4_cut_15 (by decide) (fun z12 => ?_) (fun z12 => ?_)
    · have hpos : 0 < (σ.1 j).length := by omega
      refine r_iconst h (v := nI 0) (by decide) dX4_cut_22 ?_
      refine r_iconst h (v := nI 2) (by decide) dX4_cut_23 ?_
      refine r_cV h k_X4_59 (i := 33) (As := [.int (nI 0), .int (nI 2)]) (rest := []) (c_X4_isThrown h.i h.t hm7 (nI 0) (nI 2) (nI 0) (by decide) (by decide)) (by omega) hm7.o rfl rfl rfl (Nat.le_of_ble_eq_true rfl) ⟨by decide, by decide, by decide, by decide⟩ dX4_cut_24 (fun _ z => z.elim) (fun v22 c19 p23 => ?_)
      obtain ⟨r, rfl, rfl, hm20, k21⟩ := p23
      refine rn_if_eq h (a := 0) (by omega) 32 dX4_cut_27 (by decide) (fun u24 => ?_) (fun u24 => ?_)
      · refine r_aload_n h 0 rfl rfl dX4_cut_32 ?_
        refine r_getf h F_X4_13 (i := 33) (by omega) hm20.o rfl dX4_cut_33 ?_
        refine r_iload_n h 1 rfl rfl dX4_cut_36 ?_
        refine r_dup2 h rfl rfl dX4_cut_37 ?_
        obtain ⟨f34, e34, q34⟩ := hm20.a34
        obtain ⟨f25, e26, q27⟩ := hm20.a35
        refine r_iald h (i := 35) (by omega) e26 (x := j) (by omega) (by decide) dX4_cut_38 ?_
        have z28 : f25 (j) = (nI ((σ.1 j).length)) := q27 j hj
        rw [z28]
        refine r_iconst h (v := nI 1) (by decide) dX4_cut_39 ?_
        refine r_isub h (pk_sub (a := (σ.1 j).length) (b := 1) (by omega)) dX4_cut_40 ?_
        obtain ⟨f29, e30, q31⟩ := hm20.a35
        refine r_iast h (i := 35) (by omega) e30 (x := j) (by omega) (by decide) dX4_cut_41 (fun c32 h33 k34 => ?_)
        have hm5 := hm20.cutS hj (n := (σ.1 j).length - 1) (by omega) q31 h33 k34
        have e34' := (k34 34 (by omega)).trans e34
        refine r_aload_n h 0 rfl rfl dX4_cut_42 ?_
        refine r_iload_n h 1 rfl rfl dX4_cut_43 ?_
        refine r_aload_n h 0 rfl rfl dX4_cut_44 ?_
        refine r_getf h F_X4_13 (i := 33) (by omega) hm5.o rfl dX4_cut_45 ?_
        refine r_iload_n h 1 rfl rfl dX4_cut_48 ?_
        obtain ⟨f35, e36, q37⟩ := hm5.a35
        refine r_iald h (i := 35) (by omega) e36 (x := j) (by omega) (by decide) dX4_cut_49 ?_
        have z38 : f35 (j) = (nI ((σ.1 j).length - 1)) := (q37 j hj).trans (by rw [stS_at, List.length_take, Nat.min_eq_left (by omega)])
        rw [z38]
        refine r_cV h k_X4_71 (i := 33) (As := [.int (nI j), .int (nI ((σ.1 j).length - 1))]) (rest := []) (c_X4_atR h.i h.t hm5 e34' (k := (σ.1 j).length - 1) hj (by omega)) (by omega) hm5.o rfl rfl rfl (Nat.le_of_ble_eq_true rfl) ⟨by decide, by decide, by decide, by decide⟩ dX4_cut_50 (fun _ z => z.elim) (fun v39 c40 p41 => ?_)
        obtain ⟨r, rfl, rfl, rfl⟩ := p41
        exact r_iret h hQ hr dX4_cut_53 ⟨by decide, by decide⟩ ⟨_, rfl, mQ.of (show f_cut σ (nI j) = (0, (σ.1 j).getD ((σ.1 j).length - 1) 0, stS σ j (σ.1 j).dropLast) by simp [f_cut, opn, ixB_yes hj, ixN_nI hj, hpos]) (fun _ => (q34 j hj _ (by omega)).symm) (hm5.eq (by rw [List.dropLast_eq_take])) (hM) (fun y hy => (((k34 y (by omega)).trans (k21 y (by omega))).trans (k3 y (by omega))))⟩
      · exact absurd u24 (by decide)
    · refine r_iconst h (v := nI 1) (by decide) dX4_cut_18 ?_
      refine r_goto h 23 dX4_cut_19 (by decide) ?_
      refine r_iconst h (v := nI 2) (by decide) dX4_cut_23 ?_
      refine r_cV h k_X4_59 (i := 33) (As := [.int (nI 1), .int (nI 2)]) (rest := []) (c_X4_isThrown h.i h.t hm7 (nI 1) (nI 2) (nI 2) (by decide) (by decide)) (by omega) hm7.o rfl rfl rfl (Nat.le_of_ble_eq_true rfl) ⟨by decide, by decide, by decide, by decide⟩ dX4_cut_24 (fun _ z => z.elim) (fun v16 c13 p17 => ?_)
      obtain ⟨r, rfl, rfl, hm14, k15⟩ := p17
      refine rn_if_eq h (a := 1) (by omega) 32 dX4_cut_27 (by decide) (fun u18 => ?_) (fun u18 => ?_)
      · exact absurd u18 (by decide)
      · refine r_iconst h (v := nI 0) (by decide) dX4_cut_30 ?_
        exact r_iret h hQ hr dX4_cut_31 ⟨by decide, by decide⟩ ⟨_, rfl, mQ.of (show f_cut σ (nI j) = (2, 0, σ) by simp [f_cut, opn, ixB_yes hj, ixN_nI hj, z12]) (fun z => absurd z (by decide)) (hm14) (hM) (fun y hy => ((k15 y (by omega)).trans (k3 y (by omega))))⟩
set_option maxRecDepth 100000 in
set_option maxHeartbeats 4000000 in
/-- X4_clear -/
theorem c_X4_clear {G : GG} {l : Launch} {c : CC} (hG : InjG G) (hl0 : l.stackTraces = false) {σ : St} {th : Int32} (hm : Mdl G c σ th) (hB : Bnd σ) (hM : okM σ) (x : Int32) : MC G l yX4_clear (.code yX4_clear cX4_clear 3 (some .int) :: gws) (rmF 2 0 0 43) [.ref (G.1 33), .int x] c (pI (mQ G c (f_clear σ x))) (pF) := by
  refine MC.of (by decide) hl0 hG (Nat.le_of_ble_eq_true rfl) (fun X hX h hN hQ hr => ?_)
  subst hX
  refine r_aload_n h 0 rfl rfl dX4_clear_0 ?_
  refine r_iload_n h 1 rfl rfl dX4_clear_1 ?_
  refine r_cV h k_X4_63 (i := 33) (As := [.int x]) (rest := []) (c_X4_isNo h.i h.t hm x) (by omega) hm.o rfl rfl rfl (Nat.le_of_ble_eq_true rfl) ⟨by decide, by decide, by decide, by decide⟩ dX4_clear_2 (fun _ z => z.elim) (fun v4 c1 p5 => ?_)
  obtain ⟨r, rfl, rfl, hm2, k3⟩ := p5
  refine rb_if_eq h 10 dX4_clear_5 (by decide) (fun u6 => ?_) (fun u6 => ?_)
  · have hm7 : Mdl G c1 σ (nI 0) := by rw [if_neg u6] at hm2; exact hm2
    obtain ⟨j, hj, rfl⟩ := ixB_ix u6
    refine r_aload_n h 0 rfl rfl dX4_clear_10 ?_
    refine r_getf h F_X4_13 (i := 33) (by omega) hm7.o rfl dX4_clear_11 ?_
    refine r_iload_n h 1 rfl rfl dX4_clear_14 ?_
    obtain ⟨f8, e9, q10⟩ := hm7.a35
    refine r_iald h (i := 35) (by omega) e9 (x := j) (by omega) (by decide) dX4_clear_15 ?_
    have z11 : f8 (j) = (nI ((σ.1 j).length)) := q10 j hj
    rw [z11]
    refine r_istore_n h ([(2, .int (nI ((σ.1 j).length))), (0, .ref (G.1 33)), (1, .int (nI j))]) rfl dX4_clear_16 (by decide) rfl ?_
    refine r_aload_n h 1 rfl rfl dX4_clear_17 ?_
    refine r_getf h F_X4_13 (i := 33) (by omega) hm7.o rfl dX4_clear_18 ?_
    refine r_iload_n h 2 rfl rfl dX4_clear_21 ?_
    refine r_iconst h (v := nI 0) (by decide) dX4_clear_22 ?_
    obtain ⟨f12, e13, q14⟩ := hm7.a35
    refine r_iast h (i := 35) (by omega) e13 (x := j) (by omega) (by decide) dX4_clear_23 (fun c15 h16 k17 => ?_)
    have hm5 := hm7.cutS hj (n := 0) (Nat.zero_le _) q14 h16 k17
    refine r_iload_n h 0 rfl rfl dX4_clear_24 ?_
    exact r_iret h hQ hr dX4_clear_25 ⟨by decide, by decide⟩ ⟨_, rfl, mQ.of (show f_clear σ (nI j) = (0, nI (σ.1 j).length, stS σ j []) by simp [f_clear, opn, ixB_yes hj, ixN_nI hj]) (fun _ => rfl) (hm5) (hM) (fun y hy => ((k17 y (by omega)).trans (k3 y (by omega))))⟩
  · have hm7 : Mdl G c1 σ (nI 1) := by rw [if_pos u6] at hm2; exact hm2
    refine r_iconst h (v := nI 0) (by decide) dX4_clear_8 ?_
    exact r_iret h hQ hr dX4_clear_9 ⟨by decide, by decide⟩ ⟨_, rfl, mQ.of (show f_clear σ x = (1, 0, σ) by simp [f_clear, opn, u6]) (fun z => absurd z (by decide)) (hm7) (hM) (fun y hy => (k3 y (by omega)))⟩
set_option maxRecDepth 100000 in
set_option maxHeartbeats 4000000 in
/-- X4_length -/
theorem c_X4_length {G : GG} {l : Launch} {c : CC} (hG : InjG G) (hl0 : l.stackTraces = false) {σ : St} {th : Int32} (hm : Mdl G c σ th) (hB : Bnd σ) (hM : okM σ) (x : Int32) : MC G l yX4_length (.code yX4_length cX4_length 2 (some .int) :: gws) (rmF 2 0 0 43) [.ref (G.1 33), .int x] c (pI (mQ G c (f_length σ x))) (pF) := by
  refine MC.of (by decide) hl0 hG (Nat.le_of_ble_eq_true rfl) (fun X hX h hN hQ hr => ?_)
  subst hX
  refine r_aload_n h 0 rfl rfl dX4_length_0 ?_
  refine r_iload_n h 1 rfl rfl dX4_length_1 ?_
  refine r_cV h k_X4_63 (i := 33) (As := [.int x]) (rest := []) (c_X4_isNo h.i h.t hm x) (by omega) hm.o rfl rfl rfl (Nat.le_of_ble_eq_true rfl) ⟨by decide, by decide, by decide, by decide⟩ dX4_length_2 (fun _ z => z.elim) (fun v4 c1 p5 => ?_)
  obtain ⟨r, rfl, rfl, hm2, k3⟩ := p5
  refine rb_if_eq h 12 dX4_length_5 (by decide) (fun u6 => ?_) (fun u6 => ?_)
  · have hm7 : Mdl G c1 σ (nI 0) := by rw [if_neg u6] at hm2; exact hm2
    obtain ⟨j, hj, rfl⟩ := ixB_ix u6
    refine r_aload_n h 0 rfl rfl dX4_length_12 ?_
    refine r_getf h F_X4_13 (i := 33) (by omega) hm7.o rfl dX4_length_13 ?_
    refine r_iload_n h 1 rfl rfl dX4_length_16 ?_
    obtain ⟨f8, e9, q10⟩ := hm7.a35
    refine r_iald h (i := 35) (by omega) e9 (x := j) (by omega) (by decide) dX4_length_17 ?_
    have z11 : f8 (j) = (nI ((σ.1 j).length)) := q10 j hj
    rw [z11]
    exact r_iret h hQ hr dX4_length_18 ⟨by decide, by decide⟩ ⟨_, rfl, mQ.of (show f_length σ (nI j) = (0, nI (σ.1 j).length, σ) by simp [f_length, opn, ixB_yes hj, ixN_nI hj]) (fun _ => rfl) (hm7) (hM) (fun y hy => (k3 y (by omega)))⟩
  · have hm7 : Mdl G c1 σ (nI 1) := by rw [if_pos u6] at hm2; exact hm2
    refine r_iconst h (v := nI 0) (by decide) dX4_length_8 ?_
    refine r_goto h 18 dX4_length_9 (by decide) ?_
    exact r_iret h hQ hr dX4_length_18 ⟨by decide, by decide⟩ ⟨_, rfl, mQ.of (show f_length σ x = (1, 0, σ) by simp [f_length, opn, u6]) (fun z => absurd z (by decide)) (hm7) (hM) (fun y hy => (k3 y (by omega)))⟩
set_option maxRecDepth 100000 in
set_option maxHeartbeats 4000000 in
/-- X4_byteAt -/
theorem c_X4_byteAt {G : GG} {l : Launch} {c : CC} (hG : InjG G) (hl0 : l.stackTraces = false) {σ : St} {th : Int32} (hm : Mdl G c σ th) (hB : Bnd σ) (hM : okM σ) (x y : Int32) : MC G l yX4_byteAt (.code yX4_byteAt cX4_byteAt 3 (some .int) :: gws) (rmF 2 0 0 43) [.ref (G.1 33), .int x, .int y] c (pI (mQ G c (f_byteAt σ x y))) (pF) := by
  refine MC.of (by decide) hl0 hG (Nat.le_of_ble_eq_true rfl) (fun X hX h hN hQ hr => ?_)
  subst hX
  refine r_aload_n h 0 rfl rfl dX4_byteAt_0 ?_
  refine r_iload_n h 1 rfl rfl dX4_byteAt_1 ?_
  refine r_cV h k_X4_63 (i := 33) (As := [.int x]) (rest := []) (c_X4_isNo h.i h.t hm x) (by omega) hm.o rfl rfl rfl (Nat.le_of_ble_eq_true rfl) ⟨by decide, by decide, by decide, by decide⟩ dX4_byteAt_2 (fun _ z => z.elim) (fun v4 c1 p5 => ?_)
  obtain ⟨r, rfl, rfl, hm2, k3⟩ := p5
  refine rb_if_ne h 37 dX4_byteAt_5 (by decide) (fun u6 => ?_) (fun u6 => ?_)
  · have hm7 : Mdl G c1 σ (nI 1) := by rw [if_pos u6] at hm2; exact hm2
    refine r_iconst h (v := nI 0) (by decide) dX4_byteAt_37 ?_
    refine r_goto h 47 dX4_byteAt_38 (by decide) ?_
    exact r_iret h hQ hr dX4_byteAt_47 ⟨by decide, by decide⟩ ⟨_, rfl, mQ.of (show f_byteAt σ x y = (1, 0, σ) by simp [f_byteAt, opn, u6]) (fun z => absurd z (by decide)) (hm7) (hM) (fun y hy => (k3 y (by omega)))⟩
  · have hm7 : Mdl G c1 σ (nI 0) := by rw [if_neg u6] at hm2; exact hm2
    obtain ⟨j, hj, rfl⟩ := ixB_ix u6
    have hLj := hB.1 j hj
    have hl := hLj.1
    refine r_aload_n h 0 rfl rfl dX4_byteAt_8 ?_
    refine r_iload_n h 2 rfl rfl dX4_byteAt_9 ?_
    refine r_iconst h (v := nI 0) (by decide) dX4_byteAt_10 ?_
    refine r_aload_n h 0 rfl rfl dX4_byteAt_11 ?_
    refine r_getf h F_X4_13 (i := 33) (by omega) hm7.o rfl dX4_byteAt_12 ?_
    refine r_iload_n h 1 rfl rfl dX4_byteAt_15 ?_
    obtain ⟨f8, e9, q10⟩ := hm7.a35
    refine r_iald h (i := 35) (by omega) e9 (x := j) (by omega) (by decide) dX4_byteAt_16 ?_
    have z11 : f8 (j) = (nI ((σ.1 j).length)) := q10 j hj
    rw [z11]
    refine r_iconst h (v := nI 1) (by decide) dX4_byteAt_17 ?_
    refine r_isub h rfl dX4_byteAt_18 ?_
    refine r_cS h k_X4_55 (As := [.int y, .int (nI 0), .int ((nI ((σ.1 j).length)) - (nI (1)))]) (rest := [.ref (G.1 33)]) (c_X4_lies h.i h.t y (nI (0)) ((nI ((σ.1 j).length)) - (nI (1)))) rfl rfl (Nat.le_of_ble_eq_true rfl) ⟨by decide, by decide, by decide, by decide⟩ dX4_byteAt_19 (fun _ z => z.elim) (fun v12 c13 p14 => ?_)
    obtain ⟨r, rfl, rfl, rfl⟩ := p14
    rw [btB_pl y (by omega)]
    refine rb_if_ne h 29 dX4_byteAt_22 (by decide) (fun hb15 => ?_) (fun hb15 => ?_)
    · refine r_iconst h (v := nI 0) (by decide) dX4_byteAt_29 ?_
      refine r_iconst h (v := nI 1) (by decide) dX4_byteAt_30 ?_
      refine r_cV h k_X4_59 (i := 33) (As := [.int (nI 0), .int (nI 1)]) (rest := []) (c_X4_isThrown h.i h.t hm7 (nI 0) (nI 1) (nI 0) (by decide) (by decide)) (by omega) hm7.o rfl rfl rfl (Nat.le_of_ble_eq_true rfl) ⟨by decide, by decide, by decide, by decide⟩ dX4_byteAt_31 (fun _ z => z.elim) (fun v25 c22 p26 => ?_)
      obtain ⟨r, rfl, rfl, hm23, k24⟩ := p26
      refine rn_if_eq h (a := 0) (by omega) 41 dX4_byteAt_34 (by decide) (fun u27 => ?_) (fun u27 => ?_)
      · obtain ⟨p, hp, rfl⟩ := plB_nat hb15 (by omega)
        refine r_aload_n h 0 rfl rfl dX4_byteAt_41 ?_
        refine r_iload_n h 1 rfl rfl dX4_byteAt_42 ?_
        refine r_iload_n h 2 rfl rfl dX4_byteAt_43 ?_
        refine r_cV h k_X4_71 (i := 33) (As := [.int (nI j), .int (nI p)]) (rest := []) (c_X4_at h.i h.t hm23 (k := p) hj rfl hp) (by omega) hm23.o rfl rfl rfl (Nat.le_of_ble_eq_true rfl) ⟨by decide, by decide, by decide, by decide⟩ dX4_byteAt_44 (fun _ z => z.elim) (fun v28 c29 p30 => ?_)
        obtain ⟨r, rfl, rfl, rfl⟩ := p30
        exact r_iret h hQ hr dX4_byteAt_47 ⟨by decide, by decide⟩ ⟨_, rfl, mQ.of (show f_byteAt σ (nI j) (nI p) = (0, (σ.1 j).getD p 0, σ) by simp [f_byteAt, opn, ixB_yes hj, ixN_nI hj, hb15, ixN_n (show p < 2147483648 by omega)]) (fun _ => rfl) (hm23) (hM) (fun y hy => ((k24 y (by omega)).trans (k3 y (by omega))))⟩
      · exact absurd u27 (by decide)
    · refine r_iconst h (v := nI 1) (by decide) dX4_byteAt_25 ?_
      refine r_goto h 30 dX4_byteAt_26 (by decide) ?_
      refine r_iconst h (v := nI 1) (by decide) dX4_byteAt_30 ?_
      refine r_cV h k_X4_59 (i := 33) (As := [.int (nI 1), .int (nI 1)]) (rest := []) (c_X4_isThrown h.i h.t hm7 (nI 1) (nI 1) (nI 1) (by decide) (by decide)) (by omega) hm7.o rfl rfl rfl (Nat.le_of_ble_eq_true rfl) ⟨by decide, by decide, by decide, by decide⟩ dX4_byteAt_31 (fun _ z => z.elim) (fun v19 c16 p20 => ?_)
      obtain ⟨r, rfl, rfl, hm17, k18⟩ := p20
      refine rn_if_eq h (a := 1) (by omega) 41 dX4_byteAt_34 (by decide) (fun u21 => ?_) (fun u21 => ?_)
      · exact absurd u21 (by decide)
      · refine r_iconst h (v := nI 0) (by decide) dX4_byteAt_37 ?_
        refine r_goto h 47 dX4_byteAt_38 (by decide) ?_
        exact r_iret h hQ hr dX4_byteAt_47 ⟨by decide, by decide⟩ ⟨_, rfl, mQ.of (show f_byteAt σ (nI j) y = (1, 0, σ) by simp [f_byteAt, opn, ixB_yes hj, ixN_nI hj, hb15]) (fun z => absurd z (by decide)) (hm17) (hM) (fun y hy => ((k18 y (by omega)).trans (k3 y (by omega))))⟩
set_option maxRecDepth 100000 in
set_option maxHeartbeats 4000000 in
/-- X4_ends -/
theorem c_X4_ends {G : GG} {l : Launch} {c : CC} (hG : InjG G) (hl0 : l.stackTraces = false) {σ : St} {th : Int32} (hm : Mdl G c σ th) (hB : Bnd σ) (hM : okM σ) (x : Int32) : MC G l yX4_ends (.code yX4_ends cX4_ends 2 (some .int) :: gws) (rmF 2 0 0 46) [.ref (G.1 33), .int x] c (pI (mQ G c (f_ends σ x))) (pF) := by
  refine MC.of (by decide) hl0 hG (Nat.le_of_ble_eq_true rfl) (fun X hX h hN hQ hr => ?_)
  subst hX
  refine r_aload_n h 0 rfl rfl dX4_ends_0 ?_
  refine r_iload_n h 1 rfl rfl dX4_ends_1 ?_
  refine r_cV h k_X4_63 (i := 33) (As := [.int x]) (rest := []) (c_X4_isNo h.i h.t hm x) (by omega) hm.o rfl rfl rfl (Nat.le_of_ble_eq_true rfl) ⟨by decide, by decide, by decide, by decide⟩ dX4_ends_2 (fun _ z => z.elim) (fun v4 c1 p5 => ?_)
  obtain ⟨r, rfl, rfl, hm2, k3⟩ := p5
  refine rb_if_eq h 12 dX4_ends_5 (by decide) (fun u6 => ?_) (fun u6 => ?_)
  · have hm7 : Mdl G c1 σ (nI 0) := by rw [if_neg u6] at hm2; exact hm2
    obtain ⟨j, hj, rfl⟩ := ixB_ix u6
    refine r_aload_n h 0 rfl rfl dX4_ends_12 ?_
    refine r_iload_n h 1 rfl rfl dX4_ends_13 ?_
    refine r_cV h k_X4_75 (i := 33) (As := [.int (nI j)]) (rest := []) (c_X4_endsOf h.i h.t hm7 hj) (by omega) hm7.o rfl rfl rfl (Nat.le_of_ble_eq_true rfl) ⟨by decide, by decide, by decide, by decide⟩ dX4_ends_14 (fun _ z => z.elim) (fun v8 c9 p10 => ?_)
    obtain ⟨r, rfl, rfl, rfl⟩ := p10
    exact r_iret h hQ hr dX4_ends_17 ⟨by decide, by decide⟩ ⟨_, rfl, mQ.of (show f_ends σ (nI j) = (0, nI (ecT (σ.1 j) (σ.1 j).length), σ) by simp [f_ends, opn, ixB_yes hj, ixN_nI hj]) (fun _ => rfl) (hm7) (hM) (fun y hy => (k3 y (by omega)))⟩
  · have hm7 : Mdl G c1 σ (nI 1) := by rw [if_pos u6] at hm2; exact hm2
    refine r_iconst h (v := nI 0) (by decide) dX4_ends_8 ?_
    refine r_goto h 17 dX4_ends_9 (by decide) ?_
    exact r_iret h hQ hr dX4_ends_17 ⟨by decide, by decide⟩ ⟨_, rfl, mQ.of (show f_ends σ x = (1, 0, σ) by simp [f_ends, opn, u6]) (fun z => absurd z (by decide)) (hm7) (hM) (fun y hy => (k3 y (by omega)))⟩
set_option maxRecDepth 100000 in
set_option maxHeartbeats 4000000 in
/-- X4_kind -/
theorem c_X4_kind {G : GG} {l : Launch} {c : CC} (hG : InjG G) (hl0 : l.stackTraces = false) {σ : St} {th : Int32} (hm : Mdl G c σ th) (hB : Bnd σ) (hM : okM σ) (x : Int32) : MC G l yX4_kind (.code yX4_kind cX4_kind 2 (some .int) :: gws) (rmF 2 0 0 43) [.ref (G.1 33), .int x] c (pI (mQ G c (f_kind σ x))) (pF) := by
  refine MC.of (by decide) hl0 hG (Nat.le_of_ble_eq_true rfl) (fun X hX h hN hQ hr => ?_)
  subst hX
  refine r_aload_n h 0 rfl rfl dX4_kind_0 ?_
  refine r_iload_n h 1 rfl rfl dX4_kind_1 ?_
  refine r_cV h k_X4_63 (i := 33) (As := [.int x]) (rest := []) (c_X4_isNo h.i h.t hm x) (by omega) hm.o rfl rfl rfl (Nat.le_of_ble_eq_true rfl) ⟨by decide, by decide, by decide, by decide⟩ dX4_kind_2 (fun _ z => z.elim) (fun v4 c1 p5 => ?_)
  obtain ⟨r, rfl, rfl, hm2, k3⟩ := p5
  refine rb_if_eq h 12 dX4_kind_5 (by decide) (fun u6 => ?_) (fun u6 => ?_)
  · have hm7 : Mdl G c1 σ (nI 0) := by rw [if_neg u6] at hm2; exact hm2
    obtain ⟨j, hj, rfl⟩ := ixB_ix u6
    refine r_aload_n h 0 rfl rfl dX4_kind_12 ?_
    refine r_getf h F_X4_19 (i := 33) (by omega) hm7.o rfl dX4_kind_13 ?_
    refine r_iload_n h 1 rfl rfl dX4_kind_16 ?_
    obtain ⟨f8, e9, q10⟩ := hm7.a37
    refine r_iald h (i := 37) (by omega) e9 (x := j) (by omega) (by decide) dX4_kind_17 ?_
    have z11 : f8 (j) = sK (σ.2.2 j) := q10 j hj
    rw [z11]
    exact r_iret h hQ hr dX4_kind_18 ⟨by decide, by decide⟩ ⟨_, rfl, mQ.of (show f_kind σ (nI j) = (0, sK (σ.2.2 j), σ) by simp [f_kind, opn, ixB_yes hj, ixN_nI hj]) (fun _ => rfl) (hm7) (hM) (fun y hy => (k3 y (by omega)))⟩
  · have hm7 : Mdl G c1 σ (nI 1) := by rw [if_pos u6] at hm2; exact hm2
    refine r_iconst h (v := nI 0) (by decide) dX4_kind_8 ?_
    refine r_goto h 18 dX4_kind_9 (by decide) ?_
    exact r_iret h hQ hr dX4_kind_18 ⟨by decide, by decide⟩ ⟨_, rfl, mQ.of (show f_kind σ x = (1, 0, σ) by simp [f_kind, opn, u6]) (fun z => absurd z (by decide)) (hm7) (hM) (fun y hy => (k3 y (by omega)))⟩
set_option maxRecDepth 100000 in
set_option maxHeartbeats 4000000 in
/-- X4_read -/
theorem c_X4_read {G : GG} {l : Launch} {c : CC} (hG : InjG G) (hl0 : l.stackTraces = false) {σ : St} {th : Int32} (hm : Mdl G c σ th) (hB : Bnd σ) (hM : okM σ) (x : Int32) : MC G l yX4_read (.code yX4_read cX4_read 2 (some .int) :: gws) (rmF 2 0 0 49) [.ref (G.1 33), .int x] c (pI (mQ G c (f_read σ x))) (pF) := by
  refine MC.of (by decide) hl0 hG (Nat.le_of_ble_eq_true rfl) (fun X hX h hN hQ hr => ?_)
  subst hX
  refine r_aload_n h 0 rfl rfl dX4_read_0 ?_
  refine r_iload_n h 1 rfl rfl dX4_read_1 ?_
  refine r_cV h k_X4_63 (i := 33) (As := [.int x]) (rest := []) (c_X4_isNo h.i h.t hm x) (by omega) hm.o rfl rfl rfl (Nat.le_of_ble_eq_true rfl) ⟨by decide, by decide, by decide, by decide⟩ dX4_read_2 (fun _ z => z.elim) (fun v4 c1 p5 => ?_)
  obtain ⟨r, rfl, rfl, hm2, k3⟩ := p5
  refine rb_if_ne h 17 dX4_read_5 (by decide) (fun u6 => ?_) (fun u6 => ?_)
  · have hm7 : Mdl G c1 σ (nI 1) := by rw [if_pos u6] at hm2; exact hm2
    refine r_iconst h (v := nI 0) (by decide) dX4_read_17 ?_
    refine r_goto h 26 dX4_read_18 (by decide) ?_
    exact r_iret h hQ hr dX4_read_26 ⟨by decide, by decide⟩ ⟨_, rfl, mQ.of (show f_read σ x = (1, 0, σ) by simp [f_read, opn, u6]) (fun z => absurd z (by decide)) (hm7) (hM) (fun y hy => (k3 y (by omega)))⟩
  · have hm7 : Mdl G c1 σ (nI 0) := by rw [if_neg u6] at hm2; exact hm2
    obtain ⟨j, hj, rfl⟩ := ixB_ix u6
    refine r_aload_n h 0 rfl rfl dX4_read_8 ?_
    refine r_iload_n h 1 rfl rfl dX4_read_9 ?_
    refine r_iconst h (v := nI 2) (by decide) dX4_read_10 ?_
    refine r_cV h k_X4_108 (i := 33) (As := [.int (nI j), .int (nI 2)]) (rest := []) (c_X4_isShut h.i h.t hm7 hj (nI 2)) (by omega) hm7.o rfl rfl rfl (Nat.le_of_ble_eq_true rfl) ⟨by decide, by decide, by decide, by decide⟩ dX4_read_11 (fun _ z => z.elim) (fun v11 c8 p12 => ?_)
    obtain ⟨r, rfl, rfl, hm9, k10⟩ := p12
    refine rb_if_eq h 21 dX4_read_14 (by decide) (fun hs13 => ?_) (fun hs13 => ?_)
    · have hm14 : Mdl G c8 σ (nI 0) := by rw [if_neg hs13] at hm9; exact hm9
      refine r_aload_n h 0 rfl rfl dX4_read_21 ?_
      refine r_iload_n h 1 rfl rfl dX4_read_22 ?_
      have hm14 := hm14.inT j
      refine r_cV h k_X4_112 (i := 33) (As := [.int (nI j)]) (rest := []) (c_X4_passes h.i h.t hj (σ := σ) (t := (σ.2.2 j)) hm14 ((hB.2.2 j hj).1)) (by omega) hm14.o rfl rfl rfl (Nat.le_of_ble_eq_true rfl) ⟨by decide, by decide, by decide, by decide⟩ dX4_read_23 (fun _ z => z.elim) (fun v18 c15 p19 => ?_)
      obtain ⟨r, rfl, rfl, hm16, k17⟩ := p19
      exact r_iret h hQ hr dX4_read_26 ⟨by decide, by decide⟩ ⟨_, rfl, mQ.of (show f_read σ (nI j) = (0, nxA (σ.2.2 j), stT σ j (pNx (σ.2.2 j))) by simp [f_read, opn, ixB_yes hj, ixN_nI hj, hs13]) (fun _ => rfl) (hm16) (hM.nx j 1) (fun y hy => (((k17 y (by omega) (by omega) (by omega)).trans (k10 y (by omega))).trans (k3 y (by omega))))⟩
    · have hm14 : Mdl G c8 σ (nI 2) := by rw [if_pos hs13] at hm9; exact hm9
      refine r_iconst h (v := nI 0) (by decide) dX4_read_17 ?_
      refine r_goto h 26 dX4_read_18 (by decide) ?_
      exact r_iret h hQ hr dX4_read_26 ⟨by decide, by decide⟩ ⟨_, rfl, mQ.of (show f_read σ (nI j) = (2, 0, σ) by simp [f_read, opn, ixB_yes hj, ixN_nI hj, hs13]) (fun z => absurd z (by decide)) (hm14) (hM) (fun y hy => ((k10 y (by omega)).trans (k3 y (by omega))))⟩
set_option maxRecDepth 100000 in
set_option maxHeartbeats 4000000 in
/-- X4_partAt -/
theorem c_X4_partAt {G : GG} {l : Launch} {c : CC} (hG : InjG G) (hl0 : l.stackTraces = false) {σ : St} {th : Int32} (hm : Mdl G c σ th) (hB : Bnd σ) (hM : okM σ) (y : Int32) : MC G l yX4_partAt (.code yX4_partAt cX4_partAt 2 (some .int) :: gws) (rmF 1 0 0 22) [.ref (G.1 33), .int y] c (pI (mQ G c (f_partAt σ y))) (pF) := by
  refine MC.of (by decide) hl0 hG (Nat.le_of_ble_eq_true rfl) (fun X hX h hN hQ hr => ?_)
  subst hX
  have hl := hB.2.1.1
  refine r_aload_n h 0 rfl rfl dX4_partAt_0 ?_
  refine r_iload_n h 1 rfl rfl dX4_partAt_1 ?_
  refine r_iconst h (v := nI 0) (by decide) dX4_partAt_2 ?_
  refine r_aload_n h 0 rfl rfl dX4_partAt_3 ?_
  refine r_getf h F_X4_115 (i := 33) (by omega) hm.o rfl dX4_partAt_4 ?_
  refine r_iconst h (v := nI 1) (by decide) dX4_partAt_7 ?_
  refine r_isub h rfl dX4_partAt_8 ?_
  refine r_cS h k_X4_55 (As := [.int y, .int (nI 0), .int ((nI (σ.2.1.length)) - (nI (1)))]) (rest := [.ref (G.1 33)]) (c_X4_lies h.i h.t y (nI (0)) ((nI (σ.2.1.length)) - (nI (1)))) rfl rfl (Nat.le_of_ble_eq_true rfl) ⟨by decide, by decide, by decide, by decide⟩ dX4_partAt_9 (fun _ z => z.elim) (fun v1 c2 p3 => ?_)
  obtain ⟨r, rfl, rfl, rfl⟩ := p3
  rw [btB_pl y (by omega)]
  refine rb_if_ne h 19 dX4_partAt_12 (by decide) (fun hb4 => ?_) (fun hb4 => ?_)
  · refine r_iconst h (v := nI 0) (by decide) dX4_partAt_19 ?_
    refine r_iconst h (v := nI 1) (by decide) dX4_partAt_20 ?_
    refine r_cV h k_X4_59 (i := 33) (As := [.int (nI 0), .int (nI 1)]) (rest := []) (c_X4_isThrown h.i h.t hm (nI 0) (nI 1) (nI 0) (by decide) (by decide)) (by omega) hm.o rfl rfl rfl (Nat.le_of_ble_eq_true rfl) ⟨by decide, by decide, by decide, by decide⟩ dX4_partAt_21 (fun _ z => z.elim) (fun v14 c11 p15 => ?_)
    obtain ⟨r, rfl, rfl, hm12, k13⟩ := p15
    refine rn_if_eq h (a := 0) (by omega) 31 dX4_partAt_24 (by decide) (fun u16 => ?_) (fun u16 => ?_)
    · obtain ⟨p, hp, rfl⟩ := plB_nat hb4 (by omega)
      refine r_aload_n h 0 rfl rfl dX4_partAt_31 ?_
      refine r_getf h F_X4_16 (i := 33) (by omega) hm12.o rfl dX4_partAt_32 ?_
      refine r_iload_n h 1 rfl rfl dX4_partAt_35 ?_
      obtain ⟨f17, e18, q19⟩ := hm12.a36
      refine r_iald h (i := 36) (by omega) e18 (x := p) (by omega) (by decide) dX4_partAt_36 ?_
      have z20 : f17 (p) = σ.2.1.getD p 0 := q19 p hp
      rw [z20]
      exact r_iret h hQ hr dX4_partAt_37 ⟨by decide, by decide⟩ ⟨_, rfl, mQ.of (show f_partAt σ (nI p) = (0, σ.2.1.getD p 0, σ) by simp [f_partAt, opn, hb4, ixN_n (show p < 2147483648 by omega)]) (fun _ => rfl) (hm12) (hM) (fun y hy => (k13 y (by omega)))⟩
    · exact absurd u16 (by decide)
  · refine r_iconst h (v := nI 1) (by decide) dX4_partAt_15 ?_
    refine r_goto h 20 dX4_partAt_16 (by decide) ?_
    refine r_iconst h (v := nI 1) (by decide) dX4_partAt_20 ?_
    refine r_cV h k_X4_59 (i := 33) (As := [.int (nI 1), .int (nI 1)]) (rest := []) (c_X4_isThrown h.i h.t hm (nI 1) (nI 1) (nI 1) (by decide) (by decide)) (by omega) hm.o rfl rfl rfl (Nat.le_of_ble_eq_true rfl) ⟨by decide, by decide, by decide, by decide⟩ dX4_partAt_21 (fun _ z => z.elim) (fun v8 c5 p9 => ?_)
    obtain ⟨r, rfl, rfl, hm6, k7⟩ := p9
    refine rn_if_eq h (a := 1) (by omega) 31 dX4_partAt_24 (by decide) (fun u10 => ?_) (fun u10 => ?_)
    · exact absurd u10 (by decide)
    · refine r_iconst h (v := nI 0) (by decide) dX4_partAt_27 ?_
      refine r_goto h 37 dX4_partAt_28 (by decide) ?_
      exact r_iret h hQ hr dX4_partAt_37 ⟨by decide, by decide⟩ ⟨_, rfl, mQ.of (show f_partAt σ y = (1, 0, σ) by simp [f_partAt, opn, hb4]) (fun z => absurd z (by decide)) (hm6) (hM) (fun y hy => (k7 y (by omega)))⟩
