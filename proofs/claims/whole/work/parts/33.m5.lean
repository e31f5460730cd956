/-! THE MODEL: its calls, four -/
set_option maxRecDepth 100000 in
set_option maxHeartbeats 4000000 in
/-- X4_checksum -/
theorem c_X4_checksum {G : GG} {l : Launch} {c : CC} (hG : InjG G) (hl0 : l.stackTraces = false) {σ : St} {th : Int32} (hm : Mdl G c σ th) (hB : Bnd σ) : MC G l yX4_checksum (.code yX4_checksum cX4_checksum 5 (some .long) :: gws) (rmF 1 0 0 22) [.ref (G.1 33)] c (pL (fun r c' => c = c' ∧ f_checksum σ = r)) (pF) := by
  refine MC.of (by decide) hl0 hG (Nat.le_of_ble_eq_true rfl) (fun X hX h hN hQ hr => ?_)
  subst hX
  refine r_ldc2 h K_X4_127 dX4_checksum_0 ?_
  refine r_lstore_n h ([(1, .long (7)), (0, .ref (G.1 33))]) rfl dX4_checksum_3 (by decide) rfl ?_
  refine r_iconst h (v := nI 0) (by decide) dX4_checksum_4 ?_
  refine r_istore_n h ([(3, .int (nI 0)), (1, .long (7)), (0, .ref (G.1 33))]) rfl dX4_checksum_5 (by decide) rfl ?_
  have loop3 : ∀ (q i : Nat) (s : Int64), 5 ≤ i + q → i ≤ 4 → s = ckT (ckR (ckS 7 σ.1 4) σ.2.1) σ.2.2 i → V G X c [(0, .ref (G.1 33)), (1, .long (s)), (3, .int (nI i))] 0 0 110 [] := by
    intro q
    induction q with
    | zero => intro i s a1 a2; exact absurd a1 (by omega)
    | succ q ih =>
      intro i s a1 a2 a3
      refine r_iload_n h 2 rfl rfl dX4_checksum_110 ?_
      refine r_iconst h (v := nI 4) (by decide) dX4_checksum_111 ?_
      refine rn_icmp_ge h (a := i) (b := 4) (by omega) (by omega) 198 dX4_checksum_112 (by decide) (fun z1 => ?_) (fun z1 => ?_)
      · refine r_lload_n h 1 rfl rfl dX4_checksum_198 ?_
        exact r_lret h hQ hr dX4_checksum_199 ⟨by decide, by decide⟩ ⟨_, rfl, rfl, by rw [a3, show i = 4 by omega]; rfl⟩
      · have hi : i < 4 := by omega
        refine r_ldc2 h K_X4_129 dX4_checksum_115 ?_
        refine r_lload_n h 1 rfl rfl dX4_checksum_118 ?_
        refine r_lmul h rfl dX4_checksum_119 ?_
        refine r_aload_n h 0 rfl rfl dX4_checksum_120 ?_
        refine r_getf h F_X4_19 (i := 33) (by omega) hm.o rfl dX4_checksum_121 ?_
        refine r_iload_n h 2 rfl rfl dX4_checksum_124 ?_
        obtain ⟨f2, e3, q4⟩ := hm.a37
        refine r_iald h (i := 37) (by omega) e3 (x := i) (by omega) (by decide) dX4_checksum_125 ?_
        have z5 : f2 (i) = sK (σ.2.2 i) := q4 i hi
        rw [z5]
        refine r_i2l h rfl dX4_checksum_126 ?_
        refine r_ladd h rfl dX4_checksum_127 ?_
        refine r_lstore_n h ([(1, .long (((31) * (s)) + ((sK (σ.2.2 i)).toInt64))), (0, .ref (G.1 33)), (3, .int (nI i))]) rfl dX4_checksum_128 (by decide) rfl ?_
        refine r_aload_n h 1 rfl rfl dX4_checksum_129 ?_
        refine r_getf h F_X4_19 (i := 33) (by omega) hm.o rfl dX4_checksum_130 ?_
        refine r_iload_n h 2 rfl rfl dX4_checksum_133 ?_
        obtain ⟨f6, e7, q8⟩ := hm.a37
        refine r_iald h (i := 37) (by omega) e7 (x := i) (by omega) (by decide) dX4_checksum_134 ?_
        have z9 : f6 (i) = sK (σ.2.2 i) := q8 i hi
        rw [z9]
        refine r_cS h k_X4_82 (As := [.int (sK (σ.2.2 i))]) (rest := []) (c_X4_hasLine h.i h.t (sK (σ.2.2 i))) rfl rfl (Nat.le_of_ble_eq_true rfl) ⟨by decide, by decide, by decide, by decide⟩ dX4_checksum_135 (fun _ z => z.elim) (fun v10 c11 p12 => ?_)
        obtain ⟨r, rfl, rfl, rfl⟩ := p12
        suffices KK : ∀ y : Int64, y = (if hasL (sK (σ.2.2 i)) = true then 31 * (31 * s + (sK (σ.2.2 i)).toInt64) + (sN (σ.2.2 i)).toInt64 else 31 * s + (sK (σ.2.2 i)).toInt64) → V G X c [(1, .long (y)), (0, .ref (G.1 33)), (3, .int (nI i))] 0 0 159 [] from ?_
        · refine rb_if_eq h 157 dX4_checksum_138 (by decide) (fun u13 => ?_) (fun u13 => ?_)
          · refine r_lload_n h 0 rfl rfl dX4_checksum_157 ?_
            refine r_lstore_n h ([(1, .long (((31) * (s)) + ((sK (σ.2.2 i)).toInt64))), (0, .ref (G.1 33)), (3, .int (nI i))]) rfl dX4_checksum_158 (by decide) rfl ?_
            refine V_lv [0, 1, 2] rfl ?_
            exact KK _ (if_neg u13).symm
          · refine r_ldc2 h K_X4_129 dX4_checksum_141 ?_
            refine r_lload_n h 0 rfl rfl dX4_checksum_144 ?_
            refine r_lmul h rfl dX4_checksum_145 ?_
            refine r_aload_n h 1 rfl rfl dX4_checksum_146 ?_
            refine r_getf h F_X4_34 (i := 33) (by omega) hm.o rfl dX4_checksum_147 ?_
            refine r_iload_n h 2 rfl rfl dX4_checksum_150 ?_
            obtain ⟨f14, e15, q16⟩ := hm.a42
            refine r_iald h (i := 42) (by omega) e15 (x := i) (by omega) (by decide) dX4_checksum_151 ?_
            have z17 : f14 (i) = sN (σ.2.2 i) := q16 i hi
            rw [z17]
            refine r_i2l h rfl dX4_checksum_152 ?_
            refine r_ladd h rfl dX4_checksum_153 ?_
            refine r_goto h 158 dX4_checksum_154 (by decide) ?_
            refine r_lstore_n h ([(1, .long (((31) * (((31) * (s)) + ((sK (σ.2.2 i)).toInt64))) + ((sN (σ.2.2 i)).toInt64))), (0, .ref (G.1 33)), (3, .int (nI i))]) rfl dX4_checksum_158 (by decide) rfl ?_
            refine V_lv [0, 1, 2] rfl ?_
            exact KK _ (if_pos u13).symm
        · intro y hy
          refine r_aload_n h 1 rfl rfl dX4_checksum_159 ?_
          refine r_getf h F_X4_19 (i := 33) (by omega) hm.o rfl dX4_checksum_160 ?_
          refine r_iload_n h 2 rfl rfl dX4_checksum_163 ?_
          obtain ⟨f18, e19, q20⟩ := hm.a37
          refine r_iald h (i := 37) (by omega) e19 (x := i) (by omega) (by decide) dX4_checksum_164 ?_
          have z21 : f18 (i) = sK (σ.2.2 i) := q20 i hi
          rw [z21]
          refine r_cS h k_X4_124 (As := [.int (sK (σ.2.2 i))]) (rest := []) (c_X4_hasCheck h.i h.t (sK (σ.2.2 i))) rfl rfl (Nat.le_of_ble_eq_true rfl) ⟨by decide, by decide, by decide, by decide⟩ dX4_checksum_165 (fun _ z => z.elim) (fun v22 c23 p24 => ?_)
          obtain ⟨r, rfl, rfl, rfl⟩ := p24
          refine rb_if_eq h 190 dX4_checksum_168 (by decide) (fun u25 => ?_) (fun u25 => ?_)
          · refine r_lload_n h 0 rfl rfl dX4_checksum_190 ?_
            refine r_lstore_n h ([(1, .long (y)), (0, .ref (G.1 33)), (3, .int (nI i))]) rfl dX4_checksum_191 (by decide) rfl ?_
            refine r_iinc h 2 ([(3, .int (nI (i + 1))), (1, .long (y)), (0, .ref (G.1 33))]) rfl (inc_1 (i)) dX4_checksum_192 (by decide) rfl ?_
            refine r_goto h 110 dX4_checksum_195 (by decide) ?_
            refine V_lv [2, 1, 0] rfl ?_
            exact ih (i + 1) _ (by omega) (by omega) (by rw [hy, a3]; exact (if_neg u25).symm)
          · refine r_ldc2 h K_X4_129 dX4_checksum_171 ?_
            refine r_lload_n h 0 rfl rfl dX4_checksum_174 ?_
            refine r_lmul h rfl dX4_checksum_175 ?_
            refine r_ldc2 h K_X4_92 dX4_checksum_176 ?_
            refine r_ladd h rfl dX4_checksum_179 ?_
            refine r_aload_n h 1 rfl rfl dX4_checksum_180 ?_
            refine r_getf h F_X4_37 (i := 33) (by omega) hm.o rfl dX4_checksum_181 ?_
            refine r_iload_n h 2 rfl rfl dX4_checksum_184 ?_
            obtain ⟨f26, e27, q28⟩ := hm.a43
            refine r_lald h (i := 43) (by omega) e27 (x := i) (by omega) (by decide) dX4_checksum_185 ?_
            have z29 : f26 (i) = sG (σ.2.2 i) := q28 i hi
            rw [z29]
            refine r_lsub h rfl dX4_checksum_186 ?_
            refine r_goto h 191 dX4_checksum_187 (by decide) ?_
            refine r_lstore_n h ([(1, .long ((((31) * (y)) + (4294967295)) - (sG (σ.2.2 i)))), (0, .ref (G.1 33)), (3, .int (nI i))]) rfl dX4_checksum_191 (by decide) rfl ?_
            refine r_iinc h 2 ([(3, .int (nI (i + 1))), (1, .long ((((31) * (y)) + (4294967295)) - (sG (σ.2.2 i)))), (0, .ref (G.1 33))]) rfl (inc_1 (i)) dX4_checksum_192 (by decide) rfl ?_
            refine r_goto h 110 dX4_checksum_195 (by decide) ?_
            refine V_lv [2, 1, 0] rfl ?_
            exact ih (i + 1) _ (by omega) (by omega) (by rw [i64_as, hy, a3]; exact (if_pos u25).symm)
  have hpl := hB.2.1.1
  have loop2 : ∀ (q i : Nat) (s : Int64), σ.2.1.length + 1 ≤ i + q → i ≤ σ.2.1.length → s = ckL (ckS 7 σ.1 4) σ.2.1 i → V G X c [(0, .ref (G.1 33)), (1, .long (s)), (3, .int (nI i))] 0 0 80 [] := by
    intro q
    induction q with
    | zero => intro i s a1 a2; exact absurd a1 (by omega)
    | succ q ih =>
      intro i s a1 a2 a3
      refine r_iload_n h 2 rfl rfl dX4_checksum_80 ?_
      refine r_aload_n h 0 rfl rfl dX4_checksum_81 ?_
      refine r_getf h F_X4_115 (i := 33) (by omega) hm.o rfl dX4_checksum_82 ?_
      refine rn_icmp_ge h (a := i) (b := σ.2.1.length) (by omega) (by omega) 108 dX4_checksum_85 (by decide) (fun z30 => ?_) (fun z30 => ?_)
      · refine r_iconst h (v := nI 0) (by decide) dX4_checksum_108 ?_
        refine r_istore_n h ([(3, .int (nI 0)), (0, .ref (G.1 33)), (1, .long (s))]) rfl dX4_checksum_109 (by decide) rfl ?_
        refine V_lv [1, 2, 0] rfl ?_
        exact loop3 5 0 _ (by omega) (by omega) (by rw [a3, show i = σ.2.1.length by omega]; rfl)
      · refine r_ldc2 h K_X4_129 dX4_checksum_88 ?_
        refine r_lload_n h 1 rfl rfl dX4_checksum_91 ?_
        refine r_lmul h rfl dX4_checksum_92 ?_
        refine r_aload_n h 0 rfl rfl dX4_checksum_93 ?_
        refine r_getf h F_X4_16 (i := 33) (by omega) hm.o rfl dX4_checksum_94 ?_
        refine r_iload_n h 2 rfl rfl dX4_checksum_97 ?_
        obtain ⟨f31, e32, q33⟩ := hm.a36
        refine r_iald h (i := 36) (by omega) e32 (x := i) (by omega) (by decide) dX4_checksum_98 ?_
        have z34 : f31 (i) = σ.2.1.getD i 0 := q33 i z30
        rw [z34]
        refine r_i2l h rfl dX4_checksum_99 ?_
        refine r_ladd h rfl dX4_checksum_100 ?_
        refine r_lstore_n h ([(1, .long (((31) * (s)) + ((σ.2.1.getD i 0).toInt64))), (0, .ref (G.1 33)), (3, .int (nI i))]) rfl dX4_checksum_101 (by decide) rfl ?_
        refine r_iinc h 2 ([(3, .int (nI (i + 1))), (1, .long (((31) * (s)) + ((σ.2.1.getD i 0).toInt64))), (0, .ref (G.1 33))]) rfl (inc_1 (i)) dX4_checksum_102 (by decide) rfl ?_
        refine r_goto h 80 dX4_checksum_105 (by decide) ?_
        refine V_lv [2, 1, 0] rfl ?_
        exact ih (i + 1) _ (by omega) (by omega) (by rw [a3]; rfl)
  have loop1 : ∀ (q i : Nat) (s : Int64), 5 ≤ i + q → i ≤ 4 → s = ckS 7 σ.1 i → V G X c [(0, .ref (G.1 33)), (1, .long (s)), (3, .int (nI i))] 0 0 6 [] := by
    intro q
    induction q with
    | zero => intro i s a1 a2; exact absurd a1 (by omega)
    | succ q ih =>
      intro i s a1 a2 a3
      refine r_iload_n h 2 rfl rfl dX4_checksum_6 ?_
      refine r_iconst h (v := nI 4) (by decide) dX4_checksum_7 ?_
      refine rn_icmp_ge h (a := i) (b := 4) (by omega) (by omega) 66 dX4_checksum_8 (by decide) (fun z35 => ?_) (fun z35 => ?_)
      · refine r_ldc2 h K_X4_129 dX4_checksum_66 ?_
        refine r_lload_n h 1 rfl rfl dX4_checksum_69 ?_
        refine r_lmul h rfl dX4_checksum_70 ?_
        refine r_aload_n h 0 rfl rfl dX4_checksum_71 ?_
        refine r_getf h F_X4_115 (i := 33) (by omega) hm.o rfl dX4_checksum_72 ?_
        refine r_i2l h rfl dX4_checksum_75 ?_
        refine r_ladd h rfl dX4_checksum_76 ?_
        refine r_lstore_n h ([(1, .long (((31) * (s)) + (((nI (σ.2.1.length))).toInt64))), (0, .ref (G.1 33)), (3, .int (nI i))]) rfl dX4_checksum_77 (by decide) rfl ?_
        refine r_iconst h (v := nI 0) (by decide) dX4_checksum_78 ?_
        refine r_istore_n h ([(3, .int (nI 0)), (1, .long (((31) * (s)) + (((nI (σ.2.1.length))).toInt64))), (0, .ref (G.1 33))]) rfl dX4_checksum_79 (by decide) rfl ?_
        refine V_lv [2, 1, 0] rfl ?_
        exact loop2 (σ.2.1.length + 1) 0 _ (by omega) (by omega) (by rw [a3, show i = 4 by omega]; rfl)
      · have hi : i < 4 := by omega
        have hli := (hB.1 i hi).1
        refine r_ldc2 h K_X4_129 dX4_checksum_11 ?_
        refine r_lload_n h 1 rfl rfl dX4_checksum_14 ?_
        refine r_lmul h rfl dX4_checksum_15 ?_
        refine r_aload_n h 0 rfl rfl dX4_checksum_16 ?_
        refine r_getf h F_X4_13 (i := 33) (by omega) hm.o rfl dX4_checksum_17 ?_
        refine r_iload_n h 2 rfl rfl dX4_checksum_20 ?_
        obtain ⟨f36, e37, q38⟩ := hm.a35
        refine r_iald h (i := 35) (by omega) e37 (x := i) (by omega) (by decide) dX4_checksum_21 ?_
        have z39 : f36 (i) = (nI ((σ.1 i).length)) := q38 i hi
        rw [z39]
        refine r_i2l h rfl dX4_checksum_22 ?_
        refine r_ladd h rfl dX4_checksum_23 ?_
        refine r_lstore_n h ([(1, .long (((31) * (s)) + (((nI ((σ.1 i).length))).toInt64))), (0, .ref (G.1 33)), (3, .int (nI i))]) rfl dX4_checksum_24 (by decide) rfl ?_
        refine r_iconst h (v := nI 0) (by decide) dX4_checksum_25 ?_
        refine r_istore h ([(4, .int (nI 0)), (1, .long (((31) * (s)) + (((nI ((σ.1 i).length))).toInt64))), (0, .ref (G.1 33)), (3, .int (nI i))]) dX4_checksum_26 (by decide) rfl ?_
        have inner : ∀ (q2 k : Nat) (s1 : Int64), (σ.1 i).length + 1 ≤ k + q2 → k ≤ (σ.1 i).length → s1 = ckL s (σ.1 i) k → V G X c [(0, .ref (G.1 33)), (1, .long (s1)), (3, .int (nI i)), (4, .int (nI k))] 0 0 28 [] := by
          intro q2
          induction q2 with
          | zero => intro k s1 b1 b2; exact absurd b1 (by omega)
          | succ q2 ih2 =>
            intro k s1 b1 b2 b3
            refine r_iload h 3 rfl dX4_checksum_28 ?_
            refine r_aload_n h 0 rfl rfl dX4_checksum_30 ?_
            refine r_getf h F_X4_13 (i := 33) (by omega) hm.o rfl dX4_checksum_31 ?_
            refine r_iload_n h 2 rfl rfl dX4_checksum_34 ?_
            obtain ⟨f40, e41, q42⟩ := hm.a35
            refine r_iald h (i := 35) (by omega) e41 (x := i) (by omega) (by decide) dX4_checksum_35 ?_
            have z43 : f40 (i) = (nI ((σ.1 i).length)) := q42 i hi
            rw [z43]
            refine rn_icmp_ge h (a := k) (b := (σ.1 i).length) (by omega) (by omega) 60 dX4_checksum_36 (by decide) (fun z44 => ?_) (fun z44 => ?_)
            · refine r_iinc h 2 ([(3, .int (nI (i + 1))), (0, .ref (G.1 33)), (1, .long (s1)), (4, .int (nI k))]) rfl (inc_1 (i)) dX4_checksum_60 (by decide) rfl ?_
              refine r_goto h 6 dX4_checksum_63 (by decide) ?_
              refine V_lv [1, 2, 0] rfl ?_
              exact ih (i + 1) _ (by omega) (by omega) (by rw [b3, a3, show k = (σ.1 i).length by omega]; rfl)
            · refine r_ldc2 h K_X4_129 dX4_checksum_39 ?_
              refine r_lload_n h 1 rfl rfl dX4_checksum_42 ?_
              refine r_lmul h rfl dX4_checksum_43 ?_
              refine r_aload_n h 0 rfl rfl dX4_checksum_44 ?_
              refine r_iload_n h 2 rfl rfl dX4_checksum_45 ?_
              refine r_iload h 3 rfl dX4_checksum_46 ?_
              refine r_cV h k_X4_71 (i := 33) (As := [.int (nI i), .int (nI k)]) (rest := [.long ((31) * (s1))]) (c_X4_at h.i h.t hm (j := i) (k := k) hi rfl z44) (by omega) hm.o rfl rfl rfl (Nat.le_of_ble_eq_true rfl) ⟨by decide, by decide, by decide, by decide⟩ dX4_checksum_48 (fun _ z => z.elim) (fun v45 c46 p47 => ?_)
              obtain ⟨r, rfl, rfl, rfl⟩ := p47
              refine r_i2l h rfl dX4_checksum_51 ?_
              refine r_ladd h rfl dX4_checksum_52 ?_
              refine r_lstore_n h ([(1, .long (((31) * (s1)) + (((σ.1 i).getD k 0).toInt64))), (0, .ref (G.1 33)), (3, .int (nI i)), (4, .int (nI k))]) rfl dX4_checksum_53 (by decide) rfl ?_
              refine r_iinc h 3 ([(4, .int (nI (k + 1))), (1, .long (((31) * (s1)) + (((σ.1 i).getD k 0).toInt64))), (0, .ref (G.1 33)), (3, .int (nI i))]) rfl (inc_1 (k)) dX4_checksum_54 (by decide) rfl ?_
              refine r_goto h 28 dX4_checksum_57 (by decide) ?_
              refine V_lv [2, 1, 3, 0] rfl ?_
              exact ih2 (k + 1) _ (by omega) (by omega) (by rw [b3]; rfl)
        refine V_lv [2, 1, 3, 0] rfl ?_
        exact inner ((σ.1 i).length + 1) 0 _ (by omega) (by omega) rfl
  refine V_lv [2, 1, 0] rfl ?_
  exact loop1 5 0 7 (by omega) (by omega) rfl
set_option maxRecDepth 100000 in
set_option maxHeartbeats 4000000 in
/-- X4_skip -/
theorem c_X4_skip {G : GG} {l : Launch} {c : CC} (hG : InjG G) (hl0 : l.stackTraces = false) {σ : St} {th : Int32} (hm : Mdl G c σ th) (hB : Bnd σ) (hM : okM σ) (x m0 : Int32) : MC G l yX4_skip (.code yX4_skip cX4_skip 4 (some .int) :: gws) (rmF 2 0 0 49) [.ref (G.1 33), .int x, .int m0] c (pI (mQ G c (f_skip σ x m0))) (pF) := by
  refine MC.of (by decide) hl0 hG (Nat.le_of_ble_eq_true rfl) (fun X hX h hN hQ hr => ?_)
  subst hX
  refine r_aload_n h 0 rfl rfl dX4_skip_0 ?_
  refine r_iload_n h 1 rfl rfl dX4_skip_1 ?_
  refine r_cV h k_X4_63 (i := 33) (As := [.int x]) (rest := []) (c_X4_isNo h.i h.t hm x) (by omega) hm.o rfl rfl rfl (Nat.le_of_ble_eq_true rfl) ⟨by decide, by decide, by decide, by decide⟩ dX4_skip_2 (fun _ z => z.elim) (fun v4 c1 p5 => ?_)
  obtain ⟨r, rfl, rfl, hm2, k3⟩ := p5
  refine rb_if_ne h 41 dX4_skip_5 (by decide) (fun u6 => ?_) (fun u6 => ?_)
  · have hm7 : Mdl G c1 σ (nI 1) := by rw [if_pos u6] at hm2; exact hm2
    refine r_iconst h (v := nI 0) (by decide) dX4_skip_41 ?_
    exact r_iret h hQ hr dX4_skip_42 ⟨by decide, by decide⟩ ⟨_, rfl, mQ.of (show f_skip σ x m0 = (1, 0, σ) by simp [f_skip, opn, u6]) (fun z => absurd z (by decide)) (hm7) (hM) (fun y hy => (k3 y (by omega)))⟩
  · have hm7 : Mdl G c1 σ (nI 0) := by rw [if_neg u6] at hm2; exact hm2
    obtain ⟨j, hj, rfl⟩ := ixB_ix u6
    have hos := (hB.2.2 j hj).1
    have hO := (hB.2.2 j hj).2.1
    have hP : sP (σ.2.2 j) ≤ (sO (σ.2.2 j)).length := hos.1
    refine r_aload_n h 0 rfl rfl dX4_skip_8 ?_
    refine r_iload_n h 2 rfl rfl dX4_skip_9 ?_
    refine r_iconst h (v := nI 0) (by decide) dX4_skip_10 ?_
    refine r_sipush h (v := nI 200) (by decide) dX4_skip_11 ?_
    refine r_cS h k_X4_55 (As := [.int m0, .int (nI 0), .int (nI 200)]) (rest := [.ref (G.1 33)]) (c_X4_lies h.i h.t m0 (nI (0)) (nI (200))) rfl rfl (Nat.le_of_ble_eq_true rfl) ⟨by decide, by decide, by decide, by decide⟩ dX4_skip_14 (fun _ z => z.elim) (fun v8 c9 p10 => ?_)
    obtain ⟨r, rfl, rfl, rfl⟩ := p10
    refine rb_if_ne h 24 dX4_skip_17 (by decide) (fun hb11 => ?_) (fun hb11 => ?_)
    · refine r_iconst h (v := nI 0) (by decide) dX4_skip_24 ?_
      refine r_iconst h (v := nI 2) (by decide) dX4_skip_25 ?_
      refine r_cV h k_X4_59 (i := 33) (As := [.int (nI 0), .int (nI 2)]) (rest := []) (c_X4_isThrown h.i h.t hm7 (nI 0) (nI 2) (nI 0) (by decide) (by decide)) (by omega) hm7.o rfl rfl rfl (Nat.le_of_ble_eq_true rfl) ⟨by decide, by decide, by decide, by decide⟩ dX4_skip_26 (fun _ z => z.elim) (fun v21 c18 p22 => ?_)
      obtain ⟨r, rfl, rfl, hm19, k20⟩ := p22
      refine rn_if_ne h (a := 0) (by omega) 41 dX4_skip_29 (by decide) (fun u23 => ?_) (fun u23 => ?_)
      · exact absurd u23 (by decide)
      · obtain ⟨m, mlo, mhi, rfl⟩ := btB_nat hb11 (by decide) (by decide)
        refine r_aload_n h 0 rfl rfl dX4_skip_32 ?_
        refine r_iload_n h 1 rfl rfl dX4_skip_33 ?_
        refine r_iconst h (v := nI 3) (by decide) dX4_skip_34 ?_
        refine r_cV h k_X4_108 (i := 33) (As := [.int (nI j), .int (nI 3)]) (rest := []) (c_X4_isShut h.i h.t hm19 hj (nI 3)) (by omega) hm19.o rfl rfl rfl (Nat.le_of_ble_eq_true rfl) ⟨by decide, by decide, by decide, by decide⟩ dX4_skip_35 (fun _ z => z.elim) (fun v27 c24 p28 => ?_)
        obtain ⟨r, rfl, rfl, hm25, k26⟩ := p28
        refine rb_if_eq h 43 dX4_skip_38 (by decide) (fun hs29 => ?_) (fun hs29 => ?_)
        · have hm30 : Mdl G c24 σ (nI 0) := by rw [if_neg hs29] at hm25; exact hm25
          have hm30 := hm30.inT j
          refine r_iconst h (v := nI 0) (by decide) dX4_skip_43 ?_
          refine r_istore_n h ([(3, .int (nI 0)), (0, .ref (G.1 33)), (1, .int (nI j)), (2, .int (nI m))]) rfl dX4_skip_44 (by decide) rfl ?_
          have loop : ∀ (q k : Nat) (c1 : CC), m + 1 ≤ k + q → k ≤ m → k ≤ (sO (σ.2.2 j)).length - sP (σ.2.2 j) → Mdl G c1 (stT σ j (pPn k (σ.2.2 j))) (nI 0) → (∀ y : Nat, y < 33 ∨ 47 ≤ y → c1 y = c y) → V G X c1 [(0, .ref (G.1 33)), (1, .int (nI j)), (2, .int (nI m)), (3, .int (nI k))] (0) (0) 45 [] := by
            intro q
            induction q with
            | zero => intro k c1 a1 a2; exact absurd a1 (by omega)
            | succ q ih =>
              intro k c1 a1 a2 a3 m1 k1
              refine r_iload_n h 3 rfl rfl dX4_skip_45 ?_
              refine r_iload_n h 2 rfl rfl dX4_skip_46 ?_
              refine rn_icmp_ge h (a := k) (b := m) (by omega) (by omega) 65 dX4_skip_47 (by decide) (fun z31 => ?_) (fun z31 => ?_)
              · have hmin : min m ((sO (σ.2.2 j)).length - sP (σ.2.2 j)) = k := by omega
                refine r_iload_n h 3 rfl rfl dX4_skip_65 ?_
                exact r_iret h hQ hr dX4_skip_66 ⟨by decide, by decide⟩ ⟨_, rfl, mQ.of (show f_skip σ (nI j) (nI m) = (0, nI k, stT σ j (pPn k (σ.2.2 j))) by simp [f_skip, opn, ixB_yes hj, ixN_nI hj, hb11, ixN_n (show m < 2147483648 by omega), hs29, hmin]) (fun _ => rfl) (m1) (hM.nx j k) (fun y hy => (k1 y (by omega)))⟩
              · refine r_aload_n h 0 rfl rfl dX4_skip_50 ?_
                refine r_iload_n h 1 rfl rfl dX4_skip_51 ?_
                refine r_cV h k_X4_112 (i := 33) (As := [.int (nI j)]) (rest := []) (c_X4_passes h.i h.t hj (σ := σ) (t := pPn k (σ.2.2 j)) m1 (okS_pn hos k)) (by omega) m1.o rfl rfl rfl (Nat.le_of_ble_eq_true rfl) ⟨by decide, by decide, by decide, by decide⟩ dX4_skip_52 (fun _ z => z.elim) (fun v35 c32 p36 => ?_)
                obtain ⟨r, rfl, rfl, hm33, k34⟩ := p36
                refine r_iconst h (v := -1) (by decide) dX4_skip_55 ?_
                rcases Nat.lt_or_ge k ((sO (σ.2.2 j)).length - sP (σ.2.2 j)) with hlt | hge
                · have hx : nxA (pPn k (σ.2.2 j)) = (sO (σ.2.2 j)).getD (sP (σ.2.2 j) + k) 0 := nx_at (by omega)
                  refine r_icmp_eq h 65 dX4_skip_56 (by decide) (fun v37 => ?_) (fun v37 => ?_)
                  · exact absurd (hx.symm.trans v37) (allB_ne hos.2.1 (by omega))
                  · refine r_iinc h 3 ([(3, .int (nI (k + 1))), (0, .ref (G.1 33)), (1, .int (nI j)), (2, .int (nI m))]) rfl (inc_1 (k)) dX4_skip_59 (by decide) rfl ?_
                    refine r_goto h 45 dX4_skip_62 (by decide) ?_
                    refine V_lv [1, 2, 3, 0] rfl ?_
                    exact ih (k + 1) _ (by omega) (by omega) (by omega) hm33 (fun y hy => ((k34 y (by omega) (by omega) (by omega)).trans (k1 y (by omega))))
                · have hend := nx_end (t := pPn k (σ.2.2 j)) (by rw [pPn_P _ k (by omega), pPn_O]; omega)
                  refine r_icmp_eq h 65 dX4_skip_56 (by decide) (fun v38 => ?_) (fun v38 => ?_)
                  · rw [hend.2] at hm33
                    have hmin : min m ((sO (σ.2.2 j)).length - sP (σ.2.2 j)) = k := by omega
                    refine r_iload_n h 3 rfl rfl dX4_skip_65 ?_
                    exact r_iret h hQ hr dX4_skip_66 ⟨by decide, by decide⟩ ⟨_, rfl, mQ.of (show f_skip σ (nI j) (nI m) = (0, nI k, stT σ j (pPn k (σ.2.2 j))) by simp [f_skip, opn, ixB_yes hj, ixN_nI hj, hb11, ixN_n (show m < 2147483648 by omega), hs29, hmin]) (fun _ => rfl) (hm33) (hM.nx j k) (fun y hy => ((k34 y (by omega) (by omega) (by omega)).trans (k1 y (by omega))))⟩
                  · exact absurd hend.1 v38
          refine V_lv [1, 2, 3, 0] rfl ?_
          exact loop (m + 1) 0 c24 (by omega) (by omega) (by omega) hm30 (fun y hy => (((k26 y (by omega)).trans (k20 y (by omega))).trans (k3 y (by omega))))
        · have hm30 : Mdl G c24 σ (nI 3) := by rw [if_pos hs29] at hm25; exact hm25
          refine r_iconst h (v := nI 0) (by decide) dX4_skip_41 ?_
          exact r_iret h hQ hr dX4_skip_42 ⟨by decide, by decide⟩ ⟨_, rfl, mQ.of (show f_skip σ (nI j) (nI m) = (3, 0, σ) by simp [f_skip, opn, ixB_yes hj, ixN_nI hj, hb11, ixN_n (show m < 2147483648 by omega), hs29]) (fun z => absurd z (by decide)) (hm30) (hM) (fun y hy => (((k26 y (by omega)).trans (k20 y (by omega))).trans (k3 y (by omega))))⟩
    · refine r_iconst h (v := nI 1) (by decide) dX4_skip_20 ?_
      refine r_goto h 25 dX4_skip_21 (by decide) ?_
      refine r_iconst h (v := nI 2) (by decide) dX4_skip_25 ?_
      refine r_cV h k_X4_59 (i := 33) (As := [.int (nI 1), .int (nI 2)]) (rest := []) (c_X4_isThrown h.i h.t hm7 (nI 1) (nI 2) (nI 2) (by decide) (by decide)) (by omega) hm7.o rfl rfl rfl (Nat.le_of_ble_eq_true rfl) ⟨by decide, by decide, by decide, by decide⟩ dX4_skip_26 (fun _ z => z.elim) (fun v15 c12 p16 => ?_)
      obtain ⟨r, rfl, rfl, hm13, k14⟩ := p16
      refine rn_if_ne h (a := 1) (by omega) 41 dX4_skip_29 (by decide) (fun u17 => ?_) (fun u17 => ?_)
      · refine r_iconst h (v := nI 0) (by decide) dX4_skip_41 ?_
        exact r_iret h hQ hr dX4_skip_42 ⟨by decide, by decide⟩ ⟨_, rfl, mQ.of (show f_skip σ (nI j) m0 = (2, 0, σ) by simp [f_skip, opn, ixB_yes hj, ixN_nI hj, hb11]) (fun z => absurd z (by decide)) (hm13) (hM) (fun y hy => ((k14 y (by omega)).trans (k3 y (by omega))))⟩
      · exact absurd u17 (by decide)
set_option maxRecDepth 100000 in
set_option maxHeartbeats 4000000 in
/-- X4_alike -/
theorem c_X4_alike {G : GG} {l : Launch} {c : CC} (hG : InjG G) (hl0 : l.stackTraces = false) {σ : St} {th : Int32} (hm : Mdl G c σ th) (hB : Bnd σ) (hM : okM σ) (x y : Int32) : MC G l yX4_alike (.code yX4_alike cX4_alike 6 (some .int) :: gws) (rmF 2 0 0 49) [.ref (G.1 33), .int x, .int y] c (pI (mQ G c (f_alike σ x y))) (pF) := by
  refine MC.of (by decide) hl0 hG (Nat.le_of_ble_eq_true rfl) (fun X hX h hN hQ hr => ?_)
  subst hX
  refine r_aload_n h 0 rfl rfl dX4_alike_0 ?_
  refine r_iload_n h 1 rfl rfl dX4_alike_1 ?_
  refine r_cV h k_X4_63 (i := 33) (As := [.int x]) (rest := []) (c_X4_isNo h.i h.t hm x) (by omega) hm.o rfl rfl rfl (Nat.le_of_ble_eq_true rfl) ⟨by decide, by decide, by decide, by decide⟩ dX4_alike_2 (fun _ z => z.elim) (fun v4 c1 p5 => ?_)
  obtain ⟨r, rfl, rfl, hm2, k3⟩ := p5
  refine rb_if_ne h 52 dX4_alike_5 (by decide) (fun u6 => ?_) (fun u6 => ?_)
  · have hm7 : Mdl G c1 σ (nI 1) := by rw [if_pos u6] at hm2; exact hm2
    refine r_iconst h (v := nI 0) (by decide) dX4_alike_52 ?_
    exact r_iret h hQ hr dX4_alike_53 ⟨by decide, by decide⟩ ⟨_, rfl, mQ.of (show f_alike σ x y = (1, 0, σ) by simp [f_alike, opn, u6]) (fun z => absurd z (by decide)) (hm7) (hM) (fun y hy => (k3 y (by omega)))⟩
  · have hm7 : Mdl G c1 σ (nI 0) := by rw [if_neg u6] at hm2; exact hm2
    obtain ⟨j, hj, rfl⟩ := ixB_ix u6
    refine r_aload_n h 0 rfl rfl dX4_alike_8 ?_
    refine r_iload_n h 2 rfl rfl dX4_alike_9 ?_
    refine r_cV h k_X4_63 (i := 33) (As := [.int y]) (rest := []) (c_X4_isNo h.i h.t hm7 y) (by omega) hm7.o rfl rfl rfl (Nat.le_of_ble_eq_true rfl) ⟨by decide, by decide, by decide, by decide⟩ dX4_alike_10 (fun _ z => z.elim) (fun v11 c8 p12 => ?_)
    obtain ⟨r, rfl, rfl, hm9, k10⟩ := p12
    refine rb_if_ne h 52 dX4_alike_13 (by decide) (fun u13 => ?_) (fun u13 => ?_)
    · have hm14 : Mdl G c8 σ (nI 1) := by rw [if_pos u13] at hm9; exact hm9
      refine r_iconst h (v := nI 0) (by decide) dX4_alike_52 ?_
      exact r_iret h hQ hr dX4_alike_53 ⟨by decide, by decide⟩ ⟨_, rfl, mQ.of (show f_alike σ (nI j) y = (1, 0, σ) by simp [f_alike, opn, ixB_yes hj, ixN_nI hj, u13]) (fun z => absurd z (by decide)) (hm14) (hM) (fun y hy => ((k10 y (by omega)).trans (k3 y (by omega))))⟩
    · have hm14 : Mdl G c8 σ (nI 0) := by rw [if_neg u13] at hm9; exact hm9
      obtain ⟨i, hi, rfl⟩ := ixB_ix u13
      refine r_aload_n h 0 rfl rfl dX4_alike_16 ?_
      refine r_iload_n h 1 rfl rfl dX4_alike_17 ?_
      refine r_iload_n h 2 rfl rfl dX4_alike_18 ?_
      refine rn_icmp_ne h (a := j) (b := i) (by omega) (by omega) 26 dX4_alike_19 (by decide) (fun ne15 => ?_) (fun ne15 => ?_)
      · have hne : ¬ nI j = nI i := fun z => ne15 ((nI_eq_iff hj hi).mp z)
        refine r_iconst h (v := nI 0) (by decide) dX4_alike_26 ?_
        refine r_iconst h (v := nI 2) (by decide) dX4_alike_27 ?_
        refine r_cV h k_X4_59 (i := 33) (As := [.int (nI 0), .int (nI 2)]) (rest := []) (c_X4_isThrown h.i h.t hm14 (nI 0) (nI 2) (nI 0) (by decide) (by decide)) (by omega) hm14.o rfl rfl rfl (Nat.le_of_ble_eq_true rfl) ⟨by decide, by decide, by decide, by decide⟩ dX4_alike_28 (fun _ z => z.elim) (fun v25 c22 p26 => ?_)
        obtain ⟨r, rfl, rfl, hm23, k24⟩ := p26
        refine rn_if_ne h (a := 0) (by omega) 52 dX4_alike_31 (by decide) (fun u27 => ?_) (fun u27 => ?_)
        · exact absurd u27 (by decide)
        · refine r_aload_n h 0 rfl rfl dX4_alike_34 ?_
          refine r_iload_n h 1 rfl rfl dX4_alike_35 ?_
          refine r_iconst h (v := nI 3) (by decide) dX4_alike_36 ?_
          refine r_cV h k_X4_108 (i := 33) (As := [.int (nI j), .int (nI 3)]) (rest := []) (c_X4_isShut h.i h.t hm23 hj (nI 3)) (by omega) hm23.o rfl rfl rfl (Nat.le_of_ble_eq_true rfl) ⟨by decide, by decide, by decide, by decide⟩ dX4_alike_37 (fun _ z => z.elim) (fun v31 c28 p32 => ?_)
          obtain ⟨r, rfl, rfl, hm29, k30⟩ := p32
          refine rb_if_ne h 52 dX4_alike_40 (by decide) (fun hs33 => ?_) (fun hs33 => ?_)
          · have hm34 : Mdl G c28 σ (nI 3) := by rw [if_pos hs33] at hm29; exact hm29
            refine r_iconst h (v := nI 0) (by decide) dX4_alike_52 ?_
            exact r_iret h hQ hr dX4_alike_53 ⟨by decide, by decide⟩ ⟨_, rfl, mQ.of (show f_alike σ (nI j) (nI i) = (3, 0, σ) by simp [f_alike, opn, ixB_yes hj, ixN_nI hj, ixB_yes hi, ixN_nI hi, hne, hs33]) (fun z => absurd z (by decide)) (hm34) (hM) (fun y hy => ((((k30 y (by omega)).trans (k24 y (by omega))).trans (k10 y (by omega))).trans (k3 y (by omega))))⟩
          · have hm34 : Mdl G c28 σ (nI 0) := by rw [if_neg hs33] at hm29; exact hm29
            refine r_aload_n h 0 rfl rfl dX4_alike_43 ?_
            refine r_iload_n h 2 rfl rfl dX4_alike_44 ?_
            refine r_iconst h (v := nI 3) (by decide) dX4_alike_45 ?_
            refine r_cV h k_X4_108 (i := 33) (As := [.int (nI i), .int (nI 3)]) (rest := []) (c_X4_isShut h.i h.t hm34 hi (nI 3)) (by omega) hm34.o rfl rfl rfl (Nat.le_of_ble_eq_true rfl) ⟨by decide, by decide, by decide, by decide⟩ dX4_alike_46 (fun _ z => z.elim) (fun v38 c35 p39 => ?_)
            obtain ⟨r, rfl, rfl, hm36, k37⟩ := p39
            refine rb_if_eq h 54 dX4_alike_49 (by decide) (fun hs40 => ?_) (fun hs40 => ?_)
            · have hm41 : Mdl G c35 σ (nI 0) := by rw [if_neg hs40] at hm36; exact hm36
              have hosa := (hB.2.2 j hj).1
              have hosb := (hB.2.2 i hi).1
              have hOa := (hB.2.2 j hj).2.1
              have hPa : sP (σ.2.2 j) ≤ (sO (σ.2.2 j)).length := hosa.1
              have hm8 : Mdl G c35 (stT (stT σ i (σ.2.2 i)) j (σ.2.2 j)) (nI 0) := hm41.eq (by rw [stT_id, stT_id])
              have hoa := hosa
              have hob := hosb
              refine r_iconst h (v := nI 0) (by decide) dX4_alike_54 ?_
              refine r_istore_n h ([(3, .int (nI 0)), (0, .ref (G.1 33)), (1, .int (nI j)), (2, .int (nI i))]) rfl dX4_alike_55 (by decide) rfl ?_
              refine r_aload_n h 1 rfl rfl dX4_alike_56 ?_
              refine r_iload_n h 2 rfl rfl dX4_alike_57 ?_
              refine r_cV h k_X4_112 (i := 33) (As := [.int (nI j)]) (rest := []) (c_X4_passes h.i h.t hj (σ := (stT σ i ((σ.2.2 i)))) (t := (σ.2.2 j)) hm8 (hoa)) (by omega) hm8.o rfl rfl rfl (Nat.le_of_ble_eq_true rfl) ⟨by decide, by decide, by decide, by decide⟩ dX4_alike_58 (fun _ z => z.elim) (fun v45 c42 p46 => ?_)
              obtain ⟨r, rfl, rfl, hm43, k44⟩ := p46
              have hm43 : Mdl G c42 (stT (stT σ j (pNx ((σ.2.2 j)))) i ((σ.2.2 i))) (nI 0) := hm43.eq (stT_comm σ (fun z => ne15 z.symm) _ _)
              refine r_istore h ([(4, .int (nxA ((σ.2.2 j)))), (3, .int (nI 0)), (0, .ref (G.1 33)), (1, .int (nI j)), (2, .int (nI i))]) dX4_alike_61 (by decide) rfl ?_
              refine r_aload_n h 2 rfl rfl dX4_alike_63 ?_
              refine r_iload_n h 4 rfl rfl dX4_alike_64 ?_
              refine r_cV h k_X4_112 (i := 33) (As := [.int (nI i)]) (rest := []) (c_X4_passes h.i h.t hi (σ := (stT σ j (pNx ((σ.2.2 j))))) (t := (σ.2.2 i)) hm43 (hob)) (by omega) hm43.o rfl rfl rfl (Nat.le_of_ble_eq_true rfl) ⟨by decide, by decide, by decide, by decide⟩ dX4_alike_65 (fun _ z => z.elim) (fun v50 c47 p51 => ?_)
              obtain ⟨r, rfl, rfl, hm48, k49⟩ := p51
              refine r_istore h ([(5, .int (nxA ((σ.2.2 i)))), (4, .int (nxA ((σ.2.2 j)))), (3, .int (nI 0)), (0, .ref (G.1 33)), (1, .int (nI j)), (2, .int (nI i))]) dX4_alike_68 (by decide) rfl ?_
              have loop : ∀ (q s : Nat) (a b : Stm) (c1 : CC), (sO a).length - sP a + 1 ≤ q → okS a → okS b → alk ((sO (σ.2.2 j)).length - sP (σ.2.2 j)) 0 (σ.2.2 j) (σ.2.2 i) = alk ((sO a).length - sP a) s a b → (∀ z : Nat × Int32, sX a = some z → canM (sK a) = true) → (∀ z : Nat × Int32, sX b = some z → canM (sK b) = true) → Mdl G c1 (stT (stT σ j (pNx a)) i (pNx b)) (nI 0) → (∀ y : Nat, y < 33 ∨ 47 ≤ y → c1 y = c y) → V G X c1 [(0, .ref (G.1 33)), (1, .int (nI j)), (2, .int (nI i)), (3, .int (nI s)), (4, .int (nxA a)), (5, .int (nxA b))] (0) (0) 70 [] := by
                intro q
                induction q with
                | zero => intro s a b c1 a1; exact absurd a1 (by omega)
                | succ q ih =>
                  intro s a b c1 a1 hoa0 hob0 a2 x1 x2 m1 k1
                  have hPa0 : sP a ≤ (sO a).length := hoa0.1
                  rcases Nat.eq_zero_or_pos ((sO a).length - sP a) with h0 | hpos
                  · have hend := nx_end (t := a) (by omega)
                    rw [hend.1]
                    refine r_iload h 4 rfl dX4_alike_70 ?_
                    refine r_iconst h (v := -1) (by decide) dX4_alike_72 ?_
                    refine r_icmp_eq h 103 dX4_alike_73 (by decide) (fun v52 => ?_) (fun v52 => ?_)
                    · have y1 := x1
                      have y2 : ∀ z : Nat × Int32, sX (pNx b) = some z → canM (sK (pNx b)) = true := fun z e => by rw [pNx_X] at e; rw [pNx_K]; exact x2 z e
                      rw [hend.2] at m1
                      have hR : alk ((sO (σ.2.2 j)).length - sP (σ.2.2 j)) 0 (σ.2.2 j) (σ.2.2 i) = (s, a, pNx b) := by rw [a2, h0]; rfl
                      refine r_iload_n h 3 rfl rfl dX4_alike_103 ?_
                      exact r_iret h hQ hr dX4_alike_104 ⟨by decide, by decide⟩ ⟨_, rfl, mQ.of (show f_alike σ (nI j) (nI i) = (0, nI s, stT (stT σ j (a)) i (pNx b)) by simp [f_alike, opn, ixB_yes hj, ixN_nI hj, ixB_yes hi, ixN_nI hi, hne, hs33, hs40, hR]) (fun _ => rfl) (m1) ((hM.set (fun _ => y1)).set (fun _ => y2)) (fun y hy => (k1 y (by omega)))⟩
                    · exact absurd rfl v52
                  · obtain ⟨r, hr9⟩ : ∃ r, (sO a).length - sP a = r + 1 := ⟨(sO a).length - sP a - 1, by omega⟩
                    have hlt : sP a < (sO a).length := by omega
                    rw [hr9, alk_s] at a2
                    have hne1 : ¬ nxA a = -1 := by unfold nxA; rw [if_pos hlt]; exact allB_ne hoa0.2.1 hlt
                    have y1 : ∀ z : Nat × Int32, sX (pNx a) = some z → canM (sK (pNx a)) = true := fun z e => by rw [pNx_X] at e; rw [pNx_K]; exact x1 z e
                    have y2 : ∀ z : Nat × Int32, sX (pNx b) = some z → canM (sK (pNx b)) = true := fun z e => by rw [pNx_X] at e; rw [pNx_K]; exact x2 z e
                    refine r_iload h 4 rfl dX4_alike_70 ?_
                    refine r_iconst h (v := -1) (by decide) dX4_alike_72 ?_
                    refine r_icmp_eq h 103 dX4_alike_73 (by decide) (fun v53 => ?_) (fun v53 => ?_)
                    · exact absurd v53 hne1
                    · refine r_iload h 4 rfl dX4_alike_76 ?_
                      refine r_iload h 5 rfl dX4_alike_78 ?_
                      refine r_icmp_ne h 103 dX4_alike_80 (by decide) (fun v54 => ?_) (fun v54 => ?_)
                      · have hR : alk ((sO (σ.2.2 j)).length - sP (σ.2.2 j)) 0 (σ.2.2 j) (σ.2.2 i) = (s, pNx a, pNx b) := by rw [a2, if_neg v54]
                        refine r_iload_n h 3 rfl rfl dX4_alike_103 ?_
                        exact r_iret h hQ hr dX4_alike_104 ⟨by decide, by decide⟩ ⟨_, rfl, mQ.of (show f_alike σ (nI j) (nI i) = (0, nI s, stT (stT σ j (pNx a)) i (pNx b)) by simp [f_alike, opn, ixB_yes hj, ixN_nI hj, ixB_yes hi, ixN_nI hi, hne, hs33, hs40, hR]) (fun _ => rfl) (m1) ((hM.set (fun _ => y1)).set (fun _ => y2)) (fun y hy => (k1 y (by omega)))⟩
                      · rw [if_pos v54] at a2
                        have hoa := okS_nx hoa0
                        have hob := okS_nx hob0
                        have m1 : Mdl G c1 (stT (stT σ i (pNx b)) j (pNx a)) (nI 0) := m1.eq (stT_comm σ (fun z => ne15 z) _ _)
                        refine r_iinc h 3 ([(3, .int (nI (s + 1))), (0, .ref (G.1 33)), (1, .int (nI j)), (2, .int (nI i)), (4, .int (nxA a)), (5, .int (nxA b))]) rfl (inc_1 (s)) dX4_alike_83 (by decide) rfl ?_
                        refine r_aload_n h 1 rfl rfl dX4_alike_86 ?_
                        refine r_iload_n h 2 rfl rfl dX4_alike_87 ?_
                        refine r_cV h k_X4_112 (i := 33) (As := [.int (nI j)]) (rest := []) (c_X4_passes h.i h.t hj (σ := (stT σ i (pNx b))) (t := pNx a) m1 (hoa)) (by omega) m1.o rfl rfl rfl (Nat.le_of_ble_eq_true rfl) ⟨by decide, by decide, by decide, by decide⟩ dX4_alike_88 (fun _ z => z.elim) (fun v58 c55 p59 => ?_)
                        obtain ⟨r, rfl, rfl, hm56, k57⟩ := p59
                        have hm56 : Mdl G c55 (stT (stT σ j (pNx (pNx a))) i (pNx b)) (nI 0) := hm56.eq (stT_comm σ (fun z => ne15 z.symm) _ _)
                        refine r_istore h ([(4, .int (nxA (pNx a))), (3, .int (nI (s + 1))), (0, .ref (G.1 33)), (1, .int (nI j)), (2, .int (nI i)), (5, .int (nxA b))]) dX4_alike_91 (by decide) rfl ?_
                        refine r_aload_n h 2 rfl rfl dX4_alike_93 ?_
                        refine r_iload_n h 4 rfl rfl dX4_alike_94 ?_
                        refine r_cV h k_X4_112 (i := 33) (As := [.int (nI i)]) (rest := []) (c_X4_passes h.i h.t hi (σ := (stT σ j (pNx (pNx a)))) (t := pNx b) hm56 (hob)) (by omega) hm56.o rfl rfl rfl (Nat.le_of_ble_eq_true rfl) ⟨by decide, by decide, by decide, by decide⟩ dX4_alike_95 (fun _ z => z.elim) (fun v63 c60 p64 => ?_)
                        obtain ⟨r, rfl, rfl, hm61, k62⟩ := p64
                        refine r_istore h ([(5, .int (nxA (pNx b))), (4, .int (nxA (pNx a))), (3, .int (nI (s + 1))), (0, .ref (G.1 33)), (1, .int (nI j)), (2, .int (nI i))]) dX4_alike_98 (by decide) rfl ?_
                        refine r_goto h 70 dX4_alike_100 (by decide) ?_
                        refine V_lv [3, 4, 5, 2, 1, 0] rfl ?_
                        exact ih (s + 1) (pNx a) (pNx b) _ (by rw [pNx_O, pNx_P hlt]; omega) hoa hob (by rw [a2, pNx_O, pNx_P hlt, show (sO a).length - (sP a + 1) = r by omega]) y1 y2 hm61 (fun y hy => (((k62 y (by omega) (by omega) (by omega)).trans (k57 y (by omega) (by omega) (by omega))).trans (k1 y (by omega))))
              refine V_lv [3, 4, 5, 2, 1, 0] rfl ?_
              exact loop _ 0 (σ.2.2 j) (σ.2.2 i) c47 (Nat.le_refl _) hosa hosb rfl (hM j hj) (hM i hi) hm48 (fun y hy => (((((((k49 y (by omega) (by omega) (by omega)).trans (k44 y (by omega) (by omega) (by omega))).trans (k37 y (by omega))).trans (k30 y (by omega))).trans (k24 y (by omega))).trans (k10 y (by omega))).trans (k3 y (by omega))))
            · have hm41 : Mdl G c35 σ (nI 3) := by rw [if_pos hs40] at hm36; exact hm36
              refine r_iconst h (v := nI 0) (by decide) dX4_alike_52 ?_
              exact r_iret h hQ hr dX4_alike_53 ⟨by decide, by decide⟩ ⟨_, rfl, mQ.of (show f_alike σ (nI j) (nI i) = (3, 0, σ) by simp [f_alike, opn, ixB_yes hj, ixN_nI hj, ixB_yes hi, ixN_nI hi, hne, hs33, hs40]) (fun z => absurd z (by decide)) (hm41) (hM) (fun y hy => (((((k37 y (by omega)).trans (k30 y (by omega))).trans (k24 y (by omega))).trans (k10 y (by omega))).trans (k3 y (by omega))))⟩
      · have ne15 : nI j = nI i := by rw [ne15]
        refine r_iconst h (v := nI 1) (by decide) dX4_alike_22 ?_
        refine r_goto h 27 dX4_alike_23 (by decide) ?_
        refine r_iconst h (v := nI 2) (by decide) dX4_alike_27 ?_
        refine r_cV h k_X4_59 (i := 33) (As := [.int (nI 1), .int (nI 2)]) (rest := []) (c_X4_isThrown h.i h.t hm14 (nI 1) (nI 2) (nI 2) (by decide) (by decide)) (by omega) hm14.o rfl rfl rfl (Nat.le_of_ble_eq_true rfl) ⟨by decide, by decide, by decide, by decide⟩ dX4_alike_28 (fun _ z => z.elim) (fun v19 c16 p20 => ?_)
        obtain ⟨r, rfl, rfl, hm17, k18⟩ := p20
        refine rn_if_ne h (a := 1) (by omega) 52 dX4_alike_31 (by decide) (fun u21 => ?_) (fun u21 => ?_)
        · refine r_iconst h (v := nI 0) (by decide) dX4_alike_52 ?_
          exact r_iret h hQ hr dX4_alike_53 ⟨by decide, by decide⟩ ⟨_, rfl, mQ.of (show f_alike σ (nI j) (nI i) = (2, 0, σ) by simp [f_alike, opn, ixB_yes hj, ixN_nI hj, ixB_yes hi, ixN_nI hi, ne15]) (fun z => absurd z (by decide)) (hm17) (hM) (fun y hy => (((k18 y (by omega)).trans (k10 y (by omega))).trans (k3 y (by omega))))⟩
        · exact absurd u21 (by decide)
