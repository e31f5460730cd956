/-! THE LAW: cases 10 to 19 -/
theorem f_readPart_le (σ : St) (p0 p1 : Int32) : (f_readPart σ p0 p1).1 < 4 := by
  unfold f_readPart opn
  (repeat' split) <;> (try dsimp only) <;> (repeat' split) <;> exact Nat.le_of_ble_eq_true rfl
set_option maxRecDepth 100000 in
set_option maxHeartbeats 4000000 in
theorem law_10 {G : GG} {X : CX} (h : Ok G X RL cL_law 9 room_1) {b L : Nat} {scr : Nat → Int32} (hS : Scr G X b L scr) {c : CC} {σ : St} (hI : LI G c σ) {i k n : Nat} (hi : i + 5 ≤ L) (hk : k + 8 ≤ 603072) (hn : n + 48 ≤ 7223402) (next : ∀ (c' : CC) (σ' : St), LI G c' σ' → V G X c' [(0, .ref b), (1, .ref (G.1 0)), (2, .ref (G.1 33)), (3, .ref (G.1 47)), (4, .ref (G.1 48)), (5, .int (nI i))] (k + 8) (n + 48) 1923 []) : V G X c [(0, .ref b), (1, .ref (G.1 0)), (2, .ref (G.1 33)), (3, .ref (G.1 47)), (4, .ref (G.1 48)), (5, .int (nI i))] k n 824 [] := by
  refine r_aload_n h 1 rfl rfl dL_law_824 ?_
  refine r_aload_n h 0 rfl rfl dL_law_825 ?_
  refine r_iload h 5 rfl dL_law_826 ?_
  refine r_iconst h (v := nI 1) (by decide) dL_law_828 ?_
  refine r_iadd h (nI_add i 1) dL_law_829 ?_
  refine r_sld h hS (x := i + 1) (by omega) dL_law_830 ?_
  refine r_aload_n h 0 rfl rfl dL_law_831 ?_
  refine r_iload h 5 rfl dL_law_832 ?_
  refine r_iconst h (v := nI 2) (by decide) dL_law_834 ?_
  refine r_iadd h (nI_add i 2) dL_law_835 ?_
  refine r_sld h hS (x := i + 2) (by omega) dL_law_836 ?_
  refine r_aload_n h 3 rfl rfl dL_law_837 ?_
  have hle : (f_readPart σ (scr (i + 1)) (scr (i + 2))).1 < 4 := f_readPart_le σ (scr (i + 1)) (scr (i + 2))
  obtain ⟨fo, ho⟩ := hI.2.2.2.1
  refine r_cW h k_L_154 (As := [.ref (G.1 0), .int (scr (i + 1)), .int (scr (i + 2)), .ref (G.1 47)]) (rest := []) (c_L_readPart h.i h.t hI.1 ho (scr (i + 1)) (scr (i + 2))) rfl rfl (Nat.le_of_ble_eq_true rfl) ⟨by decide, by decide, hk, hn⟩ dL_law_838 (fun _ z => z.elim) (fun v1 c1 p1 => ?_)
  obtain ⟨r1, rfl, hw⟩ := p1
  have hr1 := hw.1
  subst hr1
  obtain ⟨th, hm⟩ := hI.mdl (Or.inl rfl) hw
  refine r_istore h ([(6, .int (nI (f_readPart σ (scr (i + 1)) (scr (i + 2))).1)), (0, .ref b), (1, .ref (G.1 0)), (2, .ref (G.1 33)), (3, .ref (G.1 47)), (4, .ref (G.1 48)), (5, .int (nI i))]) dL_law_841 (by decide) rfl ?_
  refine r_aload_n h 3 rfl rfl dL_law_843 ?_
  refine r_aload_n h 1 rfl rfl dL_law_844 ?_
  refine r_iload h 6 rfl dL_law_845 ?_
  refine r_iconst h (v := nI 1) (by decide) dL_law_847 ?_
  refine r_iadd h (nI_add i 1) dL_law_848 ?_
  refine r_sld h hS (x := i + 1) (by omega) dL_law_849 ?_
  refine r_aload_n h 1 rfl rfl dL_law_850 ?_
  refine r_iload h 6 rfl dL_law_851 ?_
  refine r_iconst h (v := nI 2) (by decide) dL_law_853 ?_
  refine r_iadd h (nI_add i 2) dL_law_854 ?_
  refine r_sld h hS (x := i + 2) (by omega) dL_law_855 ?_
  refine r_cV h k_L_156 (i := 33) (As := [.int (scr (i + 1)), .int (scr (i + 2))]) (rest := []) (c_X4_readPart h.i h.t hm hI.1.bnd hI.2.2.1 (scr (i + 1)) (scr (i + 2))) (by omega) hm.o rfl rfl rfl (Nat.le_of_ble_eq_true rfl) ⟨by decide, by decide, hk, hn⟩ dL_law_856 (fun _ z => z.elim) (fun v2 c2 p2 => ?_)
  obtain ⟨r2, rfl, hq⟩ := p2
  have hN := hI.next hw hq
  refine r_istore h ([(7, .int r2), (6, .int (nI (f_readPart σ (scr (i + 1)) (scr (i + 2))).1)), (0, .ref b), (1, .ref (G.1 0)), (2, .ref (G.1 33)), (3, .ref (G.1 47)), (4, .ref (G.1 48)), (5, .int (nI i))]) dL_law_859 (by decide) rfl ?_
  refine r_aload_n h 4 rfl rfl dL_law_861 ?_
  refine r_cV h k_L_120 (i := 33) (As := []) (rest := []) (c_X4_thrown h.i h.t hq.2.1) (by omega) hq.2.1.o rfl rfl rfl (Nat.le_of_ble_eq_true rfl) ⟨by decide, by decide, hk, hn⟩ dL_law_862 (fun _ z => z.elim) (fun v3 c3 p3 => ?_)
  obtain ⟨r3, rfl, rfl, rfl⟩ := p3
  refine r_iload h 1 rfl dL_law_865 ?_
  refine r_icmp_eq h 872 dL_law_867 (by decide) (fun _ => ?_) (fun z => absurd rfl z)
  refine r_iload h 1 rfl dL_law_872 ?_
  refine rn_if_ne h (a := (f_readPart σ (scr (i + 1)) (scr (i + 2))).1) (by omega) 889 dL_law_874 (by decide) (fun z => ?_) (fun z => ?_)
  · refine r_goto h 1923 dL_law_889 (by decide) ?_
    refine V_lv [2, 3, 4, 5, 6, 7] rfl ?_
    exact next _ _ hN
  · refine r_aload_n h 5 rfl rfl dL_law_877 ?_
    refine r_iconst h (v := nI 0) (by decide) dL_law_878 ?_
    obtain ⟨fo2, hfo, hv⟩ := (hw.2.2.1 z).keep (hq.2.2.2 47 (Or.inr (by omega)))
    refine r_lald h (i := 47) (by omega) hfo (x := 0) (by omega) (by decide) dL_law_879 ?_
    rw [hv, hq.1 z]
    refine r_iload h 0 rfl dL_law_880 ?_
    refine r_i2l h rfl dL_law_882 ?_
    refine r_lcmp h (lg0.mpr rfl) dL_law_883 ?_
    refine r_if_eq h 889 dL_law_884 (by decide) (fun _ => ?_) (fun z => absurd rfl z)
    refine r_goto h 1923 dL_law_889 (by decide) ?_
    refine V_lv [2, 3, 4, 5, 6, 7] rfl ?_
    exact next _ _ hN
set_option maxRecDepth 100000 in
set_option maxHeartbeats 4000000 in
theorem law_11 {G : GG} {X : CX} (h : Ok G X RL cL_law 9 room_1) {b L : Nat} {scr : Nat → Int32} (hS : Scr G X b L scr) {c : CC} {σ : St} (hI : LI G c σ) {i k n : Nat} (hi : i + 5 ≤ L) (hk : k + 8 ≤ 603072) (hn : n + 48 ≤ 7223402) (next : ∀ (c' : CC) (σ' : St), LI G c' σ' → V G X c' [(0, .ref b), (1, .ref (G.1 0)), (2, .ref (G.1 33)), (3, .ref (G.1 47)), (4, .ref (G.1 48)), (5, .int (nI i))] (k + 8) (n + 48) 1923 []) : V G X c [(0, .ref b), (1, .ref (G.1 0)), (2, .ref (G.1 33)), (3, .ref (G.1 47)), (4, .ref (G.1 48)), (5, .int (nI i))] k n 892 [] := by
  refine r_aload_n h 1 rfl rfl dL_law_892 ?_
  obtain ⟨th, hm⟩ := hI.2.1
  refine r_cV h k_L_157 (i := 0) (As := []) (rest := []) (c_X3_partLength h.i h.t hI.1) (by omega) hI.1.o rfl rfl rfl (Nat.le_of_ble_eq_true rfl) ⟨by decide, by decide, by show k + 0 ≤ 603072; omega, by show n + 0 ≤ 7223402; omega⟩ dL_law_893 (fun _ z => z.elim) (fun v1 c1 p1 => ?_)
  obtain ⟨r1, rfl, rfl, rfl⟩ := p1
  have hN := hI
  refine r_aload_n h 2 rfl rfl dL_law_896 ?_
  refine r_cV h k_L_160 (i := 33) (As := []) (rest := [.int (nI σ.2.1.length)]) (c_X4_partLength h.i h.t hm) (by omega) hm.o rfl rfl rfl (Nat.le_of_ble_eq_true rfl) ⟨by decide, by decide, by show k + 0 + 0 ≤ 603072; omega, by show n + 0 + 0 ≤ 7223402; omega⟩ dL_law_897 (fun _ z => z.elim) (fun v2 c2 p2 => ?_)
  obtain ⟨r2, rfl, rfl, rfl⟩ := p2
  refine r_icmp_eq h 1923 dL_law_900 (by decide) (fun _ => ?_) (fun z => absurd rfl z)
  exact V.widen (Nat.le_add_right k 8) (Nat.le_add_right n 48) (next _ _ hN)
theorem f_partAt_le (σ : St) (p0 : Int32) : (f_partAt σ p0).1 < 4 := by
  unfold f_partAt
  (repeat' split) <;> (try dsimp only) <;> (repeat' split) <;> exact Nat.le_of_ble_eq_true rfl
set_option maxRecDepth 100000 in
set_option maxHeartbeats 4000000 in
theorem law_12 {G : GG} {X : CX} (h : Ok G X RL cL_law 9 room_1) {b L : Nat} {scr : Nat → Int32} (hS : Scr G X b L scr) {c : CC} {σ : St} (hI : LI G c σ) {i k n : Nat} (hi : i + 5 ≤ L) (hk : k + 8 ≤ 603072) (hn : n + 48 ≤ 7223402) (next : ∀ (c' : CC) (σ' : St), LI G c' σ' → V G X c' [(0, .ref b), (1, .ref (G.1 0)), (2, .ref (G.1 33)), (3, .ref (G.1 47)), (4, .ref (G.1 48)), (5, .int (nI i))] (k + 8) (n + 48) 1923 []) : V G X c [(0, .ref b), (1, .ref (G.1 0)), (2, .ref (G.1 33)), (3, .ref (G.1 47)), (4, .ref (G.1 48)), (5, .int (nI i))] k n 905 [] := by
  refine r_aload_n h 1 rfl rfl dL_law_905 ?_
  refine r_aload_n h 0 rfl rfl dL_law_906 ?_
  refine r_iload h 5 rfl dL_law_907 ?_
  refine r_iconst h (v := nI 1) (by decide) dL_law_909 ?_
  refine r_iadd h (nI_add i 1) dL_law_910 ?_
  refine r_sld h hS (x := i + 1) (by omega) dL_law_911 ?_
  refine r_aload_n h 3 rfl rfl dL_law_912 ?_
  have hle : (f_partAt σ (scr (i + 1))).1 < 4 := f_partAt_le σ (scr (i + 1))
  obtain ⟨fo, ho⟩ := hI.2.2.2.1
  refine r_cW h k_L_161 (As := [.ref (G.1 0), .int (scr (i + 1)), .ref (G.1 47)]) (rest := []) (c_L_partAt h.i h.t hI.1 ho (scr (i + 1))) rfl rfl (Nat.le_of_ble_eq_true rfl) ⟨by decide, by decide, hk, hn⟩ dL_law_913 (fun _ z => z.elim) (fun v1 c1 p1 => ?_)
  obtain ⟨r1, rfl, hw⟩ := p1
  have hr1 := hw.1
  subst hr1
  obtain ⟨th, hm⟩ := hI.mdl (Or.inl rfl) hw
  refine r_istore h ([(6, .int (nI (f_partAt σ (scr (i + 1))).1)), (0, .ref b), (1, .ref (G.1 0)), (2, .ref (G.1 33)), (3, .ref (G.1 47)), (4, .ref (G.1 48)), (5, .int (nI i))]) dL_law_916 (by decide) rfl ?_
  refine r_aload_n h 3 rfl rfl dL_law_918 ?_
  refine r_aload_n h 1 rfl rfl dL_law_919 ?_
  refine r_iload h 6 rfl dL_law_920 ?_
  refine r_iconst h (v := nI 1) (by decide) dL_law_922 ?_
  refine r_iadd h (nI_add i 1) dL_law_923 ?_
  refine r_sld h hS (x := i + 1) (by omega) dL_law_924 ?_
  refine r_cV h k_L_163 (i := 33) (As := [.int (scr (i + 1))]) (rest := []) (c_X4_partAt h.i h.t hm hI.1.bnd hI.2.2.1 (scr (i + 1))) (by omega) hm.o rfl rfl rfl (Nat.le_of_ble_eq_true rfl) ⟨by decide, by decide, hk, hn⟩ dL_law_925 (fun _ z => z.elim) (fun v2 c2 p2 => ?_)
  obtain ⟨r2, rfl, hq⟩ := p2
  have hN := hI.next hw hq
  refine r_istore h ([(7, .int r2), (6, .int (nI (f_partAt σ (scr (i + 1))).1)), (0, .ref b), (1, .ref (G.1 0)), (2, .ref (G.1 33)), (3, .ref (G.1 47)), (4, .ref (G.1 48)), (5, .int (nI i))]) dL_law_928 (by decide) rfl ?_
  refine r_aload_n h 4 rfl rfl dL_law_930 ?_
  refine r_cV h k_L_120 (i := 33) (As := []) (rest := []) (c_X4_thrown h.i h.t hq.2.1) (by omega) hq.2.1.o rfl rfl rfl (Nat.le_of_ble_eq_true rfl) ⟨by decide, by decide, hk, hn⟩ dL_law_931 (fun _ z => z.elim) (fun v3 c3 p3 => ?_)
  obtain ⟨r3, rfl, rfl, rfl⟩ := p3
  refine r_iload h 1 rfl dL_law_934 ?_
  refine r_icmp_eq h 941 dL_law_936 (by decide) (fun _ => ?_) (fun z => absurd rfl z)
  refine r_iload h 1 rfl dL_law_941 ?_
  refine rn_if_ne h (a := (f_partAt σ (scr (i + 1))).1) (by omega) 958 dL_law_943 (by decide) (fun z => ?_) (fun z => ?_)
  · refine r_goto h 1923 dL_law_958 (by decide) ?_
    refine V_lv [2, 3, 4, 5, 6, 7] rfl ?_
    exact next _ _ hN
  · refine r_aload_n h 5 rfl rfl dL_law_946 ?_
    refine r_iconst h (v := nI 0) (by decide) dL_law_947 ?_
    obtain ⟨fo2, hfo, hv⟩ := (hw.2.2.1 z).keep (hq.2.2.2 47 (Or.inr (by omega)))
    refine r_lald h (i := 47) (by omega) hfo (x := 0) (by omega) (by decide) dL_law_948 ?_
    rw [hv, hq.1 z]
    refine r_iload h 0 rfl dL_law_949 ?_
    refine r_i2l h rfl dL_law_951 ?_
    refine r_lcmp h (lg0.mpr rfl) dL_law_952 ?_
    refine r_if_eq h 958 dL_law_953 (by decide) (fun _ => ?_) (fun z => absurd rfl z)
    refine r_goto h 1923 dL_law_958 (by decide) ?_
    refine V_lv [2, 3, 4, 5, 6, 7] rfl ?_
    exact next _ _ hN
theorem f_skip_le (σ : St) (p0 p1 : Int32) : (f_skip σ p0 p1).1 < 4 := by
  unfold f_skip opn
  (repeat' split) <;> (try dsimp only) <;> (repeat' split) <;> exact Nat.le_of_ble_eq_true rfl
set_option maxRecDepth 100000 in
set_option maxHeartbeats 4000000 in
theorem law_13 {G : GG} {X : CX} (h : Ok G X RL cL_law 9 room_1) {b L : Nat} {scr : Nat → Int32} (hS : Scr G X b L scr) {c : CC} {σ : St} (hI : LI G c σ) {i k n : Nat} (hi : i + 5 ≤ L) (hk : k + 8 ≤ 603072) (hn : n + 48 ≤ 7223402) (next : ∀ (c' : CC) (σ' : St), LI G c' σ' → V G X c' [(0, .ref b), (1, .ref (G.1 0)), (2, .ref (G.1 33)), (3, .ref (G.1 47)), (4, .ref (G.1 48)), (5, .int (nI i))] (k + 8) (n + 48) 1923 []) : V G X c [(0, .ref b), (1, .ref (G.1 0)), (2, .ref (G.1 33)), (3, .ref (G.1 47)), (4, .ref (G.1 48)), (5, .int (nI i))] k n 961 [] := by
  refine r_aload_n h 1 rfl rfl dL_law_961 ?_
  refine r_aload_n h 0 rfl rfl dL_law_962 ?_
  refine r_iload h 5 rfl dL_law_963 ?_
  refine r_iconst h (v := nI 1) (by decide) dL_law_965 ?_
  refine r_iadd h (nI_add i 1) dL_law_966 ?_
  refine r_sld h hS (x := i + 1) (by omega) dL_law_967 ?_
  refine r_aload_n h 0 rfl rfl dL_law_968 ?_
  refine r_iload h 5 rfl dL_law_969 ?_
  refine r_iconst h (v := nI 2) (by decide) dL_law_971 ?_
  refine r_iadd h (nI_add i 2) dL_law_972 ?_
  refine r_sld h hS (x := i + 2) (by omega) dL_law_973 ?_
  refine r_aload_n h 3 rfl rfl dL_law_974 ?_
  have hle : (f_skip σ (scr (i + 1)) (scr (i + 2))).1 < 4 := f_skip_le σ (scr (i + 1)) (scr (i + 2))
  obtain ⟨fo, ho⟩ := hI.2.2.2.1
  refine r_cW h k_L_164 (As := [.ref (G.1 0), .int (scr (i + 1)), .int (scr (i + 2)), .ref (G.1 47)]) (rest := []) (c_L_skip h.i h.t hI.1 ho (scr (i + 1)) (scr (i + 2))) rfl rfl (Nat.le_of_ble_eq_true rfl) ⟨by decide, by decide, hk, hn⟩ dL_law_975 (fun _ z => z.elim) (fun v1 c1 p1 => ?_)
  obtain ⟨r1, rfl, hw⟩ := p1
  have hr1 := hw.1
  subst hr1
  obtain ⟨th, hm⟩ := hI.mdl (Or.inl rfl) hw
  refine r_istore h ([(6, .int (nI (f_skip σ (scr (i + 1)) (scr (i + 2))).1)), (0, .ref b), (1, .ref (G.1 0)), (2, .ref (G.1 33)), (3, .ref (G.1 47)), (4, .ref (G.1 48)), (5, .int (nI i))]) dL_law_978 (by decide) rfl ?_
  refine r_aload_n h 3 rfl rfl dL_law_980 ?_
  refine r_aload_n h 1 rfl rfl dL_law_981 ?_
  refine r_iload h 6 rfl dL_law_982 ?_
  refine r_iconst h (v := nI 1) (by decide) dL_law_984 ?_
  refine r_iadd h (nI_add i 1) dL_law_985 ?_
  refine r_sld h hS (x := i + 1) (by omega) dL_law_986 ?_
  refine r_aload_n h 1 rfl rfl dL_law_987 ?_
  refine r_iload h 6 rfl dL_law_988 ?_
  refine r_iconst h (v := nI 2) (by decide) dL_law_990 ?_
  refine r_iadd h (nI_add i 2) dL_law_991 ?_
  refine r_sld h hS (x := i + 2) (by omega) dL_law_992 ?_
  refine r_cV h k_L_166 (i := 33) (As := [.int (scr (i + 1)), .int (scr (i + 2))]) (rest := []) (c_X4_skip h.i h.t hm hI.1.bnd hI.2.2.1 (scr (i + 1)) (scr (i + 2))) (by omega) hm.o rfl rfl rfl (Nat.le_of_ble_eq_true rfl) ⟨by decide, by decide, hk, hn⟩ dL_law_993 (fun _ z => z.elim) (fun v2 c2 p2 => ?_)
  obtain ⟨r2, rfl, hq⟩ := p2
  have hN := hI.next hw hq
  refine r_istore h ([(7, .int r2), (6, .int (nI (f_skip σ (scr (i + 1)) (scr (i + 2))).1)), (0, .ref b), (1, .ref (G.1 0)), (2, .ref (G.1 33)), (3, .ref (G.1 47)), (4, .ref (G.1 48)), (5, .int (nI i))]) dL_law_996 (by decide) rfl ?_
  refine r_aload_n h 4 rfl rfl dL_law_998 ?_
  refine r_cV h k_L_120 (i := 33) (As := []) (rest := []) (c_X4_thrown h.i h.t hq.2.1) (by omega) hq.2.1.o rfl rfl rfl (Nat.le_of_ble_eq_true rfl) ⟨by decide, by decide, hk, hn⟩ dL_law_999 (fun _ z => z.elim) (fun v3 c3 p3 => ?_)
  obtain ⟨r3, rfl, rfl, rfl⟩ := p3
  refine r_iload h 1 rfl dL_law_1002 ?_
  refine r_icmp_eq h 1009 dL_law_1004 (by decide) (fun _ => ?_) (fun z => absurd rfl z)
  refine r_iload h 1 rfl dL_law_1009 ?_
  refine rn_if_ne h (a := (f_skip σ (scr (i + 1)) (scr (i + 2))).1) (by omega) 1026 dL_law_1011 (by decide) (fun z => ?_) (fun z => ?_)
  · refine r_goto h 1923 dL_law_1026 (by decide) ?_
    refine V_lv [2, 3, 4, 5, 6, 7] rfl ?_
    exact next _ _ hN
  · refine r_aload_n h 5 rfl rfl dL_law_1014 ?_
    refine r_iconst h (v := nI 0) (by decide) dL_law_1015 ?_
    obtain ⟨fo2, hfo, hv⟩ := (hw.2.2.1 z).keep (hq.2.2.2 47 (Or.inr (by omega)))
    refine r_lald h (i := 47) (by omega) hfo (x := 0) (by omega) (by decide) dL_law_1016 ?_
    rw [hv, hq.1 z]
    refine r_iload h 0 rfl dL_law_1017 ?_
    refine r_i2l h rfl dL_law_1019 ?_
    refine r_lcmp h (lg0.mpr rfl) dL_law_1020 ?_
    refine r_if_eq h 1026 dL_law_1021 (by decide) (fun _ => ?_) (fun z => absurd rfl z)
    refine r_goto h 1923 dL_law_1026 (by decide) ?_
    refine V_lv [2, 3, 4, 5, 6, 7] rfl ?_
    exact next _ _ hN
theorem f_readLine_le (σ : St) (p0 p1 : Int32) : (f_readLine σ p0 p1).1 < 4 := by
  unfold f_readLine opn
  (repeat' split) <;> (try dsimp only) <;> (repeat' split) <;> exact Nat.le_of_ble_eq_true rfl
set_option maxRecDepth 100000 in
set_option maxHeartbeats 4000000 in
theorem law_14 {G : GG} {X : CX} (h : Ok G X RL cL_law 9 room_1) {b L : Nat} {scr : Nat → Int32} (hS : Scr G X b L scr) {c : CC} {σ : St} (hI : LI G c σ) {i k n : Nat} (hi : i + 5 ≤ L) (hk : k + 8 ≤ 603072) (hn : n + 48 ≤ 7223402) (next : ∀ (c' : CC) (σ' : St), LI G c' σ' → V G X c' [(0, .ref b), (1, .ref (G.1 0)), (2, .ref (G.1 33)), (3, .ref (G.1 47)), (4, .ref (G.1 48)), (5, .int (nI i))] (k + 8) (n + 48) 1923 []) : V G X c [(0, .ref b), (1, .ref (G.1 0)), (2, .ref (G.1 33)), (3, .ref (G.1 47)), (4, .ref (G.1 48)), (5, .int (nI i))] k n 1029 [] := by
  refine r_aload_n h 1 rfl rfl dL_law_1029 ?_
  refine r_aload_n h 0 rfl rfl dL_law_1030 ?_
  refine r_iload h 5 rfl dL_law_1031 ?_
  refine r_iconst h (v := nI 1) (by decide) dL_law_1033 ?_
  refine r_iadd h (nI_add i 1) dL_law_1034 ?_
  refine r_sld h hS (x := i + 1) (by omega) dL_law_1035 ?_
  refine r_aload_n h 0 rfl rfl dL_law_1036 ?_
  refine r_iload h 5 rfl dL_law_1037 ?_
  refine r_iconst h (v := nI 2) (by decide) dL_law_1039 ?_
  refine r_iadd h (nI_add i 2) dL_law_1040 ?_
  refine r_sld h hS (x := i + 2) (by omega) dL_law_1041 ?_
  refine r_aload_n h 3 rfl rfl dL_law_1042 ?_
  have hle : (f_readLine σ (scr (i + 1)) (scr (i + 2))).1 < 4 := f_readLine_le σ (scr (i + 1)) (scr (i + 2))
  obtain ⟨fo, ho⟩ := hI.2.2.2.1
  refine r_cW h k_L_167 (As := [.ref (G.1 0), .int (scr (i + 1)), .int (scr (i + 2)), .ref (G.1 47)]) (rest := []) (c_L_readLine h.i h.t hI.1 ho (scr (i + 1)) (scr (i + 2))) rfl rfl (Nat.le_of_ble_eq_true rfl) ⟨by decide, by decide, hk, hn⟩ dL_law_1043 (fun _ z => z.elim) (fun v1 c1 p1 => ?_)
  obtain ⟨r1, rfl, hw⟩ := p1
  have hr1 := hw.1
  subst hr1
  obtain ⟨th, hm⟩ := hI.mdl (Or.inl rfl) hw
  refine r_istore h ([(6, .int (nI (f_readLine σ (scr (i + 1)) (scr (i + 2))).1)), (0, .ref b), (1, .ref (G.1 0)), (2, .ref (G.1 33)), (3, .ref (G.1 47)), (4, .ref (G.1 48)), (5, .int (nI i))]) dL_law_1046 (by decide) rfl ?_
  refine r_aload_n h 3 rfl rfl dL_law_1048 ?_
  refine r_aload_n h 1 rfl rfl dL_law_1049 ?_
  refine r_iload h 6 rfl dL_law_1050 ?_
  refine r_iconst h (v := nI 1) (by decide) dL_law_1052 ?_
  refine r_iadd h (nI_add i 1) dL_law_1053 ?_
  refine r_sld h hS (x := i + 1) (by omega) dL_law_1054 ?_
  refine r_aload_n h 1 rfl rfl dL_law_1055 ?_
  refine r_iload h 6 rfl dL_law_1056 ?_
  refine r_iconst h (v := nI 2) (by decide) dL_law_1058 ?_
  refine r_iadd h (nI_add i 2) dL_law_1059 ?_
  refine r_sld h hS (x := i + 2) (by omega) dL_law_1060 ?_
  refine r_cV h k_L_169 (i := 33) (As := [.int (scr (i + 1)), .int (scr (i + 2))]) (rest := []) (c_X4_readLine h.i h.t hm hI.1.bnd hI.2.2.1 (scr (i + 1)) (scr (i + 2))) (by omega) hm.o rfl rfl rfl (Nat.le_of_ble_eq_true rfl) ⟨by decide, by decide, hk, hn⟩ dL_law_1061 (fun _ z => z.elim) (fun v2 c2 p2 => ?_)
  obtain ⟨r2, rfl, hq⟩ := p2
  have hN := hI.next hw hq
  refine r_istore h ([(7, .int r2), (6, .int (nI (f_readLine σ (scr (i + 1)) (scr (i + 2))).1)), (0, .ref b), (1, .ref (G.1 0)), (2, .ref (G.1 33)), (3, .ref (G.1 47)), (4, .ref (G.1 48)), (5, .int (nI i))]) dL_law_1064 (by decide) rfl ?_
  refine r_aload_n h 4 rfl rfl dL_law_1066 ?_
  refine r_cV h k_L_120 (i := 33) (As := []) (rest := []) (c_X4_thrown h.i h.t hq.2.1) (by omega) hq.2.1.o rfl rfl rfl (Nat.le_of_ble_eq_true rfl) ⟨by decide, by decide, hk, hn⟩ dL_law_1067 (fun _ z => z.elim) (fun v3 c3 p3 => ?_)
  obtain ⟨r3, rfl, rfl, rfl⟩ := p3
  refine r_iload h 1 rfl dL_law_1070 ?_
  refine r_icmp_eq h 1077 dL_law_1072 (by decide) (fun _ => ?_) (fun z => absurd rfl z)
  refine r_iload h 1 rfl dL_law_1077 ?_
  refine rn_if_ne h (a := (f_readLine σ (scr (i + 1)) (scr (i + 2))).1) (by omega) 1094 dL_law_1079 (by decide) (fun z => ?_) (fun z => ?_)
  · refine r_goto h 1923 dL_law_1094 (by decide) ?_
    refine V_lv [2, 3, 4, 5, 6, 7] rfl ?_
    exact next _ _ hN
  · refine r_aload_n h 5 rfl rfl dL_law_1082 ?_
    refine r_iconst h (v := nI 0) (by decide) dL_law_1083 ?_
    obtain ⟨fo2, hfo, hv⟩ := (hw.2.2.1 z).keep (hq.2.2.2 47 (Or.inr (by omega)))
    refine r_lald h (i := 47) (by omega) hfo (x := 0) (by omega) (by decide) dL_law_1084 ?_
    rw [hv, hq.1 z]
    refine r_iload h 0 rfl dL_law_1085 ?_
    refine r_i2l h rfl dL_law_1087 ?_
    refine r_lcmp h (lg0.mpr rfl) dL_law_1088 ?_
    refine r_if_eq h 1094 dL_law_1089 (by decide) (fun _ => ?_) (fun z => absurd rfl z)
    refine r_goto h 1923 dL_law_1094 (by decide) ?_
    refine V_lv [2, 3, 4, 5, 6, 7] rfl ?_
    exact next _ _ hN
theorem f_pour_le (σ : St) (p0 p1 : Int32) : (f_pour σ p0 p1).1 < 4 := by
  unfold f_pour opn
  (repeat' split) <;> (try dsimp only) <;> (repeat' split) <;> exact Nat.le_of_ble_eq_true rfl
set_option maxRecDepth 100000 in
set_option maxHeartbeats 4000000 in
theorem law_15 {G : GG} {X : CX} (h : Ok G X RL cL_law 9 room_1) {b L : Nat} {scr : Nat → Int32} (hS : Scr G X b L scr) {c : CC} {σ : St} (hI : LI G c σ) {i k n : Nat} (hi : i + 5 ≤ L) (hk : k + 8 ≤ 603072) (hn : n + 48 ≤ 7223402) (next : ∀ (c' : CC) (σ' : St), LI G c' σ' → V G X c' [(0, .ref b), (1, .ref (G.1 0)), (2, .ref (G.1 33)), (3, .ref (G.1 47)), (4, .ref (G.1 48)), (5, .int (nI i))] (k + 8) (n + 48) 1923 []) : V G X c [(0, .ref b), (1, .ref (G.1 0)), (2, .ref (G.1 33)), (3, .ref (G.1 47)), (4, .ref (G.1 48)), (5, .int (nI i))] k n 1097 [] := by
  refine r_aload_n h 1 rfl rfl dL_law_1097 ?_
  refine r_aload_n h 0 rfl rfl dL_law_1098 ?_
  refine r_iload h 5 rfl dL_law_1099 ?_
  refine r_iconst h (v := nI 1) (by decide) dL_law_1101 ?_
  refine r_iadd h (nI_add i 1) dL_law_1102 ?_
  refine r_sld h hS (x := i + 1) (by omega) dL_law_1103 ?_
  refine r_aload_n h 0 rfl rfl dL_law_1104 ?_
  refine r_iload h 5 rfl dL_law_1105 ?_
  refine r_iconst h (v := nI 2) (by decide) dL_law_1107 ?_
  refine r_iadd h (nI_add i 2) dL_law_1108 ?_
  refine r_sld h hS (x := i + 2) (by omega) dL_law_1109 ?_
  refine r_aload_n h 3 rfl rfl dL_law_1110 ?_
  have hle : (f_pour σ (scr (i + 1)) (scr (i + 2))).1 < 4 := f_pour_le σ (scr (i + 1)) (scr (i + 2))
  obtain ⟨fo, ho⟩ := hI.2.2.2.1
  refine r_cW h k_L_170 (As := [.ref (G.1 0), .int (scr (i + 1)), .int (scr (i + 2)), .ref (G.1 47)]) (rest := []) (c_L_pour h.i h.t hI.1 ho (scr (i + 1)) (scr (i + 2))) rfl rfl (Nat.le_of_ble_eq_true rfl) ⟨by decide, by decide, hk, hn⟩ dL_law_1111 (fun _ z => z.elim) (fun v1 c1 p1 => ?_)
  obtain ⟨r1, rfl, hw⟩ := p1
  have hr1 := hw.1
  subst hr1
  obtain ⟨th, hm⟩ := hI.mdl (Or.inl rfl) hw
  refine r_istore h ([(6, .int (nI (f_pour σ (scr (i + 1)) (scr (i + 2))).1)), (0, .ref b), (1, .ref (G.1 0)), (2, .ref (G.1 33)), (3, .ref (G.1 47)), (4, .ref (G.1 48)), (5, .int (nI i))]) dL_law_1114 (by decide) rfl ?_
  refine r_aload_n h 3 rfl rfl dL_law_1116 ?_
  refine r_aload_n h 1 rfl rfl dL_law_1117 ?_
  refine r_iload h 6 rfl dL_law_1118 ?_
  refine r_iconst h (v := nI 1) (by decide) dL_law_1120 ?_
  refine r_iadd h (nI_add i 1) dL_law_1121 ?_
  refine r_sld h hS (x := i + 1) (by omega) dL_law_1122 ?_
  refine r_aload_n h 1 rfl rfl dL_law_1123 ?_
  refine r_iload h 6 rfl dL_law_1124 ?_
  refine r_iconst h (v := nI 2) (by decide) dL_law_1126 ?_
  refine r_iadd h (nI_add i 2) dL_law_1127 ?_
  refine r_sld h hS (x := i + 2) (by omega) dL_law_1128 ?_
  refine r_cV h k_L_172 (i := 33) (As := [.int (scr (i + 1)), .int (scr (i + 2))]) (rest := []) (c_X4_pour h.i h.t hm hI.1.bnd hI.2.2.1 (scr (i + 1)) (scr (i + 2))) (by omega) hm.o rfl rfl rfl (Nat.le_of_ble_eq_true rfl) ⟨by decide, by decide, hk, hn⟩ dL_law_1129 (fun _ z => z.elim) (fun v2 c2 p2 => ?_)
  obtain ⟨r2, rfl, hq⟩ := p2
  have hN := hI.next hw hq
  refine r_istore h ([(7, .int r2), (6, .int (nI (f_pour σ (scr (i + 1)) (scr (i + 2))).1)), (0, .ref b), (1, .ref (G.1 0)), (2, .ref (G.1 33)), (3, .ref (G.1 47)), (4, .ref (G.1 48)), (5, .int (nI i))]) dL_law_1132 (by decide) rfl ?_
  refine r_aload_n h 4 rfl rfl dL_law_1134 ?_
  refine r_cV h k_L_120 (i := 33) (As := []) (rest := []) (c_X4_thrown h.i h.t hq.2.1) (by omega) hq.2.1.o rfl rfl rfl (Nat.le_of_ble_eq_true rfl) ⟨by decide, by decide, hk, hn⟩ dL_law_1135 (fun _ z => z.elim) (fun v3 c3 p3 => ?_)
  obtain ⟨r3, rfl, rfl, rfl⟩ := p3
  refine r_iload h 1 rfl dL_law_1138 ?_
  refine r_icmp_eq h 1145 dL_law_1140 (by decide) (fun _ => ?_) (fun z => absurd rfl z)
  refine r_iload h 1 rfl dL_law_1145 ?_
  refine rn_if_ne h (a := (f_pour σ (scr (i + 1)) (scr (i + 2))).1) (by omega) 1162 dL_law_1147 (by decide) (fun z => ?_) (fun z => ?_)
  · refine r_goto h 1923 dL_law_1162 (by decide) ?_
    refine V_lv [2, 3, 4, 5, 6, 7] rfl ?_
    exact next _ _ hN
  · refine r_aload_n h 5 rfl rfl dL_law_1150 ?_
    refine r_iconst h (v := nI 0) (by decide) dL_law_1151 ?_
    obtain ⟨fo2, hfo, hv⟩ := (hw.2.2.1 z).keep (hq.2.2.2 47 (Or.inr (by omega)))
    refine r_lald h (i := 47) (by omega) hfo (x := 0) (by omega) (by decide) dL_law_1152 ?_
    rw [hv, hq.1 z]
    refine r_iload h 0 rfl dL_law_1153 ?_
    refine r_i2l h rfl dL_law_1155 ?_
    refine r_lcmp h (lg0.mpr rfl) dL_law_1156 ?_
    refine r_if_eq h 1162 dL_law_1157 (by decide) (fun _ => ?_) (fun z => absurd rfl z)
    refine r_goto h 1923 dL_law_1162 (by decide) ?_
    refine V_lv [2, 3, 4, 5, 6, 7] rfl ?_
    exact next _ _ hN
theorem f_alike_le (σ : St) (p0 p1 : Int32) : (f_alike σ p0 p1).1 < 4 := by
  unfold f_alike
  (repeat' split) <;> (try dsimp only) <;> (repeat' split) <;> exact Nat.le_of_ble_eq_true rfl
set_option maxRecDepth 100000 in
set_option maxHeartbeats 4000000 in
theorem law_16 {G : GG} {X : CX} (h : Ok G X RL cL_law 9 room_1) {b L : Nat} {scr : Nat → Int32} (hS : Scr G X b L scr) {c : CC} {σ : St} (hI : LI G c σ) {i k n : Nat} (hi : i + 5 ≤ L) (hk : k + 8 ≤ 603072) (hn : n + 48 ≤ 7223402) (next : ∀ (c' : CC) (σ' : St), LI G c' σ' → V G X c' [(0, .ref b), (1, .ref (G.1 0)), (2, .ref (G.1 33)), (3, .ref (G.1 47)), (4, .ref (G.1 48)), (5, .int (nI i))] (k + 8) (n + 48) 1923 []) : V G X c [(0, .ref b), (1, .ref (G.1 0)), (2, .ref (G.1 33)), (3, .ref (G.1 47)), (4, .ref (G.1 48)), (5, .int (nI i))] k n 1165 [] := by
  refine r_aload_n h 1 rfl rfl dL_law_1165 ?_
  refine r_aload_n h 0 rfl rfl dL_law_1166 ?_
  refine r_iload h 5 rfl dL_law_1167 ?_
  refine r_iconst h (v := nI 1) (by decide) dL_law_1169 ?_
  refine r_iadd h (nI_add i 1) dL_law_1170 ?_
  refine r_sld h hS (x := i + 1) (by omega) dL_law_1171 ?_
  refine r_aload_n h 0 rfl rfl dL_law_1172 ?_
  refine r_iload h 5 rfl dL_law_1173 ?_
  refine r_iconst h (v := nI 2) (by decide) dL_law_1175 ?_
  refine r_iadd h (nI_add i 2) dL_law_1176 ?_
  refine r_sld h hS (x := i + 2) (by omega) dL_law_1177 ?_
  refine r_aload_n h 3 rfl rfl dL_law_1178 ?_
  have hle : (f_alike σ (scr (i + 1)) (scr (i + 2))).1 < 4 := f_alike_le σ (scr (i + 1)) (scr (i + 2))
  obtain ⟨fo, ho⟩ := hI.2.2.2.1
  refine r_cW h k_L_173 (As := [.ref (G.1 0), .int (scr (i + 1)), .int (scr (i + 2)), .ref (G.1 47)]) (rest := []) (c_L_alike h.i h.t hI.1 ho (scr (i + 1)) (scr (i + 2))) rfl rfl (Nat.le_of_ble_eq_true rfl) ⟨by decide, by decide, hk, hn⟩ dL_law_1179 (fun _ z => z.elim) (fun v1 c1 p1 => ?_)
  obtain ⟨r1, rfl, hw⟩ := p1
  have hr1 := hw.1
  subst hr1
  obtain ⟨th, hm⟩ := hI.mdl (Or.inl rfl) hw
  refine r_istore h ([(6, .int (nI (f_alike σ (scr (i + 1)) (scr (i + 2))).1)), (0, .ref b), (1, .ref (G.1 0)), (2, .ref (G.1 33)), (3, .ref (G.1 47)), (4, .ref (G.1 48)), (5, .int (nI i))]) dL_law_1182 (by decide) rfl ?_
  refine r_aload_n h 3 rfl rfl dL_law_1184 ?_
  refine r_aload_n h 1 rfl rfl dL_law_1185 ?_
  refine r_iload h 6 rfl dL_law_1186 ?_
  refine r_iconst h (v := nI 1) (by decide) dL_law_1188 ?_
  refine r_iadd h (nI_add i 1) dL_law_1189 ?_
  refine r_sld h hS (x := i + 1) (by omega) dL_law_1190 ?_
  refine r_aload_n h 1 rfl rfl dL_law_1191 ?_
  refine r_iload h 6 rfl dL_law_1192 ?_
  refine r_iconst h (v := nI 2) (by decide) dL_law_1194 ?_
  refine r_iadd h (nI_add i 2) dL_law_1195 ?_
  refine r_sld h hS (x := i + 2) (by omega) dL_law_1196 ?_
  refine r_cV h k_L_175 (i := 33) (As := [.int (scr (i + 1)), .int (scr (i + 2))]) (rest := []) (c_X4_alike h.i h.t hm hI.1.bnd hI.2.2.1 (scr (i + 1)) (scr (i + 2))) (by omega) hm.o rfl rfl rfl (Nat.le_of_ble_eq_true rfl) ⟨by decide, by decide, hk, hn⟩ dL_law_1197 (fun _ z => z.elim) (fun v2 c2 p2 => ?_)
  obtain ⟨r2, rfl, hq⟩ := p2
  have hN := hI.next hw hq
  refine r_istore h ([(7, .int r2), (6, .int (nI (f_alike σ (scr (i + 1)) (scr (i + 2))).1)), (0, .ref b), (1, .ref (G.1 0)), (2, .ref (G.1 33)), (3, .ref (G.1 47)), (4, .ref (G.1 48)), (5, .int (nI i))]) dL_law_1200 (by decide) rfl ?_
  refine r_aload_n h 4 rfl rfl dL_law_1202 ?_
  refine r_cV h k_L_120 (i := 33) (As := []) (rest := []) (c_X4_thrown h.i h.t hq.2.1) (by omega) hq.2.1.o rfl rfl rfl (Nat.le_of_ble_eq_true rfl) ⟨by decide, by decide, hk, hn⟩ dL_law_1203 (fun _ z => z.elim) (fun v3 c3 p3 => ?_)
  obtain ⟨r3, rfl, rfl, rfl⟩ := p3
  refine r_iload h 1 rfl dL_law_1206 ?_
  refine r_icmp_eq h 1213 dL_law_1208 (by decide) (fun _ => ?_) (fun z => absurd rfl z)
  refine r_iload h 1 rfl dL_law_1213 ?_
  refine rn_if_ne h (a := (f_alike σ (scr (i + 1)) (scr (i + 2))).1) (by omega) 1230 dL_law_1215 (by decide) (fun z => ?_) (fun z => ?_)
  · refine r_goto h 1923 dL_law_1230 (by decide) ?_
    refine V_lv [2, 3, 4, 5, 6, 7] rfl ?_
    exact next _ _ hN
  · refine r_aload_n h 5 rfl rfl dL_law_1218 ?_
    refine r_iconst h (v := nI 0) (by decide) dL_law_1219 ?_
    obtain ⟨fo2, hfo, hv⟩ := (hw.2.2.1 z).keep (hq.2.2.2 47 (Or.inr (by omega)))
    refine r_lald h (i := 47) (by omega) hfo (x := 0) (by omega) (by decide) dL_law_1220 ?_
    rw [hv, hq.1 z]
    refine r_iload h 0 rfl dL_law_1221 ?_
    refine r_i2l h rfl dL_law_1223 ?_
    refine r_lcmp h (lg0.mpr rfl) dL_law_1224 ?_
    refine r_if_eq h 1230 dL_law_1225 (by decide) (fun _ => ?_) (fun z => absurd rfl z)
    refine r_goto h 1923 dL_law_1230 (by decide) ?_
    refine V_lv [2, 3, 4, 5, 6, 7] rfl ?_
    exact next _ _ hN
theorem f_canMark_le (σ : St) (p0 : Int32) : (f_canMark σ p0).1 < 4 := by
  unfold f_canMark opn
  (repeat' split) <;> (try dsimp only) <;> (repeat' split) <;> exact Nat.le_of_ble_eq_true rfl
set_option maxRecDepth 100000 in
set_option maxHeartbeats 4000000 in
theorem law_17 {G : GG} {X : CX} (h : Ok G X RL cL_law 9 room_1) {b L : Nat} {scr : Nat → Int32} (hS : Scr G X b L scr) {c : CC} {σ : St} (hI : LI G c σ) {i k n : Nat} (hi : i + 5 ≤ L) (hk : k + 8 ≤ 603072) (hn : n + 48 ≤ 7223402) (next : ∀ (c' : CC) (σ' : St), LI G c' σ' → V G X c' [(0, .ref b), (1, .ref (G.1 0)), (2, .ref (G.1 33)), (3, .ref (G.1 47)), (4, .ref (G.1 48)), (5, .int (nI i))] (k + 8) (n + 48) 1923 []) : V G X c [(0, .ref b), (1, .ref (G.1 0)), (2, .ref (G.1 33)), (3, .ref (G.1 47)), (4, .ref (G.1 48)), (5, .int (nI i))] k n 1233 [] := by
  refine r_aload_n h 1 rfl rfl dL_law_1233 ?_
  refine r_aload_n h 0 rfl rfl dL_law_1234 ?_
  refine r_iload h 5 rfl dL_law_1235 ?_
  refine r_iconst h (v := nI 1) (by decide) dL_law_1237 ?_
  refine r_iadd h (nI_add i 1) dL_law_1238 ?_
  refine r_sld h hS (x := i + 1) (by omega) dL_law_1239 ?_
  refine r_aload_n h 3 rfl rfl dL_law_1240 ?_
  have hle : (f_canMark σ (scr (i + 1))).1 < 4 := f_canMark_le σ (scr (i + 1))
  obtain ⟨fo, ho⟩ := hI.2.2.2.1
  refine r_cW h k_L_176 (As := [.ref (G.1 0), .int (scr (i + 1)), .ref (G.1 47)]) (rest := []) (c_L_canMark h.i h.t hI.1 ho (scr (i + 1))) rfl rfl (Nat.le_of_ble_eq_true rfl) ⟨by decide, by decide, hk, hn⟩ dL_law_1241 (fun _ z => z.elim) (fun v1 c1 p1 => ?_)
  obtain ⟨r1, rfl, hw⟩ := p1
  have hr1 := hw.1
  subst hr1
  obtain ⟨th, hm⟩ := hI.mdl (Or.inl rfl) hw
  refine r_istore h ([(6, .int (nI (f_canMark σ (scr (i + 1))).1)), (0, .ref b), (1, .ref (G.1 0)), (2, .ref (G.1 33)), (3, .ref (G.1 47)), (4, .ref (G.1 48)), (5, .int (nI i))]) dL_law_1244 (by decide) rfl ?_
  refine r_aload_n h 3 rfl rfl dL_law_1246 ?_
  refine r_aload_n h 1 rfl rfl dL_law_1247 ?_
  refine r_iload h 6 rfl dL_law_1248 ?_
  refine r_iconst h (v := nI 1) (by decide) dL_law_1250 ?_
  refine r_iadd h (nI_add i 1) dL_law_1251 ?_
  refine r_sld h hS (x := i + 1) (by omega) dL_law_1252 ?_
  refine r_cV h k_L_178 (i := 33) (As := [.int (scr (i + 1))]) (rest := []) (c_X4_canMark h.i h.t hm hI.1.bnd hI.2.2.1 (scr (i + 1))) (by omega) hm.o rfl rfl rfl (Nat.le_of_ble_eq_true rfl) ⟨by decide, by decide, hk, hn⟩ dL_law_1253 (fun _ z => z.elim) (fun v2 c2 p2 => ?_)
  obtain ⟨r2, rfl, hq⟩ := p2
  have hN := hI.next hw hq
  refine r_istore h ([(7, .int r2), (6, .int (nI (f_canMark σ (scr (i + 1))).1)), (0, .ref b), (1, .ref (G.1 0)), (2, .ref (G.1 33)), (3, .ref (G.1 47)), (4, .ref (G.1 48)), (5, .int (nI i))]) dL_law_1256 (by decide) rfl ?_
  refine r_aload_n h 4 rfl rfl dL_law_1258 ?_
  refine r_cV h k_L_120 (i := 33) (As := []) (rest := []) (c_X4_thrown h.i h.t hq.2.1) (by omega) hq.2.1.o rfl rfl rfl (Nat.le_of_ble_eq_true rfl) ⟨by decide, by decide, hk, hn⟩ dL_law_1259 (fun _ z => z.elim) (fun v3 c3 p3 => ?_)
  obtain ⟨r3, rfl, rfl, rfl⟩ := p3
  refine r_iload h 1 rfl dL_law_1262 ?_
  refine r_icmp_eq h 1269 dL_law_1264 (by decide) (fun _ => ?_) (fun z => absurd rfl z)
  refine r_iload h 1 rfl dL_law_1269 ?_
  refine rn_if_ne h (a := (f_canMark σ (scr (i + 1))).1) (by omega) 1293 dL_law_1271 (by decide) (fun z => ?_) (fun z => ?_)
  · refine r_goto h 1923 dL_law_1293 (by decide) ?_
    refine V_lv [2, 3, 4, 5, 6, 7] rfl ?_
    exact next _ _ hN
  · refine r_aload_n h 5 rfl rfl dL_law_1274 ?_
    refine r_iconst h (v := nI 0) (by decide) dL_law_1275 ?_
    obtain ⟨fo2, hfo, hv⟩ := (hw.2.2.1 z).keep (hq.2.2.2 47 (Or.inr (by omega)))
    refine r_lald h (i := 47) (by omega) hfo (x := 0) (by omega) (by decide) dL_law_1276 ?_
    rw [hv, hq.1 z]
    refine r_iload h 0 rfl dL_law_1277 ?_
    refine r_if_eq h 1286 dL_law_1279 (by decide) (fun y => ?_) (fun y => ?_)
    · rw [if_pos y]
      refine r_lconst h (v := 0) (by decide) dL_law_1286 ?_
      refine r_lcmp h (lg0.mpr rfl) dL_law_1287 ?_
      refine r_if_eq h 1293 dL_law_1288 (by decide) (fun _ => ?_) (fun z => absurd rfl z)
      refine r_goto h 1923 dL_law_1293 (by decide) ?_
      refine V_lv [2, 3, 4, 5, 6, 7] rfl ?_
      exact next _ _ hN
    · rw [if_neg y]
      refine r_lconst h (v := 1) (by decide) dL_law_1282 ?_
      refine r_goto h 1287 dL_law_1283 (by decide) ?_
      refine r_lcmp h (lg0.mpr rfl) dL_law_1287 ?_
      refine r_if_eq h 1293 dL_law_1288 (by decide) (fun _ => ?_) (fun z => absurd rfl z)
      refine r_goto h 1923 dL_law_1293 (by decide) ?_
      refine V_lv [2, 3, 4, 5, 6, 7] rfl ?_
      exact next _ _ hN
theorem f_mark_le (σ : St) (p0 : Int32) : (f_mark σ p0).1 < 4 := by
  unfold f_mark opn
  (repeat' split) <;> (try dsimp only) <;> (repeat' split) <;> exact Nat.le_of_ble_eq_true rfl
set_option maxRecDepth 100000 in
set_option maxHeartbeats 4000000 in
theorem law_18 {G : GG} {X : CX} (h : Ok G X RL cL_law 9 room_1) {b L : Nat} {scr : Nat → Int32} (hS : Scr G X b L scr) {c : CC} {σ : St} (hI : LI G c σ) {i k n : Nat} (hi : i + 5 ≤ L) (hk : k + 8 ≤ 603072) (hn : n + 48 ≤ 7223402) (next : ∀ (c' : CC) (σ' : St), LI G c' σ' → V G X c' [(0, .ref b), (1, .ref (G.1 0)), (2, .ref (G.1 33)), (3, .ref (G.1 47)), (4, .ref (G.1 48)), (5, .int (nI i))] (k + 8) (n + 48) 1923 []) : V G X c [(0, .ref b), (1, .ref (G.1 0)), (2, .ref (G.1 33)), (3, .ref (G.1 47)), (4, .ref (G.1 48)), (5, .int (nI i))] k n 1296 [] := by
  refine r_aload_n h 1 rfl rfl dL_law_1296 ?_
  refine r_aload_n h 0 rfl rfl dL_law_1297 ?_
  refine r_iload h 5 rfl dL_law_1298 ?_
  refine r_iconst h (v := nI 1) (by decide) dL_law_1300 ?_
  refine r_iadd h (nI_add i 1) dL_law_1301 ?_
  refine r_sld h hS (x := i + 1) (by omega) dL_law_1302 ?_
  refine r_aload_n h 3 rfl rfl dL_law_1303 ?_
  have hle : (f_mark σ (scr (i + 1))).1 < 4 := f_mark_le σ (scr (i + 1))
  obtain ⟨fo, ho⟩ := hI.2.2.2.1
  refine r_cW h k_L_179 (As := [.ref (G.1 0), .int (scr (i + 1)), .ref (G.1 47)]) (rest := []) (c_L_mark h.i h.t hI.1 ho (scr (i + 1))) rfl rfl (Nat.le_of_ble_eq_true rfl) ⟨by decide, by decide, hk, hn⟩ dL_law_1304 (fun _ z => z.elim) (fun v1 c1 p1 => ?_)
  obtain ⟨r1, rfl, hw⟩ := p1
  have hr1 := hw.1
  subst hr1
  obtain ⟨th, hm⟩ := hI.mdl (Or.inl rfl) hw
  refine r_istore h ([(6, .int (nI (f_mark σ (scr (i + 1))).1)), (0, .ref b), (1, .ref (G.1 0)), (2, .ref (G.1 33)), (3, .ref (G.1 47)), (4, .ref (G.1 48)), (5, .int (nI i))]) dL_law_1307 (by decide) rfl ?_
  refine r_aload_n h 3 rfl rfl dL_law_1309 ?_
  refine r_aload_n h 1 rfl rfl dL_law_1310 ?_
  refine r_iload h 6 rfl dL_law_1311 ?_
  refine r_iconst h (v := nI 1) (by decide) dL_law_1313 ?_
  refine r_iadd h (nI_add i 1) dL_law_1314 ?_
  refine r_sld h hS (x := i + 1) (by omega) dL_law_1315 ?_
  refine r_cV h k_L_181 (i := 33) (As := [.int (scr (i + 1))]) (rest := []) (c_X4_mark h.i h.t hm hI.1.bnd hI.2.2.1 (scr (i + 1))) (by omega) hm.o rfl rfl rfl (Nat.le_of_ble_eq_true rfl) ⟨by decide, by decide, hk, hn⟩ dL_law_1316 (fun _ z => z.elim) (fun v2 c2 p2 => ?_)
  obtain ⟨r2, rfl, hq⟩ := p2
  have hN := hI.next hw hq
  refine r_istore h ([(7, .int r2), (6, .int (nI (f_mark σ (scr (i + 1))).1)), (0, .ref b), (1, .ref (G.1 0)), (2, .ref (G.1 33)), (3, .ref (G.1 47)), (4, .ref (G.1 48)), (5, .int (nI i))]) dL_law_1319 (by decide) rfl ?_
  refine r_aload_n h 4 rfl rfl dL_law_1321 ?_
  refine r_cV h k_L_120 (i := 33) (As := []) (rest := []) (c_X4_thrown h.i h.t hq.2.1) (by omega) hq.2.1.o rfl rfl rfl (Nat.le_of_ble_eq_true rfl) ⟨by decide, by decide, hk, hn⟩ dL_law_1322 (fun _ z => z.elim) (fun v3 c3 p3 => ?_)
  obtain ⟨r3, rfl, rfl, rfl⟩ := p3
  refine r_iload h 1 rfl dL_law_1325 ?_
  refine r_icmp_eq h 1332 dL_law_1327 (by decide) (fun _ => ?_) (fun z => absurd rfl z)
  refine r_iload h 1 rfl dL_law_1332 ?_
  refine rn_if_ne h (a := (f_mark σ (scr (i + 1))).1) (by omega) 1349 dL_law_1334 (by decide) (fun z => ?_) (fun z => ?_)
  · refine r_goto h 1923 dL_law_1349 (by decide) ?_
    refine V_lv [2, 3, 4, 5, 6, 7] rfl ?_
    exact next _ _ hN
  · refine r_aload_n h 5 rfl rfl dL_law_1337 ?_
    refine r_iconst h (v := nI 0) (by decide) dL_law_1338 ?_
    obtain ⟨fo2, hfo, hv⟩ := (hw.2.2.1 z).keep (hq.2.2.2 47 (Or.inr (by omega)))
    refine r_lald h (i := 47) (by omega) hfo (x := 0) (by omega) (by decide) dL_law_1339 ?_
    rw [hv, hq.1 z]
    refine r_iload h 0 rfl dL_law_1340 ?_
    refine r_i2l h rfl dL_law_1342 ?_
    refine r_lcmp h (lg0.mpr rfl) dL_law_1343 ?_
    refine r_if_eq h 1349 dL_law_1344 (by decide) (fun _ => ?_) (fun z => absurd rfl z)
    refine r_goto h 1923 dL_law_1349 (by decide) ?_
    refine V_lv [2, 3, 4, 5, 6, 7] rfl ?_
    exact next _ _ hN
theorem f_back_le (σ : St) (p0 : Int32) : (f_back σ p0).1 < 4 := by
  unfold f_back opn
  (repeat' split) <;> (try dsimp only) <;> (repeat' split) <;> exact Nat.le_of_ble_eq_true rfl
set_option maxRecDepth 100000 in
set_option maxHeartbeats 4000000 in
theorem law_19 {G : GG} {X : CX} (h : Ok G X RL cL_law 9 room_1) {b L : Nat} {scr : Nat → Int32} (hS : Scr G X b L scr) {c : CC} {σ : St} (hI : LI G c σ) {i k n : Nat} (hi : i + 5 ≤ L) (hk : k + 8 ≤ 603072) (hn : n + 48 ≤ 7223402) (next : ∀ (c' : CC) (σ' : St), LI G c' σ' → V G X c' [(0, .ref b), (1, .ref (G.1 0)), (2, .ref (G.1 33)), (3, .ref (G.1 47)), (4, .ref (G.1 48)), (5, .int (nI i))] (k + 8) (n + 48) 1923 []) : V G X c [(0, .ref b), (1, .ref (G.1 0)), (2, .ref (G.1 33)), (3, .ref (G.1 47)), (4, .ref (G.1 48)), (5, .int (nI i))] k n 1352 [] := by
  refine r_aload_n h 1 rfl rfl dL_law_1352 ?_
  refine r_aload_n h 0 rfl rfl dL_law_1353 ?_
  refine r_iload h 5 rfl dL_law_1354 ?_
  refine r_iconst h (v := nI 1) (by decide) dL_law_1356 ?_
  refine r_iadd h (nI_add i 1) dL_law_1357 ?_
  refine r_sld h hS (x := i + 1) (by omega) dL_law_1358 ?_
  refine r_aload_n h 3 rfl rfl dL_law_1359 ?_
  have hle : (f_back σ (scr (i + 1))).1 < 4 := f_back_le σ (scr (i + 1))
  obtain ⟨fo, ho⟩ := hI.2.2.2.1
  refine r_cW h k_L_182 (As := [.ref (G.1 0), .int (scr (i + 1)), .ref (G.1 47)]) (rest := []) (c_L_back h.i h.t hI.1 ho (scr (i + 1))) rfl rfl (Nat.le_of_ble_eq_true rfl) ⟨by decide, by decide, hk, hn⟩ dL_law_1360 (fun _ z => z.elim) (fun v1 c1 p1 => ?_)
  obtain ⟨r1, rfl, hw⟩ := p1
  have hr1 := hw.1
  subst hr1
  obtain ⟨th, hm⟩ := hI.mdl (Or.inl rfl) hw
  refine r_istore h ([(6, .int (nI (f_back σ (scr (i + 1))).1)), (0, .ref b), (1, .ref (G.1 0)), (2, .ref (G.1 33)), (3, .ref (G.1 47)), (4, .ref (G.1 48)), (5, .int (nI i))]) dL_law_1363 (by decide) rfl ?_
  refine r_aload_n h 3 rfl rfl dL_law_1365 ?_
  refine r_aload_n h 1 rfl rfl dL_law_1366 ?_
  refine r_iload h 6 rfl dL_law_1367 ?_
  refine r_iconst h (v := nI 1) (by decide) dL_law_1369 ?_
  refine r_iadd h (nI_add i 1) dL_law_1370 ?_
  refine r_sld h hS (x := i + 1) (by omega) dL_law_1371 ?_
  refine r_cV h k_L_184 (i := 33) (As := [.int (scr (i + 1))]) (rest := []) (c_X4_back h.i h.t hm hI.1.bnd hI.2.2.1 (scr (i + 1))) (by omega) hm.o rfl rfl rfl (Nat.le_of_ble_eq_true rfl) ⟨by decide, by decide, hk, hn⟩ dL_law_1372 (fun _ z => z.elim) (fun v2 c2 p2 => ?_)
  obtain ⟨r2, rfl, hq⟩ := p2
  have hN := hI.next hw hq
  refine r_istore h ([(7, .int r2), (6, .int (nI (f_back σ (scr (i + 1))).1)), (0, .ref b), (1, .ref (G.1 0)), (2, .ref (G.1 33)), (3, .ref (G.1 47)), (4, .ref (G.1 48)), (5, .int (nI i))]) dL_law_1375 (by decide) rfl ?_
  refine r_aload_n h 4 rfl rfl dL_law_1377 ?_
  refine r_cV h k_L_120 (i := 33) (As := []) (rest := []) (c_X4_thrown h.i h.t hq.2.1) (by omega) hq.2.1.o rfl rfl rfl (Nat.le_of_ble_eq_true rfl) ⟨by decide, by decide, hk, hn⟩ dL_law_1378 (fun _ z => z.elim) (fun v3 c3 p3 => ?_)
  obtain ⟨r3, rfl, rfl, rfl⟩ := p3
  refine r_iload h 1 rfl dL_law_1381 ?_
  refine r_icmp_eq h 1388 dL_law_1383 (by decide) (fun _ => ?_) (fun z => absurd rfl z)
  refine r_iload h 1 rfl dL_law_1388 ?_
  refine rn_if_ne h (a := (f_back σ (scr (i + 1))).1) (by omega) 1405 dL_law_1390 (by decide) (fun z => ?_) (fun z => ?_)
  · refine r_goto h 1923 dL_law_1405 (by decide) ?_
    refine V_lv [2, 3, 4, 5, 6, 7] rfl ?_
    exact next _ _ hN
  · refine r_aload_n h 5 rfl rfl dL_law_1393 ?_
    refine r_iconst h (v := nI 0) (by decide) dL_law_1394 ?_
    obtain ⟨fo2, hfo, hv⟩ := (hw.2.2.1 z).keep (hq.2.2.2 47 (Or.inr (by omega)))
    refine r_lald h (i := 47) (by omega) hfo (x := 0) (by omega) (by decide) dL_law_1395 ?_
    rw [hv, hq.1 z]
    refine r_iload h 0 rfl dL_law_1396 ?_
    refine r_i2l h rfl dL_law_1398 ?_
    refine r_lcmp h (lg0.mpr rfl) dL_law_1399 ?_
    refine r_if_eq h 1405 dL_law_1400 (by decide) (fun _ => ?_) (fun z => absurd rfl z)
    refine r_goto h 1923 dL_law_1405 (by decide) ?_
    refine V_lv [2, 3, 4, 5, 6, 7] rfl ?_
    exact next _ _ hN
