/-! THE LAW: its loop -/
set_option maxRecDepth 100000 in
set_option maxHeartbeats 4000000 in
theorem law_loop {G : GG} {X : CX} (h : Ok G X RL cL_law 9 room_1) {b L : Nat} {scr : Nat → Int32} (hS : Scr G X b L scr) (fin : ∀ (c : CC) (lv : LV) (k n : Nat), k ≤ 603072 → n ≤ 7223402 → V G X c lv k n 1929 []) : ∀ (q i k n : Nat) (c : CC) (σ : St), LI G c σ → L ≤ i + 5 * q → i ≤ L → k + 8 * q ≤ 603072 → n + 48 * q ≤ 7223402 → V G X c [(0, .ref b), (1, .ref (G.1 0)), (2, .ref (G.1 33)), (3, .ref (G.1 47)), (4, .ref (G.1 48)), (5, .int (nI i))] k n 28 [] := by
  have hL := hS.2.2.2
  intro q
  induction q with
  | zero =>
    intro i k n c σ hI h1 h2 hk hn
    refine r_iload h 5 rfl dL_law_28 ?_
    refine r_aload_n h 0 rfl rfl dL_law_30 ?_
    refine r_slen h hS dL_law_31 ?_
    refine r_iconst h (v := nI 5) (by decide) dL_law_32 ?_
    refine r_isub h rfl dL_law_33 ?_
    refine r_icmp_gt h 1929 dL_law_34 (by decide) (fun _ => ?_) (fun z => absurd ((head_cmp hL h2).mpr (by omega)) z)
    exact fin _ _ _ _ (by omega) (by omega)
  | succ q ih =>
    intro i k n c σ hI h1 h2 hk hn
    refine r_iload h 5 rfl dL_law_28 ?_
    refine r_aload_n h 0 rfl rfl dL_law_30 ?_
    refine r_slen h hS dL_law_31 ?_
    refine r_iconst h (v := nI 5) (by decide) dL_law_32 ?_
    refine r_isub h rfl dL_law_33 ?_
    refine r_icmp_gt h 1929 dL_law_34 (by decide) (fun _ => fin _ _ _ _ (by omega) (by omega)) (fun z => ?_)
    have hi : i + 5 ≤ L := by
      rcases Nat.lt_or_ge L (i + 5) with y | y
      · exact absurd ((head_cmp hL h2).mpr y) z
      · exact y
    have hk8 : k + 8 ≤ 603072 := by omega
    have hn8 : n + 48 ≤ 7223402 := by omega
    have next : ∀ (c' : CC) (σ' : St), LI G c' σ' → V G X c' [(0, .ref b), (1, .ref (G.1 0)), (2, .ref (G.1 33)), (3, .ref (G.1 47)), (4, .ref (G.1 48)), (5, .int (nI i))] (k + 8) (n + 48) 1923 [] := by
      intro c' σ' hI'
      refine r_iinc h 5 ([(5, .int (nI (i + 5))), (0, .ref b), (1, .ref (G.1 0)), (2, .ref (G.1 33)), (3, .ref (G.1 47)), (4, .ref (G.1 48))]) rfl (inc_n i 5) dL_law_1923 (by decide) rfl ?_
      refine r_goto h 28 dL_law_1926 (by decide) ?_
      refine V_lv [1, 2, 3, 4, 5, 0] rfl ?_
      exact ih (i + 5) (k + 8) (n + 48) c' σ' hI' (by omega) (by omega) (by omega) (by omega)
    refine r_aload_n h 0 rfl rfl dL_law_37 ?_
    refine r_iload h 5 rfl dL_law_38 ?_
    refine r_sld h hS (x := i) (by omega) dL_law_40 ?_
    refine r_bipush h (v := nI 31) (by decide) dL_law_41 ?_
    obtain ⟨j, hj, e⟩ := and31 (scr i)
    refine r_iand h e dL_law_43 ?_
    match j, hj with
    | 0, _ =>
      refine r_tableIn h (off := 136) 180 dL_law_44 (by decide +kernel) (by decide +kernel) (by decide +kernel) (by decide) ?_
      exact law_0 h hS hI hi hk8 hn8 next
    | 1, _ =>
      refine r_tableIn h (off := 204) 248 dL_law_44 (by decide +kernel) (by decide +kernel) (by decide +kernel) (by decide) ?_
      exact law_1 h hS hI hi hk8 hn8 next
    | 2, _ =>
      refine r_tableIn h (off := 284) 328 dL_law_44 (by decide +kernel) (by decide +kernel) (by decide +kernel) (by decide) ?_
      exact law_2 h hS hI hi hk8 hn8 next
    | 3, _ =>
      refine r_tableIn h (off := 340) 384 dL_law_44 (by decide +kernel) (by decide +kernel) (by decide +kernel) (by decide) ?_
      exact law_3 h hS hI hi hk8 hn8 next
    | 4, _ =>
      refine r_tableIn h (off := 396) 440 dL_law_44 (by decide +kernel) (by decide +kernel) (by decide +kernel) (by decide) ?_
      exact law_4 h hS hI hi hk8 hn8 next
    | 5, _ =>
      refine r_tableIn h (off := 452) 496 dL_law_44 (by decide +kernel) (by decide +kernel) (by decide +kernel) (by decide) ?_
      exact law_5 h hS hI hi hk8 hn8 next
    | 6, _ =>
      refine r_tableIn h (off := 520) 564 dL_law_44 (by decide +kernel) (by decide +kernel) (by decide +kernel) (by decide) ?_
      exact law_6 h hS hI hi hk8 hn8 next
    | 7, _ =>
      refine r_tableIn h (off := 576) 620 dL_law_44 (by decide +kernel) (by decide +kernel) (by decide +kernel) (by decide) ?_
      exact law_7 h hS hI hi hk8 hn8 next
    | 8, _ =>
      refine r_tableIn h (off := 668) 712 dL_law_44 (by decide +kernel) (by decide +kernel) (by decide +kernel) (by decide) ?_
      exact law_8 h hS hI hi hk8 hn8 next
    | 9, _ =>
      refine r_tableIn h (off := 724) 768 dL_law_44 (by decide +kernel) (by decide +kernel) (by decide +kernel) (by decide) ?_
      exact law_9 h hS hI hi hk8 hn8 next
    | 10, _ =>
      refine r_tableIn h (off := 780) 824 dL_law_44 (by decide +kernel) (by decide +kernel) (by decide +kernel) (by decide) ?_
      exact law_10 h hS hI hi hk8 hn8 next
    | 11, _ =>
      refine r_tableIn h (off := 848) 892 dL_law_44 (by decide +kernel) (by decide +kernel) (by decide +kernel) (by decide) ?_
      exact law_11 h hS hI hi hk8 hn8 next
    | 12, _ =>
      refine r_tableIn h (off := 861) 905 dL_law_44 (by decide +kernel) (by decide +kernel) (by decide +kernel) (by decide) ?_
      exact law_12 h hS hI hi hk8 hn8 next
    | 13, _ =>
      refine r_tableIn h (off := 917) 961 dL_law_44 (by decide +kernel) (by decide +kernel) (by decide +kernel) (by decide) ?_
      exact law_13 h hS hI hi hk8 hn8 next
    | 14, _ =>
      refine r_tableIn h (off := 985) 1029 dL_law_44 (by decide +kernel) (by decide +kernel) (by decide +kernel) (by decide) ?_
      exact law_14 h hS hI hi hk8 hn8 next
    | 15, _ =>
      refine r_tableIn h (off := 1053) 1097 dL_law_44 (by decide +kernel) (by decide +kernel) (by decide +kernel) (by decide) ?_
      exact law_15 h hS hI hi hk8 hn8 next
    | 16, _ =>
      refine r_tableIn h (off := 1121) 1165 dL_law_44 (by decide +kernel) (by decide +kernel) (by decide +kernel) (by decide) ?_
      exact law_16 h hS hI hi hk8 hn8 next
    | 17, _ =>
      refine r_tableIn h (off := 1189) 1233 dL_law_44 (by decide +kernel) (by decide +kernel) (by decide +kernel) (by decide) ?_
      exact law_17 h hS hI hi hk8 hn8 next
    | 18, _ =>
      refine r_tableIn h (off := 1252) 1296 dL_law_44 (by decide +kernel) (by decide +kernel) (by decide +kernel) (by decide) ?_
      exact law_18 h hS hI hi hk8 hn8 next
    | 19, _ =>
      refine r_tableIn h (off := 1308) 1352 dL_law_44 (by decide +kernel) (by decide +kernel) (by decide +kernel) (by decide) ?_
      exact law_19 h hS hI hi hk8 hn8 next
    | 20, _ =>
      refine r_tableIn h (off := 1364) 1408 dL_law_44 (by decide +kernel) (by decide +kernel) (by decide +kernel) (by decide) ?_
      exact law_20 h hS hI hi hk8 hn8 next
    | 21, _ =>
      refine r_tableIn h (off := 1420) 1464 dL_law_44 (by decide +kernel) (by decide +kernel) (by decide +kernel) (by decide) ?_
      exact law_21 h hS hI hi hk8 hn8 next
    | 22, _ =>
      refine r_tableIn h (off := 1476) 1520 dL_law_44 (by decide +kernel) (by decide +kernel) (by decide +kernel) (by decide) ?_
      exact law_22 h hS hI hi hk8 hn8 next
    | 23, _ =>
      refine r_tableIn h (off := 1544) 1588 dL_law_44 (by decide +kernel) (by decide +kernel) (by decide +kernel) (by decide) ?_
      exact law_23 h hS hI hi hk8 hn8 next
    | 24, _ =>
      refine r_tableIn h (off := 1599) 1643 dL_law_44 (by decide +kernel) (by decide +kernel) (by decide +kernel) (by decide) ?_
      exact law_24 h hS hI hi hk8 hn8 next
    | 25, _ =>
      refine r_tableIn h (off := 1654) 1698 dL_law_44 (by decide +kernel) (by decide +kernel) (by decide +kernel) (by decide) ?_
      exact law_25 h hS hI hi hk8 hn8 next
    | 26, _ =>
      refine r_tableIn h (off := 1709) 1753 dL_law_44 (by decide +kernel) (by decide +kernel) (by decide +kernel) (by decide) ?_
      exact law_26 h hS hI hi hk8 hn8 next
    | 27, _ =>
      refine r_tableIn h (off := 1787) 1831 dL_law_44 (by decide +kernel) (by decide +kernel) (by decide +kernel) (by decide) ?_
      exact law_27 h hS hI hi hk8 hn8 next
    | 28, _ =>
      refine r_tableIn h (off := 1852) 1896 dL_law_44 (by decide +kernel) (by decide +kernel) (by decide +kernel) (by decide) ?_
      exact law_28 h hS hI hi hk8 hn8 next
    | 29, _ =>
      refine r_tableIn h (off := 1866) 1910 dL_law_44 (by decide +kernel) (by decide +kernel) (by decide +kernel) (by decide) ?_
      exact law_29 h hS hI hi hk8 hn8 next
    | 30, _ =>
      refine r_tableOut h 1923 dL_law_44 (by decide +kernel) (by decide) ?_
      exact V.widen (Nat.le_add_right k 8) (Nat.le_add_right n 48) (next _ _ hI)
    | 31, _ =>
      refine r_tableOut h 1923 dL_law_44 (by decide +kernel) (by decide) ?_
      exact V.widen (Nat.le_add_right k 8) (Nat.le_add_right n 48) (next _ _ hI)
    | j + 32, hj => exact absurd hj (by omega)
