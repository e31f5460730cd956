/-! KINDS, and one byte of a check -/
set_option maxRecDepth 100000 in
set_option maxHeartbeats 4000000 in
/-- X3_hasTwoSources -/
theorem c_X3_hasTwoSources {G : GG} {l : Launch} {c : CC} (hG : InjG G) (hl0 : l.stackTraces = false) (k : Int32) : MC G l yX3_hasTwoSources (.code yX3_hasTwoSources cX3_hasTwoSources 1 (some .boolean) :: gws) (rmF 0 0 0 0) [.int k] c (pI (fun r c' => c = c' ∧ (if isTw k = true then 1 else 0) = r)) (pF) := by
  refine MC.of (by decide) hl0 hG (Nat.le_of_ble_eq_true rfl) (fun X hX h hN hQ hr => ?_)
  subst hX
  refine r_iload_n h 0 rfl rfl dX3_hasTwoSources_0 ?_
  refine r_iconst h (v := nI 4) (by decide) dX3_hasTwoSources_1 ?_
  refine r_icmp_eq h 16 dX3_hasTwoSources_2 (by decide) (fun q1 => ?_) (fun q1 => ?_)
  · refine r_iconst h (v := nI 1) (by decide) dX3_hasTwoSources_16 ?_
    refine r_goto h 21 dX3_hasTwoSources_17 (by decide) ?_
    exact r_zret h hQ hr (by decide) dX3_hasTwoSources_21 ⟨by decide, by decide⟩ ⟨_, rfl, rfl, if_pos (by simp [isTw, nI_0, q1])⟩
  · refine r_iload_n h 0 rfl rfl dX3_hasTwoSources_5 ?_
    refine r_iconst h (v := nI 5) (by decide) dX3_hasTwoSources_6 ?_
    refine r_icmp_eq h 16 dX3_hasTwoSources_7 (by decide) (fun q2 => ?_) (fun q2 => ?_)
    · refine r_iconst h (v := nI 1) (by decide) dX3_hasTwoSources_16 ?_
      refine r_goto h 21 dX3_hasTwoSources_17 (by decide) ?_
      exact r_zret h hQ hr (by decide) dX3_hasTwoSources_21 ⟨by decide, by decide⟩ ⟨_, rfl, rfl, if_pos (by simp [isTw, nI_0, q1, q2])⟩
    · refine r_iload_n h 0 rfl rfl dX3_hasTwoSources_10 ?_
      refine r_bipush h (v := nI 7) (by decide) dX3_hasTwoSources_11 ?_
      refine r_icmp_ne h 20 dX3_hasTwoSources_13 (by decide) (fun q3 => ?_) (fun q3 => ?_)
      · refine r_iconst h (v := nI 0) (by decide) dX3_hasTwoSources_20 ?_
        exact r_zret h hQ hr (by decide) dX3_hasTwoSources_21 ⟨by decide, by decide⟩ ⟨_, rfl, rfl, if_neg (by simp [isTw, nI_0, q1, q2, q3])⟩
      · refine r_iconst h (v := nI 1) (by decide) dX3_hasTwoSources_16 ?_
        refine r_goto h 21 dX3_hasTwoSources_17 (by decide) ?_
        exact r_zret h hQ hr (by decide) dX3_hasTwoSources_21 ⟨by decide, by decide⟩ ⟨_, rfl, rfl, if_pos (by simp [isTw, nI_0, q1, q2, q3])⟩
set_option maxRecDepth 100000 in
set_option maxHeartbeats 4000000 in
/-- X3_hasLine -/
theorem c_X3_hasLine {G : GG} {l : Launch} {c : CC} (hG : InjG G) (hl0 : l.stackTraces = false) (k : Int32) : MC G l yX3_hasLine (.code yX3_hasLine cX3_hasLine 1 (some .boolean) :: gws) (rmF 0 0 0 0) [.int k] c (pI (fun r c' => c = c' ∧ (if hasL k = true then 1 else 0) = r)) (pF) := by
  refine MC.of (by decide) hl0 hG (Nat.le_of_ble_eq_true rfl) (fun X hX h hN hQ hr => ?_)
  subst hX
  refine r_iload_n h 0 rfl rfl dX3_hasLine_0 ?_
  refine r_iconst h (v := nI 2) (by decide) dX3_hasLine_1 ?_
  refine r_icmp_eq h 16 dX3_hasLine_2 (by decide) (fun q1 => ?_) (fun q1 => ?_)
  · refine r_iconst h (v := nI 1) (by decide) dX3_hasLine_16 ?_
    refine r_goto h 21 dX3_hasLine_17 (by decide) ?_
    exact r_zret h hQ hr (by decide) dX3_hasLine_21 ⟨by decide, by decide⟩ ⟨_, rfl, rfl, if_pos (by simp [hasL, nI_0, q1])⟩
  · refine r_iload_n h 0 rfl rfl dX3_hasLine_5 ?_
    refine r_iconst h (v := nI 5) (by decide) dX3_hasLine_6 ?_
    refine r_icmp_eq h 16 dX3_hasLine_7 (by decide) (fun q2 => ?_) (fun q2 => ?_)
    · refine r_iconst h (v := nI 1) (by decide) dX3_hasLine_16 ?_
      refine r_goto h 21 dX3_hasLine_17 (by decide) ?_
      exact r_zret h hQ hr (by decide) dX3_hasLine_21 ⟨by decide, by decide⟩ ⟨_, rfl, rfl, if_pos (by simp [hasL, nI_0, q1, q2])⟩
    · refine r_iload_n h 0 rfl rfl dX3_hasLine_10 ?_
      refine r_bipush h (v := nI 6) (by decide) dX3_hasLine_11 ?_
      refine r_icmp_ne h 20 dX3_hasLine_13 (by decide) (fun q3 => ?_) (fun q3 => ?_)
      · refine r_iconst h (v := nI 0) (by decide) dX3_hasLine_20 ?_
        exact r_zret h hQ hr (by decide) dX3_hasLine_21 ⟨by decide, by decide⟩ ⟨_, rfl, rfl, if_neg (by simp [hasL, nI_0, q1, q2, q3])⟩
      · refine r_iconst h (v := nI 1) (by decide) dX3_hasLine_16 ?_
        refine r_goto h 21 dX3_hasLine_17 (by decide) ?_
        exact r_zret h hQ hr (by decide) dX3_hasLine_21 ⟨by decide, by decide⟩ ⟨_, rfl, rfl, if_pos (by simp [hasL, nI_0, q1, q2, q3])⟩
set_option maxRecDepth 100000 in
set_option maxHeartbeats 4000000 in
/-- X3_hasCheck -/
theorem c_X3_hasCheck {G : GG} {l : Launch} {c : CC} (hG : InjG G) (hl0 : l.stackTraces = false) (k : Int32) : MC G l yX3_hasCheck (.code yX3_hasCheck cX3_hasCheck 1 (some .boolean) :: gws) (rmF 0 0 0 0) [.int k] c (pI (fun r c' => c = c' ∧ (if hasC k = true then 1 else 0) = r)) (pF) := by
  refine MC.of (by decide) hl0 hG (Nat.le_of_ble_eq_true rfl) (fun X hX h hN hQ hr => ?_)
  subst hX
  refine r_iload_n h 0 rfl rfl dX3_hasCheck_0 ?_
  refine r_iconst h (v := nI 3) (by decide) dX3_hasCheck_1 ?_
  refine r_icmp_eq h 11 dX3_hasCheck_2 (by decide) (fun q1 => ?_) (fun q1 => ?_)
  · refine r_iconst h (v := nI 1) (by decide) dX3_hasCheck_11 ?_
    refine r_goto h 16 dX3_hasCheck_12 (by decide) ?_
    exact r_zret h hQ hr (by decide) dX3_hasCheck_16 ⟨by decide, by decide⟩ ⟨_, rfl, rfl, if_pos (by simp [hasC, nI_0, q1])⟩
  · refine r_iload_n h 0 rfl rfl dX3_hasCheck_5 ?_
    refine r_bipush h (v := nI 6) (by decide) dX3_hasCheck_6 ?_
    refine r_icmp_ne h 15 dX3_hasCheck_8 (by decide) (fun q2 => ?_) (fun q2 => ?_)
    · refine r_iconst h (v := nI 0) (by decide) dX3_hasCheck_15 ?_
      exact r_zret h hQ hr (by decide) dX3_hasCheck_16 ⟨by decide, by decide⟩ ⟨_, rfl, rfl, if_neg (by simp [hasC, nI_0, q1, q2])⟩
    · refine r_iconst h (v := nI 1) (by decide) dX3_hasCheck_11 ?_
      refine r_goto h 16 dX3_hasCheck_12 (by decide) ?_
      exact r_zret h hQ hr (by decide) dX3_hasCheck_16 ⟨by decide, by decide⟩ ⟨_, rfl, rfl, if_pos (by simp [hasC, nI_0, q1, q2])⟩
set_option maxRecDepth 100000 in
set_option maxHeartbeats 4000000 in
/-- X3_canBeMarked -/
theorem c_X3_canBeMarked {G : GG} {l : Launch} {c : CC} (hG : InjG G) (hl0 : l.stackTraces = false) (k : Int32) : MC G l yX3_canBeMarked (.code yX3_canBeMarked cX3_canBeMarked 1 (some .boolean) :: gws) (rmF 0 0 0 0) [.int k] c (pI (fun r c' => c = c' ∧ (if canM k = true then 1 else 0) = r)) (pF) := by
  refine MC.of (by decide) hl0 hG (Nat.le_of_ble_eq_true rfl) (fun X hX h hN hQ hr => ?_)
  subst hX
  refine r_iload_n h 0 rfl rfl dX3_canBeMarked_0 ?_
  refine r_if_eq h 20 dX3_canBeMarked_1 (by decide) (fun q1 => ?_) (fun q1 => ?_)
  · refine r_iconst h (v := nI 1) (by decide) dX3_canBeMarked_20 ?_
    refine r_goto h 25 dX3_canBeMarked_21 (by decide) ?_
    exact r_zret h hQ hr (by decide) dX3_canBeMarked_25 ⟨by decide, by decide⟩ ⟨_, rfl, rfl, if_pos (by simp [canM, nI_0, q1])⟩
  · refine r_iload_n h 0 rfl rfl dX3_canBeMarked_4 ?_
    refine r_iconst h (v := nI 2) (by decide) dX3_canBeMarked_5 ?_
    refine r_icmp_eq h 20 dX3_canBeMarked_6 (by decide) (fun q2 => ?_) (fun q2 => ?_)
    · refine r_iconst h (v := nI 1) (by decide) dX3_canBeMarked_20 ?_
      refine r_goto h 25 dX3_canBeMarked_21 (by decide) ?_
      exact r_zret h hQ hr (by decide) dX3_canBeMarked_25 ⟨by decide, by decide⟩ ⟨_, rfl, rfl, if_pos (by simp [canM, nI_0, q1, q2])⟩
    · refine r_iload_n h 0 rfl rfl dX3_canBeMarked_9 ?_
      refine r_iconst h (v := nI 3) (by decide) dX3_canBeMarked_10 ?_
      refine r_icmp_eq h 20 dX3_canBeMarked_11 (by decide) (fun q3 => ?_) (fun q3 => ?_)
      · refine r_iconst h (v := nI 1) (by decide) dX3_canBeMarked_20 ?_
        refine r_goto h 25 dX3_canBeMarked_21 (by decide) ?_
        exact r_zret h hQ hr (by decide) dX3_canBeMarked_25 ⟨by decide, by decide⟩ ⟨_, rfl, rfl, if_pos (by simp [canM, nI_0, q1, q2, q3])⟩
      · refine r_iload_n h 0 rfl rfl dX3_canBeMarked_14 ?_
        refine r_bipush h (v := nI 6) (by decide) dX3_canBeMarked_15 ?_
        refine r_icmp_ne h 24 dX3_canBeMarked_17 (by decide) (fun q4 => ?_) (fun q4 => ?_)
        · refine r_iconst h (v := nI 0) (by decide) dX3_canBeMarked_24 ?_
          exact r_zret h hQ hr (by decide) dX3_canBeMarked_25 ⟨by decide, by decide⟩ ⟨_, rfl, rfl, if_neg (by simp [canM, nI_0, q1, q2, q3, q4])⟩
        · refine r_iconst h (v := nI 1) (by decide) dX3_canBeMarked_20 ?_
          refine r_goto h 25 dX3_canBeMarked_21 (by decide) ?_
          exact r_zret h hQ hr (by decide) dX3_canBeMarked_25 ⟨by decide, by decide⟩ ⟨_, rfl, rfl, if_pos (by simp [canM, nI_0, q1, q2, q3, q4])⟩
set_option maxRecDepth 100000 in
set_option maxHeartbeats 4000000 in
/-- X3_goesBackUnmarked -/
theorem c_X3_goesBackUnmarked {G : GG} {l : Launch} {c : CC} (hG : InjG G) (hl0 : l.stackTraces = false) (k : Int32) : MC G l yX3_goesBackUnmarked (.code yX3_goesBackUnmarked cX3_goesBackUnmarked 1 (some .boolean) :: gws) (rmF 0 0 0 0) [.int k] c (pI (fun r c' => c = c' ∧ (if gbU k = true then 1 else 0) = r)) (pF) := by
  refine MC.of (by decide) hl0 hG (Nat.le_of_ble_eq_true rfl) (fun X hX h hN hQ hr => ?_)
  subst hX
  refine r_iload_n h 0 rfl rfl dX3_goesBackUnmarked_0 ?_
  refine r_if_eq h 14 dX3_goesBackUnmarked_1 (by decide) (fun q1 => ?_) (fun q1 => ?_)
  · refine r_iconst h (v := nI 1) (by decide) dX3_goesBackUnmarked_14 ?_
    refine r_goto h 19 dX3_goesBackUnmarked_15 (by decide) ?_
    exact r_zret h hQ hr (by decide) dX3_goesBackUnmarked_19 ⟨by decide, by decide⟩ ⟨_, rfl, rfl, if_pos (by simp [gbU, nI_0, q1])⟩
  · refine r_iload_n h 0 rfl rfl dX3_goesBackUnmarked_4 ?_
    refine r_iconst h (v := nI 1) (by decide) dX3_goesBackUnmarked_5 ?_
    refine r_icmp_eq h 14 dX3_goesBackUnmarked_6 (by decide) (fun q2 => ?_) (fun q2 => ?_)
    · refine r_iconst h (v := nI 1) (by decide) dX3_goesBackUnmarked_14 ?_
      refine r_goto h 19 dX3_goesBackUnmarked_15 (by decide) ?_
      exact r_zret h hQ hr (by decide) dX3_goesBackUnmarked_19 ⟨by decide, by decide⟩ ⟨_, rfl, rfl, if_pos (by simp [gbU, nI_0, q1, q2])⟩
    · refine r_iload_n h 0 rfl rfl dX3_goesBackUnmarked_9 ?_
      refine r_iconst h (v := nI 3) (by decide) dX3_goesBackUnmarked_10 ?_
      refine r_icmp_ne h 18 dX3_goesBackUnmarked_11 (by decide) (fun q3 => ?_) (fun q3 => ?_)
      · refine r_iconst h (v := nI 0) (by decide) dX3_goesBackUnmarked_18 ?_
        exact r_zret h hQ hr (by decide) dX3_goesBackUnmarked_19 ⟨by decide, by decide⟩ ⟨_, rfl, rfl, if_neg (by simp [gbU, nI_0, q1, q2, q3])⟩
      · refine r_iconst h (v := nI 1) (by decide) dX3_goesBackUnmarked_14 ?_
        refine r_goto h 19 dX3_goesBackUnmarked_15 (by decide) ?_
        exact r_zret h hQ hr (by decide) dX3_goesBackUnmarked_19 ⟨by decide, by decide⟩ ⟨_, rfl, rfl, if_pos (by simp [gbU, nI_0, q1, q2, q3])⟩
set_option maxRecDepth 100000 in
set_option maxHeartbeats 4000000 in
/-- X3_tellsRest -/
theorem c_X3_tellsRest {G : GG} {l : Launch} {c : CC} (hG : InjG G) (hl0 : l.stackTraces = false) (k : Int32) : MC G l yX3_tellsRest (.code yX3_tellsRest cX3_tellsRest 1 (some .boolean) :: gws) (rmF 0 0 0 0) [.int k] c (pI (fun r c' => c = c' ∧ (if gbU k = true then 1 else 0) = r)) (pF) := by
  refine MC.of (by decide) hl0 hG (Nat.le_of_ble_eq_true rfl) (fun X hX h hN hQ hr => ?_)
  subst hX
  refine r_iload_n h 0 rfl rfl dX3_tellsRest_0 ?_
  refine r_if_eq h 14 dX3_tellsRest_1 (by decide) (fun q1 => ?_) (fun q1 => ?_)
  · refine r_iconst h (v := nI 1) (by decide) dX3_tellsRest_14 ?_
    refine r_goto h 19 dX3_tellsRest_15 (by decide) ?_
    exact r_zret h hQ hr (by decide) dX3_tellsRest_19 ⟨by decide, by decide⟩ ⟨_, rfl, rfl, if_pos (by simp [gbU, nI_0, q1])⟩
  · refine r_iload_n h 0 rfl rfl dX3_tellsRest_4 ?_
    refine r_iconst h (v := nI 1) (by decide) dX3_tellsRest_5 ?_
    refine r_icmp_eq h 14 dX3_tellsRest_6 (by decide) (fun q2 => ?_) (fun q2 => ?_)
    · refine r_iconst h (v := nI 1) (by decide) dX3_tellsRest_14 ?_
      refine r_goto h 19 dX3_tellsRest_15 (by decide) ?_
      exact r_zret h hQ hr (by decide) dX3_tellsRest_19 ⟨by decide, by decide⟩ ⟨_, rfl, rfl, if_pos (by simp [gbU, nI_0, q1, q2])⟩
    · refine r_iload_n h 0 rfl rfl dX3_tellsRest_9 ?_
      refine r_iconst h (v := nI 3) (by decide) dX3_tellsRest_10 ?_
      refine r_icmp_ne h 18 dX3_tellsRest_11 (by decide) (fun q3 => ?_) (fun q3 => ?_)
      · refine r_iconst h (v := nI 0) (by decide) dX3_tellsRest_18 ?_
        exact r_zret h hQ hr (by decide) dX3_tellsRest_19 ⟨by decide, by decide⟩ ⟨_, rfl, rfl, if_neg (by simp [gbU, nI_0, q1, q2, q3])⟩
      · refine r_iconst h (v := nI 1) (by decide) dX3_tellsRest_14 ?_
        refine r_goto h 19 dX3_tellsRest_15 (by decide) ?_
        exact r_zret h hQ hr (by decide) dX3_tellsRest_19 ⟨by decide, by decide⟩ ⟨_, rfl, rfl, if_pos (by simp [gbU, nI_0, q1, q2, q3])⟩
set_option maxRecDepth 100000 in
set_option maxHeartbeats 4000000 in
/-- X4_hasLine -/
theorem c_X4_hasLine {G : GG} {l : Launch} {c : CC} (hG : InjG G) (hl0 : l.stackTraces = false) (k : Int32) : MC G l yX4_hasLine (.code yX4_hasLine cX4_hasLine 1 (some .boolean) :: gws) (rmF 0 0 0 0) [.int k] c (pI (fun r c' => c = c' ∧ (if hasL k = true then 1 else 0) = r)) (pF) := by
  refine MC.of (by decide) hl0 hG (Nat.le_of_ble_eq_true rfl) (fun X hX h hN hQ hr => ?_)
  subst hX
  refine r_iload_n h 0 rfl rfl dX4_hasLine_0 ?_
  refine r_iconst h (v := nI 2) (by decide) dX4_hasLine_1 ?_
  refine r_icmp_eq h 16 dX4_hasLine_2 (by decide) (fun q1 => ?_) (fun q1 => ?_)
  · refine r_iconst h (v := nI 1) (by decide) dX4_hasLine_16 ?_
    refine r_goto h 21 dX4_hasLine_17 (by decide) ?_
    exact r_zret h hQ hr (by decide) dX4_hasLine_21 ⟨by decide, by decide⟩ ⟨_, rfl, rfl, if_pos (by simp [hasL, nI_0, q1])⟩
  · refine r_iload_n h 0 rfl rfl dX4_hasLine_5 ?_
    refine r_iconst h (v := nI 5) (by decide) dX4_hasLine_6 ?_
    refine r_icmp_eq h 16 dX4_hasLine_7 (by decide) (fun q2 => ?_) (fun q2 => ?_)
    · refine r_iconst h (v := nI 1) (by decide) dX4_hasLine_16 ?_
      refine r_goto h 21 dX4_hasLine_17 (by decide) ?_
      exact r_zret h hQ hr (by decide) dX4_hasLine_21 ⟨by decide, by decide⟩ ⟨_, rfl, rfl, if_pos (by simp [hasL, nI_0, q1, q2])⟩
    · refine r_iload_n h 0 rfl rfl dX4_hasLine_10 ?_
      refine r_bipush h (v := nI 6) (by decide) dX4_hasLine_11 ?_
      refine r_icmp_ne h 20 dX4_hasLine_13 (by decide) (fun q3 => ?_) (fun q3 => ?_)
      · refine r_iconst h (v := nI 0) (by decide) dX4_hasLine_20 ?_
        exact r_zret h hQ hr (by decide) dX4_hasLine_21 ⟨by decide, by decide⟩ ⟨_, rfl, rfl, if_neg (by simp [hasL, nI_0, q1, q2, q3])⟩
      · refine r_iconst h (v := nI 1) (by decide) dX4_hasLine_16 ?_
        refine r_goto h 21 dX4_hasLine_17 (by decide) ?_
        exact r_zret h hQ hr (by decide) dX4_hasLine_21 ⟨by decide, by decide⟩ ⟨_, rfl, rfl, if_pos (by simp [hasL, nI_0, q1, q2, q3])⟩
set_option maxRecDepth 100000 in
set_option maxHeartbeats 4000000 in
/-- X4_hasCheck -/
theorem c_X4_hasCheck {G : GG} {l : Launch} {c : CC} (hG : InjG G) (hl0 : l.stackTraces = false) (k : Int32) : MC G l yX4_hasCheck (.code yX4_hasCheck cX4_hasCheck 1 (some .boolean) :: gws) (rmF 0 0 0 0) [.int k] c (pI (fun r c' => c = c' ∧ (if hasC k = true then 1 else 0) = r)) (pF) := by
  refine MC.of (by decide) hl0 hG (Nat.le_of_ble_eq_true rfl) (fun X hX h hN hQ hr => ?_)
  subst hX
  refine r_iload_n h 0 rfl rfl dX4_hasCheck_0 ?_
  refine r_iconst h (v := nI 3) (by decide) dX4_hasCheck_1 ?_
  refine r_icmp_eq h 11 dX4_hasCheck_2 (by decide) (fun q1 => ?_) (fun q1 => ?_)
  · refine r_iconst h (v := nI 1) (by decide) dX4_hasCheck_11 ?_
    refine r_goto h 16 dX4_hasCheck_12 (by decide) ?_
    exact r_zret h hQ hr (by decide) dX4_hasCheck_16 ⟨by decide, by decide⟩ ⟨_, rfl, rfl, if_pos (by simp [hasC, nI_0, q1])⟩
  · refine r_iload_n h 0 rfl rfl dX4_hasCheck_5 ?_
    refine r_bipush h (v := nI 6) (by decide) dX4_hasCheck_6 ?_
    refine r_icmp_ne h 15 dX4_hasCheck_8 (by decide) (fun q2 => ?_) (fun q2 => ?_)
    · refine r_iconst h (v := nI 0) (by decide) dX4_hasCheck_15 ?_
      exact r_zret h hQ hr (by decide) dX4_hasCheck_16 ⟨by decide, by decide⟩ ⟨_, rfl, rfl, if_neg (by simp [hasC, nI_0, q1, q2])⟩
    · refine r_iconst h (v := nI 1) (by decide) dX4_hasCheck_11 ?_
      refine r_goto h 16 dX4_hasCheck_12 (by decide) ?_
      exact r_zret h hQ hr (by decide) dX4_hasCheck_16 ⟨by decide, by decide⟩ ⟨_, rfl, rfl, if_pos (by simp [hasC, nI_0, q1, q2])⟩
set_option maxRecDepth 100000 in
set_option maxHeartbeats 4000000 in
/-- X4_canGoBack -/
theorem c_X4_canGoBack {G : GG} {l : Launch} {c : CC} (hG : InjG G) (hl0 : l.stackTraces = false) (k : Int32) : MC G l yX4_canGoBack (.code yX4_canGoBack cX4_canGoBack 1 (some .boolean) :: gws) (rmF 0 0 0 0) [.int k] c (pI (fun r c' => c = c' ∧ (if canM k = true then 1 else 0) = r)) (pF) := by
  refine MC.of (by decide) hl0 hG (Nat.le_of_ble_eq_true rfl) (fun X hX h hN hQ hr => ?_)
  subst hX
  refine r_iload_n h 0 rfl rfl dX4_canGoBack_0 ?_
  refine r_if_eq h 20 dX4_canGoBack_1 (by decide) (fun q1 => ?_) (fun q1 => ?_)
  · refine r_iconst h (v := nI 1) (by decide) dX4_canGoBack_20 ?_
    refine r_goto h 25 dX4_canGoBack_21 (by decide) ?_
    exact r_zret h hQ hr (by decide) dX4_canGoBack_25 ⟨by decide, by decide⟩ ⟨_, rfl, rfl, if_pos (by simp [canM, nI_0, q1])⟩
  · refine r_iload_n h 0 rfl rfl dX4_canGoBack_4 ?_
    refine r_iconst h (v := nI 2) (by decide) dX4_canGoBack_5 ?_
    refine r_icmp_eq h 20 dX4_canGoBack_6 (by decide) (fun q2 => ?_) (fun q2 => ?_)
    · refine r_iconst h (v := nI 1) (by decide) dX4_canGoBack_20 ?_
      refine r_goto h 25 dX4_canGoBack_21 (by decide) ?_
      exact r_zret h hQ hr (by decide) dX4_canGoBack_25 ⟨by decide, by decide⟩ ⟨_, rfl, rfl, if_pos (by simp [canM, nI_0, q1, q2])⟩
    · refine r_iload_n h 0 rfl rfl dX4_canGoBack_9 ?_
      refine r_iconst h (v := nI 3) (by decide) dX4_canGoBack_10 ?_
      refine r_icmp_eq h 20 dX4_canGoBack_11 (by decide) (fun q3 => ?_) (fun q3 => ?_)
      · refine r_iconst h (v := nI 1) (by decide) dX4_canGoBack_20 ?_
        refine r_goto h 25 dX4_canGoBack_21 (by decide) ?_
        exact r_zret h hQ hr (by decide) dX4_canGoBack_25 ⟨by decide, by decide⟩ ⟨_, rfl, rfl, if_pos (by simp [canM, nI_0, q1, q2, q3])⟩
      · refine r_iload_n h 0 rfl rfl dX4_canGoBack_14 ?_
        refine r_bipush h (v := nI 6) (by decide) dX4_canGoBack_15 ?_
        refine r_icmp_ne h 24 dX4_canGoBack_17 (by decide) (fun q4 => ?_) (fun q4 => ?_)
        · refine r_iconst h (v := nI 0) (by decide) dX4_canGoBack_24 ?_
          exact r_zret h hQ hr (by decide) dX4_canGoBack_25 ⟨by decide, by decide⟩ ⟨_, rfl, rfl, if_neg (by simp [canM, nI_0, q1, q2, q3, q4])⟩
        · refine r_iconst h (v := nI 1) (by decide) dX4_canGoBack_20 ?_
          refine r_goto h 25 dX4_canGoBack_21 (by decide) ?_
          exact r_zret h hQ hr (by decide) dX4_canGoBack_25 ⟨by decide, by decide⟩ ⟨_, rfl, rfl, if_pos (by simp [canM, nI_0, q1, q2, q3, q4])⟩
set_option maxRecDepth 100000 in
set_option maxHeartbeats 4000000 in
/-- X4_isOfTwo -/
theorem c_X4_isOfTwo {G : GG} {l : Launch} {c : CC} (hG : InjG G) (hl0 : l.stackTraces = false) (k : Int32) : MC G l yX4_isOfTwo (.code yX4_isOfTwo cX4_isOfTwo 1 (some .boolean) :: gws) (rmF 0 0 0 0) [.int k] c (pI (fun r c' => c = c' ∧ (if isTw k = true then 1 else 0) = r)) (pF) := by
  refine MC.of (by decide) hl0 hG (Nat.le_of_ble_eq_true rfl) (fun X hX h hN hQ hr => ?_)
  subst hX
  refine r_iload_n h 0 rfl rfl dX4_isOfTwo_0 ?_
  refine r_iconst h (v := nI 4) (by decide) dX4_isOfTwo_1 ?_
  refine r_icmp_eq h 16 dX4_isOfTwo_2 (by decide) (fun q1 => ?_) (fun q1 => ?_)
  · refine r_iconst h (v := nI 1) (by decide) dX4_isOfTwo_16 ?_
    refine r_goto h 21 dX4_isOfTwo_17 (by decide) ?_
    exact r_zret h hQ hr (by decide) dX4_isOfTwo_21 ⟨by decide, by decide⟩ ⟨_, rfl, rfl, if_pos (by simp [isTw, nI_0, q1])⟩
  · refine r_iload_n h 0 rfl rfl dX4_isOfTwo_5 ?_
    refine r_iconst h (v := nI 5) (by decide) dX4_isOfTwo_6 ?_
    refine r_icmp_eq h 16 dX4_isOfTwo_7 (by decide) (fun q2 => ?_) (fun q2 => ?_)
    · refine r_iconst h (v := nI 1) (by decide) dX4_isOfTwo_16 ?_
      refine r_goto h 21 dX4_isOfTwo_17 (by decide) ?_
      exact r_zret h hQ hr (by decide) dX4_isOfTwo_21 ⟨by decide, by decide⟩ ⟨_, rfl, rfl, if_pos (by simp [isTw, nI_0, q1, q2])⟩
    · refine r_iload_n h 0 rfl rfl dX4_isOfTwo_10 ?_
      refine r_bipush h (v := nI 7) (by decide) dX4_isOfTwo_11 ?_
      refine r_icmp_ne h 20 dX4_isOfTwo_13 (by decide) (fun q3 => ?_) (fun q3 => ?_)
      · refine r_iconst h (v := nI 0) (by decide) dX4_isOfTwo_20 ?_
        exact r_zret h hQ hr (by decide) dX4_isOfTwo_21 ⟨by decide, by decide⟩ ⟨_, rfl, rfl, if_neg (by simp [isTw, nI_0, q1, q2, q3])⟩
      · refine r_iconst h (v := nI 1) (by decide) dX4_isOfTwo_16 ?_
        refine r_goto h 21 dX4_isOfTwo_17 (by decide) ?_
        exact r_zret h hQ hr (by decide) dX4_isOfTwo_21 ⟨by decide, by decide⟩ ⟨_, rfl, rfl, if_pos (by simp [isTw, nI_0, q1, q2, q3])⟩
set_option maxRecDepth 100000 in
set_option maxHeartbeats 4000000 in
/-- X3_isLined -/
theorem c_X3_isLined {G : GG} {l : Launch} {c : CC} (hG : InjG G) (hl0 : l.stackTraces = false) (k : Int32) : MC G l yX3_isLined (.code yX3_isLined cX3_isLined 1 (some .boolean) :: gws) (rmF 1 0 0 20) [.int k] c (pI (fun r c' => c = c' ∧ (if isLi k = true then 1 else 0) = r)) (pF) := by
  refine MC.of (by decide) hl0 hG (Nat.le_of_ble_eq_true rfl) (fun X hX h hN hQ hr => ?_)
  subst hX
  refine r_iload_n h 0 rfl rfl dX3_isLined_0 ?_
  refine r_cS h k_X3_154 (As := [.int k]) (rest := []) (c_X3_hasLine h.i h.t k) rfl rfl (Nat.le_of_ble_eq_true rfl) ⟨by decide, by decide, by decide, by decide⟩ dX3_isLined_1 (fun _ z => z.elim) (fun v1 c2 p3 => ?_)
  obtain ⟨r, rfl, rfl, rfl⟩ := p3
  refine rb_if_ne h 13 dX3_isLined_4 (by decide) (fun u => ?_) (fun u => ?_)
  · refine r_iconst h (v := nI 1) (by decide) dX3_isLined_13 ?_
    refine r_goto h 18 dX3_isLined_14 (by decide) ?_
    exact r_zret h hQ hr (by decide) dX3_isLined_18 ⟨by decide, by decide⟩ ⟨_, rfl, rfl, if_pos (by simp [isLi, u])⟩
  · refine r_iload_n h 0 rfl rfl dX3_isLined_7 ?_
    refine r_bipush h (v := nI 7) (by decide) dX3_isLined_8 ?_
    refine r_icmp_ne h 17 dX3_isLined_10 (by decide) (fun q4 => ?_) (fun q4 => ?_)
    · refine r_iconst h (v := nI 0) (by decide) dX3_isLined_17 ?_
      exact r_zret h hQ hr (by decide) dX3_isLined_18 ⟨by decide, by decide⟩ ⟨_, rfl, rfl, if_neg (by simp [isLi, u, q4])⟩
    · refine r_iconst h (v := nI 1) (by decide) dX3_isLined_13 ?_
      refine r_goto h 18 dX3_isLined_14 (by decide) ?_
      exact r_zret h hQ hr (by decide) dX3_isLined_18 ⟨by decide, by decide⟩ ⟨_, rfl, rfl, if_pos (by simp [isLi, u, q4])⟩
set_option maxRecDepth 100000 in
set_option maxHeartbeats 4000000 in
/-- X3_withByte -/
theorem c_X3_withByte {G : GG} {l : Launch} {c : CC} (hG : InjG G) (hl0 : l.stackTraces = false) (g : Int64) (x : Int32) : MC G l yX3_withByte (.code yX3_withByte cX3_withByte 7 (some .long) :: gws) (rmF 0 0 0 0) [.long g, .int x] c (pL (fun r c' => c = c' ∧ wb g x = r)) (pF) := by
  refine MC.of (by decide) hl0 hG (Nat.le_of_ble_eq_true rfl) (fun X hX h hN hQ hr => ?_)
  subst hX
  refine r_lload_n h 0 rfl rfl dX3_withByte_0 ?_
  refine r_iload_n h 1 rfl rfl dX3_withByte_1 ?_
  refine r_i2l h rfl dX3_withByte_2 ?_
  refine r_lxor h rfl dX3_withByte_3 ?_
  refine r_lstore_n h ([(3, .long ((g) ^^^ ((x).toInt64))), (0, .long (g)), (2, .int x)]) rfl dX3_withByte_4 (by decide) rfl ?_
  refine r_iconst h (v := nI 0) (by decide) dX3_withByte_5 ?_
  refine r_istore h ([(5, .int (nI 0)), (3, .long ((g) ^^^ ((x).toInt64))), (0, .long (g)), (2, .int x)]) dX3_withByte_6 (by decide) rfl ?_
  have loop : ∀ (n j : Nat) (y : Int64), 9 ≤ j + n → j ≤ 8 → y = wbi j (g ^^^ x.toInt64) → V G X c [(0, .long (g)), (2, .int x), (3, .long (y)), (5, .int (nI j))] 0 0 8 [] := by
    intro n
    induction n with
    | zero => intro j y a1 a2; exact absurd a1 (by omega)
    | succ n ih =>
      intro j y a1 a2 a3
      refine r_iload h 3 rfl dX3_withByte_8 ?_
      refine r_bipush h (v := nI 8) (by decide) dX3_withByte_10 ?_
      refine rn_icmp_ge h (a := j) (b := 8) (by omega) (by omega) 51 dX3_withByte_12 (by decide) (fun q => ?_) (fun q => ?_)
      · refine r_lload_n h 2 rfl rfl dX3_withByte_51 ?_
        exact r_lret h hQ hr dX3_withByte_52 ⟨by decide, by decide⟩ ⟨_, rfl, rfl, by rw [a3, show j = 8 by omega]; rfl⟩
      · refine r_lload_n h 2 rfl rfl dX3_withByte_15 ?_
        refine r_lconst h (v := 1) (by decide) dX3_withByte_16 ?_
        refine r_land h rfl dX3_withByte_17 ?_
        refine r_lconst h (v := 0) (by decide) dX3_withByte_18 ?_
        refine r_lcmp h rfl dX3_withByte_19 ?_
        refine r_if_eq h 27 dX3_withByte_20 (by decide) (fun u => ?_) (fun u => ?_)
        · have hy : wb1 y = hlf y := if_pos (lg0.mp u)
          refine r_iconst h (v := nI 0) (by decide) dX3_withByte_27 ?_
          refine r_istore h ([(6, .int (nI 0)), (0, .long (g)), (2, .int x), (3, .long (y)), (5, .int (nI j))]) dX3_withByte_28 (by decide) rfl ?_
          refine r_lload_n h 3 rfl rfl dX3_withByte_30 ?_
          refine r_iconst h (v := nI 1) (by decide) dX3_withByte_31 ?_
          refine r_lushr h rfl dX3_withByte_32 ?_
          refine r_lstore_n h ([(3, .long (((y).toUInt64 >>> (((nI (1)) : Int32).toInt64.toUInt64 &&& Int64.toUInt64 63)).toInt64)), (6, .int (nI 0)), (0, .long (g)), (2, .int x), (5, .int (nI j))]) rfl dX3_withByte_33 (by decide) rfl ?_
          refine r_iload h 1 rfl dX3_withByte_34 ?_
          refine rn_if_eq h (a := 0) (by omega) 45 dX3_withByte_36 (by decide) (fun z => ?_) (fun z => ?_)
          · refine r_iinc h 4 ([(5, .int (nI (j + 1))), (3, .long (((y).toUInt64 >>> (((nI (1)) : Int32).toInt64.toUInt64 &&& Int64.toUInt64 63)).toInt64)), (6, .int (nI 0)), (0, .long (g)), (2, .int x)]) rfl (inc_1 (j)) dX3_withByte_45 (by decide) rfl ?_
            refine r_goto h 8 dX3_withByte_48 (by decide) ?_
            refine V_lv [3, 4, 1, 0] rfl ?_
            exact ih (j + 1) _ (by omega) (by omega) (by rw [show wbi (j + 1) (g ^^^ x.toInt64) = wb1 (wbi j (g ^^^ x.toInt64)) from rfl, ← a3, hy]; rfl)
          · exact absurd rfl z
        · have hy : wb1 y = hlf y ^^^ 2197175160 := if_neg (fun z => u (lg0.mpr z))
          refine r_iconst h (v := nI 1) (by decide) dX3_withByte_23 ?_
          refine r_goto h 28 dX3_withByte_24 (by decide) ?_
          refine r_istore h ([(6, .int (nI 1)), (0, .long (g)), (2, .int x), (3, .long (y)), (5, .int (nI j))]) dX3_withByte_28 (by decide) rfl ?_
          refine r_lload_n h 3 rfl rfl dX3_withByte_30 ?_
          refine r_iconst h (v := nI 1) (by decide) dX3_withByte_31 ?_
          refine r_lushr h rfl dX3_withByte_32 ?_
          refine r_lstore_n h ([(3, .long (((y).toUInt64 >>> (((nI (1)) : Int32).toInt64.toUInt64 &&& Int64.toUInt64 63)).toInt64)), (6, .int (nI 1)), (0, .long (g)), (2, .int x), (5, .int (nI j))]) rfl dX3_withByte_33 (by decide) rfl ?_
          refine r_iload h 1 rfl dX3_withByte_34 ?_
          refine rn_if_eq h (a := 1) (by omega) 45 dX3_withByte_36 (by decide) (fun z => ?_) (fun z => ?_)
          · exact absurd z (by decide)
          · refine r_lload_n h 0 rfl rfl dX3_withByte_39 ?_
            refine r_ldc2 h K_X3_224 dX3_withByte_40 ?_
            refine r_lxor h rfl dX3_withByte_43 ?_
            refine r_lstore_n h ([(3, .long ((((y).toUInt64 >>> (((nI (1)) : Int32).toInt64.toUInt64 &&& Int64.toUInt64 63)).toInt64) ^^^ (2197175160))), (6, .int (nI 1)), (0, .long (g)), (2, .int x), (5, .int (nI j))]) rfl dX3_withByte_44 (by decide) rfl ?_
            refine r_iinc h 4 ([(5, .int (nI (j + 1))), (3, .long ((((y).toUInt64 >>> (((nI (1)) : Int32).toInt64.toUInt64 &&& Int64.toUInt64 63)).toInt64) ^^^ (2197175160))), (6, .int (nI 1)), (0, .long (g)), (2, .int x)]) rfl (inc_1 (j)) dX3_withByte_45 (by decide) rfl ?_
            refine r_goto h 8 dX3_withByte_48 (by decide) ?_
            refine V_lv [3, 4, 1, 0] rfl ?_
            exact ih (j + 1) _ (by omega) (by omega) (by rw [show wbi (j + 1) (g ^^^ x.toInt64) = wb1 (wbi j (g ^^^ x.toInt64)) from rfl, ← a3, hy]; rfl)
  refine V_lv [2, 3, 1, 0] rfl ?_
  exact loop 9 0 _ (by omega) (by omega) rfl
