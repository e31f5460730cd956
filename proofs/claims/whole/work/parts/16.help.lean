/-! HELPERS of the class: what the calls ask of their arguments -/
set_option maxRecDepth 100000 in
set_option maxHeartbeats 4000000 in
/-- X3_sourceAt -/
theorem c_X3_sourceAt {G : GG} {l : Launch} {c : CC} (hG : InjG G) (hl0 : l.stackTraces = false) {σ : St} (hc : Cls G c σ) (x : Int32) : MC G l yX3_sourceAt (.code yX3_sourceAt cX3_sourceAt 2 (some (.object "Layerwell$Row")) :: gws) (rmF 6 1 6 95) [.ref (G.1 0), .int x] c (pR (fun r c' => ∃ j : Nat, j < 4 ∧ x = nI j ∧ G.1 (3 + 2 * j) = r ∧ c = c')) (fun E => eIO = E ∧ ixB x = false) := by
  refine MC.of (by decide) hl0 hG (Nat.le_of_ble_eq_true rfl) (fun X hX h hN hQ hr => ?_)
  subst hX
  refine r_iload_n h 1 rfl rfl dX3_sourceAt_0 ?_
  refine r_if_lt h 9 dX3_sourceAt_1 (by decide) (fun q1 => ?_) (fun q1 => ?_)
  · exact r_throw h hN hQ th3 (List.mem_of_getElem? (i := 0) rfl) dX3_sourceAt_9 dX3_sourceAt_12 dX3_sourceAt_13 dX3_sourceAt_15 dX3_sourceAt_18 ⟨by decide, Nat.le_of_ble_eq_true rfl, by decide, by decide⟩ (⟨rfl, ixB_neg q1⟩)
  · refine r_iload_n h 1 rfl rfl dX3_sourceAt_4 ?_
    refine r_iconst h (v := nI 4) (by decide) dX3_sourceAt_5 ?_
    refine r_icmp_lt h 19 dX3_sourceAt_6 (by decide) (fun q2 => ?_) (fun q2 => ?_)
    · obtain ⟨j, hj, rfl⟩ := ix4 q1 q2
      obtain ⟨f, e1, e2⟩ := hc.2.1
      refine r_aload_n h 0 rfl rfl dX3_sourceAt_19 ?_
      refine r_getf h F_X3_11 (i := 0) (by omega) hc.o rfl dX3_sourceAt_20 ?_
      refine r_iload_n h 1 rfl rfl dX3_sourceAt_23 ?_
      refine r_aald h (i := 1) (by omega) (cy := 4) e1 rfl (x := j) (by omega) (by decide) (e2 j hj) dX3_sourceAt_24 ?_
      exact r_aret h hQ hr dX3_sourceAt_25 ⟨by decide, by decide⟩ ⟨_, rfl, j, hj, rfl, rfl, rfl⟩
    · exact r_throw h hN hQ th3 (List.mem_of_getElem? (i := 0) rfl) dX3_sourceAt_9 dX3_sourceAt_12 dX3_sourceAt_13 dX3_sourceAt_15 dX3_sourceAt_18 ⟨by decide, Nat.le_of_ble_eq_true rfl, by decide, by decide⟩ (⟨rfl, ixB_big q2⟩)
set_option maxRecDepth 100000 in
set_option maxHeartbeats 4000000 in
/-- X3_streamAt -/
theorem c_X3_streamAt {G : GG} {l : Launch} {c : CC} (hG : InjG G) (hl0 : l.stackTraces = false) {σ : St} (hc : Cls G c σ) (x : Int32) : MC G l yX3_streamAt (.code yX3_streamAt cX3_streamAt 2 (some (.object "Layerwell$Stream")) :: gws) (rmF 6 1 6 95) [.ref (G.1 0), .int x] c (pR (fun r c' => ∃ j : Nat, j < 4 ∧ x = nI j ∧ G.1 (13 + 3 * j) = r ∧ c = c')) (fun E => eIO = E ∧ ixB x = false) := by
  refine MC.of (by decide) hl0 hG (Nat.le_of_ble_eq_true rfl) (fun X hX h hN hQ hr => ?_)
  subst hX
  refine r_iload_n h 1 rfl rfl dX3_streamAt_0 ?_
  refine r_if_lt h 9 dX3_streamAt_1 (by decide) (fun q1 => ?_) (fun q1 => ?_)
  · exact r_throw h hN hQ th3 (List.mem_of_getElem? (i := 6) rfl) dX3_streamAt_9 dX3_streamAt_12 dX3_streamAt_13 dX3_streamAt_15 dX3_streamAt_18 ⟨by decide, Nat.le_of_ble_eq_true rfl, by decide, by decide⟩ (⟨rfl, ixB_neg q1⟩)
  · refine r_iload_n h 1 rfl rfl dX3_streamAt_4 ?_
    refine r_iconst h (v := nI 4) (by decide) dX3_streamAt_5 ?_
    refine r_icmp_lt h 19 dX3_streamAt_6 (by decide) (fun q2 => ?_) (fun q2 => ?_)
    · obtain ⟨j, hj, rfl⟩ := ix4 q1 q2
      obtain ⟨f, e1, e2⟩ := hc.2.2.1
      refine r_aload_n h 0 rfl rfl dX3_streamAt_19 ?_
      refine r_getf h F_X3_17 (i := 0) (by omega) hc.o rfl dX3_streamAt_20 ?_
      refine r_iload_n h 1 rfl rfl dX3_streamAt_23 ?_
      refine r_aald h (i := 2) (by omega) (cy := 5) e1 rfl (x := j) (by omega) (by decide) (e2 j hj) dX3_streamAt_24 ?_
      exact r_aret h hQ hr dX3_streamAt_25 ⟨by decide, by decide⟩ ⟨_, rfl, j, hj, rfl, rfl, rfl⟩
    · exact r_throw h hN hQ th3 (List.mem_of_getElem? (i := 6) rfl) dX3_streamAt_9 dX3_streamAt_12 dX3_streamAt_13 dX3_streamAt_15 dX3_streamAt_18 ⟨by decide, Nat.le_of_ble_eq_true rfl, by decide, by decide⟩ (⟨rfl, ixB_big q2⟩)
set_option maxRecDepth 100000 in
set_option maxHeartbeats 4000000 in
/-- X3_requireOpen -/
theorem c_X3_requireOpen {G : GG} {l : Launch} {c : CC} (hG : InjG G) (hl0 : l.stackTraces = false) {i : Nat} (hi : i < 46) {t : Stm} (hw : StrAt G c i t) : MC G l yX3_requireOpen (.code yX3_requireOpen cX3_requireOpen 1 none :: gws) (rmF 6 1 6 95) [.ref (G.1 i)] c (pV (fun c' => c = c' ∧ ¬ sK t = -1)) (fun E => eUO = E ∧ sK t = -1) := by
  refine MC.of (by decide) hl0 hG (Nat.le_of_ble_eq_true rfl) (fun X hX h hN hQ hr => ?_)
  subst hX
  obtain ⟨K, O, M, P, N, g, mk⟩ := t
  obtain ⟨hok, hrow, rg, mp, ml, h0, hrg, hmk⟩ := id hw
  have hP : P ≤ O.length := hok.1
  have hle : O.length ≤ 240 := hrow.le
  have hMl : M ≤ O.length := hok.2.2.2.1
  have hSl : seC K M ≤ M := by unfold seC; split <;> omega
  have hrow : RowAt G c (i + 1) O := hrow
  have h0 : c i = .inr (3, [.ref (G.1 (i + 1)), .int K, .int (nI (seC K M)), .int (nI P), .int N, .long (rg), .int mp, .int ml]) := h0
  refine r_aload_n h 0 rfl rfl dX3_requireOpen_0 ?_
  refine r_getN h F_X3_92 (i := i) (by omega) h0 rfl dX3_requireOpen_1 ?_
  refine r_iconst h (v := -1) (by decide) dX3_requireOpen_4 ?_
  refine r_icmp_ne h 18 dX3_requireOpen_5 (by decide) (fun q => ?_) (fun q => ?_)
  · exact r_vret h hQ hr dX3_requireOpen_18 ⟨by decide, by decide⟩ ⟨rfl, rfl, q⟩
  · exact r_throw h hN hQ th4 (List.mem_of_getElem? (i := 7) rfl) dX3_requireOpen_8 dX3_requireOpen_11 dX3_requireOpen_12 dX3_requireOpen_14 dX3_requireOpen_17 ⟨by decide, Nat.le_of_ble_eq_true rfl, by decide, by decide⟩ (⟨rfl, q⟩)
set_option maxRecDepth 100000 in
set_option maxHeartbeats 4000000 in
/-- X3_require -/
theorem c_X3_require {G : GG} {l : Launch} {c : CC} (hG : InjG G) (hl0 : l.stackTraces = false) (b : Bool) : MC G l yX3_require (.code yX3_require cX3_require 1 none :: gws) (rmF 6 1 6 95) [.int (if b = true then 1 else 0)] c (pV (fun c' => c = c' ∧ b = true)) (fun E => eUO = E ∧ b = false) := by
  refine MC.of (by decide) hl0 hG (Nat.le_of_ble_eq_true rfl) (fun X hX h hN hQ hr => ?_)
  subst hX
  refine r_iload_n h 0 rfl rfl dX3_require_0 ?_
  refine rb_if_ne h 14 dX3_require_1 (by decide) (fun q => ?_) (fun q => ?_)
  · exact r_vret h hQ hr dX3_require_14 ⟨by decide, by decide⟩ ⟨rfl, rfl, q⟩
  · exact r_throw h hN hQ th4 (List.mem_of_getElem? (i := 9) rfl) dX3_require_4 dX3_require_7 dX3_require_8 dX3_require_10 dX3_require_13 ⟨by decide, Nat.le_of_ble_eq_true rfl, by decide, by decide⟩ (⟨rfl, Bool.eq_false_iff.mpr q⟩)
set_option maxRecDepth 100000 in
set_option maxHeartbeats 4000000 in
/-- X3_requireByte -/
theorem c_X3_requireByte {G : GG} {l : Launch} {c : CC} (hG : InjG G) (hl0 : l.stackTraces = false) (y : Int32) : MC G l yX3_requireByte (.code yX3_requireByte cX3_requireByte 1 none :: gws) (rmF 6 1 6 95) [.int y] c (pV (fun c' => c = c' ∧ byB y = true)) (fun E => eIA = E ∧ byB y = false) := by
  refine MC.of (by decide) hl0 hG (Nat.le_of_ble_eq_true rfl) (fun X hX h hN hQ hr => ?_)
  subst hX
  refine r_iload_n h 0 rfl rfl dX3_requireByte_0 ?_
  refine r_if_lt h 11 dX3_requireByte_1 (by decide) (fun q1 => ?_) (fun q1 => ?_)
  · exact r_throw h hN hQ th1 (List.mem_of_getElem? (i := 1) rfl) dX3_requireByte_11 dX3_requireByte_14 dX3_requireByte_15 dX3_requireByte_17 dX3_requireByte_20 ⟨by decide, Nat.le_of_ble_eq_true rfl, by decide, by decide⟩ (⟨rfl, decide_eq_false (fun z => i_nle q1 z.1)⟩)
  · refine r_iload_n h 0 rfl rfl dX3_requireByte_4 ?_
    refine r_sipush h (v := nI 255) (by decide) dX3_requireByte_5 ?_
    refine r_icmp_le h 21 dX3_requireByte_8 (by decide) (fun q2 => ?_) (fun q2 => ?_)
    · exact r_vret h hQ hr dX3_requireByte_21 ⟨by decide, by decide⟩ ⟨rfl, rfl, decide_eq_true ⟨i_le q1, q2⟩⟩
    · exact r_throw h hN hQ th1 (List.mem_of_getElem? (i := 1) rfl) dX3_requireByte_11 dX3_requireByte_14 dX3_requireByte_15 dX3_requireByte_17 dX3_requireByte_20 ⟨by decide, Nat.le_of_ble_eq_true rfl, by decide, by decide⟩ (⟨rfl, decide_eq_false (fun z => q2 z.2)⟩)
set_option maxRecDepth 100000 in
set_option maxHeartbeats 4000000 in
/-- X3_requireBetween -/
theorem c_X3_requireBetween {G : GG} {l : Launch} {c : CC} (hG : InjG G) (hl0 : l.stackTraces = false) (n lo hi : Int32) : MC G l yX3_requireBetween (.code yX3_requireBetween cX3_requireBetween 3 none :: gws) (rmF 6 1 6 95) [.int n, .int lo, .int hi] c (pV (fun c' => c = c' ∧ btB n lo hi = true)) (fun E => eIA = E ∧ btB n lo hi = false) := by
  refine MC.of (by decide) hl0 hG (Nat.le_of_ble_eq_true rfl) (fun X hX h hN hQ hr => ?_)
  subst hX
  refine r_iload_n h 0 rfl rfl dX3_requireBetween_0 ?_
  refine r_iload_n h 1 rfl rfl dX3_requireBetween_1 ?_
  refine r_icmp_lt h 10 dX3_requireBetween_2 (by decide) (fun q1 => ?_) (fun q1 => ?_)
  · exact r_throw h hN hQ th1 (List.mem_of_getElem? (i := 3) rfl) dX3_requireBetween_10 dX3_requireBetween_13 dX3_requireBetween_14 dX3_requireBetween_16 dX3_requireBetween_19 ⟨by decide, Nat.le_of_ble_eq_true rfl, by decide, by decide⟩ (⟨rfl, decide_eq_false (fun z => i_nle q1 z.1)⟩)
  · refine r_iload_n h 0 rfl rfl dX3_requireBetween_5 ?_
    refine r_iload_n h 2 rfl rfl dX3_requireBetween_6 ?_
    refine r_icmp_le h 20 dX3_requireBetween_7 (by decide) (fun q2 => ?_) (fun q2 => ?_)
    · exact r_vret h hQ hr dX3_requireBetween_20 ⟨by decide, by decide⟩ ⟨rfl, rfl, decide_eq_true ⟨i_le q1, q2⟩⟩
    · exact r_throw h hN hQ th1 (List.mem_of_getElem? (i := 3) rfl) dX3_requireBetween_10 dX3_requireBetween_13 dX3_requireBetween_14 dX3_requireBetween_16 dX3_requireBetween_19 ⟨by decide, Nat.le_of_ble_eq_true rfl, by decide, by decide⟩ (⟨rfl, decide_eq_false (fun z => q2 z.2)⟩)
set_option maxRecDepth 100000 in
set_option maxHeartbeats 4000000 in
/-- X3_requireRoom -/
theorem c_X3_requireRoom {G : GG} {l : Launch} {c : CC} (hG : InjG G) (hl0 : l.stackTraces = false) (s : Nat) (hs : s < 2147483648) : MC G l yX3_requireRoom (.code yX3_requireRoom cX3_requireRoom 1 none :: gws) (rmF 6 1 6 95) [.int (nI s)] c (pV (fun c' => c = c' ∧ s ≤ 120)) (fun E => eIS = E ∧ ¬ s ≤ 120) := by
  refine MC.of (by decide) hl0 hG (Nat.le_of_ble_eq_true rfl) (fun X hX h hN hQ hr => ?_)
  subst hX
  refine r_iload_n h 0 rfl rfl dX3_requireRoom_0 ?_
  refine r_bipush h (v := nI 120) (by decide) dX3_requireRoom_1 ?_
  refine rn_icmp_le h (a := s) (b := 120) (by omega) (by omega) 16 dX3_requireRoom_3 (by decide) (fun q => ?_) (fun q => ?_)
  · exact r_vret h hQ hr dX3_requireRoom_16 ⟨by decide, by decide⟩ ⟨rfl, rfl, q⟩
  · exact r_throw h hN hQ th2 (List.mem_of_getElem? (i := 2) rfl) dX3_requireRoom_6 dX3_requireRoom_9 dX3_requireRoom_10 dX3_requireRoom_12 dX3_requireRoom_15 ⟨by decide, Nat.le_of_ble_eq_true rfl, by decide, by decide⟩ (⟨rfl, by omega⟩)
set_option maxRecDepth 100000 in
set_option maxHeartbeats 4000000 in
/-- X3_requirePlace -/
theorem c_X3_requirePlace {G : GG} {l : Launch} {c : CC} (hG : InjG G) (hl0 : l.stackTraces = false) {i : Nat} (hi : i < 48) {L : List Int32} (hw : RowAt G c i L) (y : Int32) : MC G l yX3_requirePlace (.code yX3_requirePlace cX3_requirePlace 2 none :: gws) (rmF 6 1 6 95) [.ref (G.1 i), .int y] c (pV (fun c' => c = c' ∧ ∃ j : Nat, j < L.length ∧ y = nI j)) (fun E => eIO = E ∧ plB L y = false) := by
  refine MC.of (by decide) hl0 hG (Nat.le_of_ble_eq_true rfl) (fun X hX h hN hQ hr => ?_)
  subst hX
  have hle := hw.le
  refine r_iload_n h 1 rfl rfl dX3_requirePlace_0 ?_
  refine r_if_lt h 12 dX3_requirePlace_1 (by decide) (fun q1 => ?_) (fun q1 => ?_)
  · exact r_throw h hN hQ th3 (List.mem_of_getElem? (i := 5) rfl) dX3_requirePlace_12 dX3_requirePlace_15 dX3_requirePlace_16 dX3_requirePlace_18 dX3_requirePlace_21 ⟨by decide, Nat.le_of_ble_eq_true rfl, by decide, by decide⟩ (⟨rfl, decide_eq_false (fun z => i_nle q1 z.1)⟩)
  · refine r_iload_n h 1 rfl rfl dX3_requirePlace_4 ?_
    refine r_aload_n h 0 rfl rfl dX3_requirePlace_5 ?_
    refine r_cV h k_X3_42 (i := i) (As := []) (rest := [.int y]) (c_X0_size h.i h.t (by omega) hw) (by omega) hw.1 rfl rfl rfl (Nat.le_of_ble_eq_true rfl) ⟨by decide, by decide, by decide, by decide⟩ dX3_requirePlace_6 (fun _ z => z.elim) (fun v1 c2 p3 => ?_)
    obtain ⟨r, rfl, rfl, rfl⟩ := p3
    refine r_icmp_lt h 22 dX3_requirePlace_9 (by decide) (fun q2 => ?_) (fun q2 => ?_)
    · obtain ⟨j, hj, rfl⟩ := ix_of q1 (i_nle q2) (by omega)
      exact r_vret h hQ hr dX3_requirePlace_22 ⟨by decide, by decide⟩ ⟨rfl, rfl, j, hj, rfl⟩
    · exact r_throw h hN hQ th3 (List.mem_of_getElem? (i := 5) rfl) dX3_requirePlace_12 dX3_requirePlace_15 dX3_requirePlace_16 dX3_requirePlace_18 dX3_requirePlace_21 ⟨by decide, Nat.le_of_ble_eq_true rfl, by decide, by decide⟩ (⟨rfl, decide_eq_false (fun z => q2 z.2)⟩)
set_option maxRecDepth 100000 in
set_option maxHeartbeats 4000000 in
/-- X3_openStreamAt -/
theorem c_X3_openStreamAt {G : GG} {l : Launch} {c : CC} (hG : InjG G) (hl0 : l.stackTraces = false) {σ : St} (hc : Cls G c σ) (x : Int32) : MC G l yX3_openStreamAt (.code yX3_openStreamAt cX3_openStreamAt 3 (some (.object "Layerwell$Stream")) :: gws) (rmF 7 2 12 116) [.ref (G.1 0), .int x] c (pR (fun r c' => ∃ j : Nat, j < 4 ∧ x = nI j ∧ G.1 (13 + 3 * j) = r ∧ c = c' ∧ ¬ sK (σ.2.2 j) = -1)) (fun E => (eIO = E ∧ ixB x = false) ∨ (eUO = E ∧ ixB x = true ∧ sK (σ.2.2 (ixN x)) = -1)) := by
  refine MC.of (by decide) hl0 hG (Nat.le_of_ble_eq_true rfl) (fun X hX h hN hQ hr => ?_)
  subst hX
  refine r_aload_n h 0 rfl rfl dX3_openStreamAt_0 ?_
  refine r_iload_n h 1 rfl rfl dX3_openStreamAt_1 ?_
  refine r_cV h k_X3_80 (i := 0) (As := [.int x]) (rest := []) (c_X3_streamAt h.i h.t hc x) (by omega) hc.o rfl rfl rfl (Nat.le_of_ble_eq_true rfl) ⟨by decide, by decide, by decide, by decide⟩ dX3_openStreamAt_2 (fun E hE => VX.out h hN hQ ⟨by decide, by decide⟩ (Or.inl hE)) (fun v1 c2 p3 => ?_)
  obtain ⟨r, rfl, j, hj, rfl, rfl, rfl⟩ := p3
  refine r_astore_n h ([(2, .ref (G.1 (13 + 3 * j))), (0, .ref (G.1 0)), (1, .int (nI j))]) rfl dX3_openStreamAt_5 (by decide) rfl ?_
  refine r_aload_n h 0 rfl rfl dX3_openStreamAt_6 ?_
  refine r_cS h k_X3_102 (As := [.ref (G.1 (13 + 3 * j))]) (rest := []) (c_X3_requireOpen h.i h.t (by omega) (hc.str hj)) rfl rfl (Nat.le_of_ble_eq_true rfl) ⟨by decide, by decide, by decide, by decide⟩ dX3_openStreamAt_7 (fun E hE => VX.out h hN hQ ⟨by decide, by decide⟩ (Or.inr ⟨hE.1, ixB_yes hj, by rw [ixN_nI hj]; exact hE.2⟩)) (fun v4 c5 p6 => ?_)
  obtain ⟨rfl, rfl, hop⟩ := p6
  refine r_aload_n h 0 rfl rfl dX3_openStreamAt_10 ?_
  exact r_aret h hQ hr dX3_openStreamAt_11 ⟨by decide, by decide⟩ ⟨_, rfl, j, hj, rfl, rfl, rfl, hop⟩
