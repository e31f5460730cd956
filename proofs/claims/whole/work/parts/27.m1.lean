/-! THE MODEL: its own helpers -/
set_option maxRecDepth 100000 in
set_option maxHeartbeats 4000000 in
/-- X4_thrown -/
theorem c_X4_thrown {G : GG} {l : Launch} {c : CC} (hG : InjG G) (hl0 : l.stackTraces = false) {σ : St} {th : Int32} (hm : Mdl G c σ th)  : MC G l yX4_thrown (.code yX4_thrown cX4_thrown 1 (some .int) :: gws) (rmF 0 0 0 0) [.ref (G.1 33)] c (pI (fun r c' => th = r ∧ c = c')) (pF) := by
  refine MC.of (by decide) hl0 hG (Nat.le_of_ble_eq_true rfl) (fun X hX h hN hQ hr => ?_)
  subst hX
  refine r_aload_n h 0 rfl rfl dX4_thrown_0 ?_
  refine r_getf h F_X4_51 (i := 33) (by omega) hm.o rfl dX4_thrown_1 ?_
  exact r_iret h hQ hr dX4_thrown_4 ⟨by decide, by decide⟩ ⟨_, rfl, rfl, rfl⟩
set_option maxRecDepth 100000 in
set_option maxHeartbeats 4000000 in
/-- X4_isThrown -/
theorem c_X4_isThrown {G : GG} {l : Launch} {c : CC} (hG : InjG G) (hl0 : l.stackTraces = false) {σ : St} {th : Int32} (hm : Mdl G c σ th) (v as th' : Int32) (hth : (if v = 0 then 0 else as) = th') (hv : v = 0 ∨ v = 1) : MC G l yX4_isThrown (.code yX4_isThrown cX4_isThrown 3 (some .boolean) :: gws) (rmF 0 0 0 0) [.ref (G.1 33), .int v, .int as] c (pI (fun r c' => v = r ∧ Mdl G c' σ th' ∧ ∀ y : Nat, y ≠ 33 → c' y = c y)) (pF) := by
  refine MC.of (by decide) hl0 hG (Nat.le_of_ble_eq_true rfl) (fun X hX h hN hQ hr => ?_)
  subst hX
  refine r_aload_n h 0 rfl rfl dX4_isThrown_0 ?_
  refine r_iload_n h 1 rfl rfl dX4_isThrown_1 ?_
  refine r_if_eq h 9 dX4_isThrown_2 (by decide) (fun u => ?_) (fun u => ?_)
  · refine r_iconst h (v := nI 0) (by decide) dX4_isThrown_9 ?_
    refine r_putf h F_X4_51 ft_X4 (i := 33) (by omega) hm.o ([.int (nI 0), .ref (G.1 34), .ref (G.1 35), .ref (G.1 36), .int (nI (σ.2.1.length)), .ref (G.1 37), .ref (G.1 38), .ref (G.1 39), .ref (G.1 40), .ref (G.1 41), .ref (G.1 42), .ref (G.1 43), .ref (G.1 44), .ref (G.1 45), .ref (G.1 46)]) rfl rfl rfl rfl (Nat.le_of_ble_eq_true rfl) dX4_isThrown_10 (fun c1 h2 k3 => ?_)
    refine r_iload_n h 1 rfl rfl dX4_isThrown_13 ?_
    have hm1 := hm.setTh h2 k3
    exact r_zret h hQ hr (by rcases hv with rfl | rfl <;> rfl) dX4_isThrown_14 ⟨by decide, by decide⟩ ⟨_, rfl, rfl, by rw [← hth, if_pos u]; exact hm1, k3⟩
  · refine r_iload_n h 2 rfl rfl dX4_isThrown_5 ?_
    refine r_goto h 10 dX4_isThrown_6 (by decide) ?_
    refine r_putf h F_X4_51 ft_X4 (i := 33) (by omega) hm.o ([.int as, .ref (G.1 34), .ref (G.1 35), .ref (G.1 36), .int (nI (σ.2.1.length)), .ref (G.1 37), .ref (G.1 38), .ref (G.1 39), .ref (G.1 40), .ref (G.1 41), .ref (G.1 42), .ref (G.1 43), .ref (G.1 44), .ref (G.1 45), .ref (G.1 46)]) rfl rfl rfl rfl (Nat.le_of_ble_eq_true rfl) dX4_isThrown_10 (fun c4 h5 k6 => ?_)
    refine r_iload_n h 1 rfl rfl dX4_isThrown_13 ?_
    have hm1 := hm.setTh h5 k6
    exact r_zret h hQ hr (by rcases hv with rfl | rfl <;> rfl) dX4_isThrown_14 ⟨by decide, by decide⟩ ⟨_, rfl, rfl, by rw [← hth, if_neg u]; exact hm1, k6⟩
set_option maxRecDepth 100000 in
set_option maxHeartbeats 4000000 in
/-- X4_lies -/
theorem c_X4_lies {G : GG} {l : Launch} {c : CC} (hG : InjG G) (hl0 : l.stackTraces = false) (v lo hi : Int32) : MC G l yX4_lies (.code yX4_lies cX4_lies 3 (some .boolean) :: gws) (rmF 0 0 0 0) [.int v, .int lo, .int hi] c (pI (fun r c' => c = c' ∧ (if btB v lo hi = true then 1 else 0) = r)) (pF) := by
  refine MC.of (by decide) hl0 hG (Nat.le_of_ble_eq_true rfl) (fun X hX h hN hQ hr => ?_)
  subst hX
  refine r_iload_n h 1 rfl rfl dX4_lies_0 ?_
  refine r_iload_n h 0 rfl rfl dX4_lies_1 ?_
  refine r_icmp_gt h 14 dX4_lies_2 (by decide) (fun u => ?_) (fun u => ?_)
  · refine r_iconst h (v := nI 0) (by decide) dX4_lies_14 ?_
    exact r_zret h hQ hr (by decide) dX4_lies_15 ⟨by decide, by decide⟩ ⟨_, rfl, rfl, if_neg (by unfold btB; rw [decide_eq_true_eq]; exact fun z => i_nle u z.1)⟩
  · refine r_iload_n h 0 rfl rfl dX4_lies_5 ?_
    refine r_iload_n h 2 rfl rfl dX4_lies_6 ?_
    refine r_icmp_gt h 14 dX4_lies_7 (by decide) (fun u2 => ?_) (fun u2 => ?_)
    · refine r_iconst h (v := nI 0) (by decide) dX4_lies_14 ?_
      exact r_zret h hQ hr (by decide) dX4_lies_15 ⟨by decide, by decide⟩ ⟨_, rfl, rfl, if_neg (by unfold btB; rw [decide_eq_true_eq]; exact fun z => i_nle u2 z.2)⟩
    · refine r_iconst h (v := nI 1) (by decide) dX4_lies_10 ?_
      refine r_goto h 15 dX4_lies_11 (by decide) ?_
      exact r_zret h hQ hr (by decide) dX4_lies_15 ⟨by decide, by decide⟩ ⟨_, rfl, rfl, if_pos (by unfold btB; rw [decide_eq_true_eq]; exact ⟨i_le u, i_le u2⟩)⟩
set_option maxRecDepth 100000 in
set_option maxHeartbeats 4000000 in
/-- X4_isNo -/
theorem c_X4_isNo {G : GG} {l : Launch} {c : CC} (hG : InjG G) (hl0 : l.stackTraces = false) {σ : St} {th : Int32} (hm : Mdl G c σ th) (x : Int32) : MC G l yX4_isNo (.code yX4_isNo cX4_isNo 2 (some .boolean) :: gws) (rmF 1 0 0 22) [.ref (G.1 33), .int x] c (pI (fun r c' => (if ixB x = false then 1 else 0) = r ∧ Mdl G c' σ (if ixB x = false then 1 else 0) ∧ ∀ y : Nat, y ≠ 33 → c' y = c y)) (pF) := by
  refine MC.of (by decide) hl0 hG (Nat.le_of_ble_eq_true rfl) (fun X hX h hN hQ hr => ?_)
  subst hX
  refine r_aload_n h 0 rfl rfl dX4_isNo_0 ?_
  refine r_iload_n h 1 rfl rfl dX4_isNo_1 ?_
  refine r_iconst h (v := nI 0) (by decide) dX4_isNo_2 ?_
  refine r_iconst h (v := nI 3) (by decide) dX4_isNo_3 ?_
  refine r_cS h k_X4_55 (As := [.int x, .int (nI 0), .int (nI 3)]) (rest := [.ref (G.1 33)]) (c_X4_lies h.i h.t x (nI 0) (nI 3)) rfl rfl (Nat.le_of_ble_eq_true rfl) ⟨by decide, by decide, by decide, by decide⟩ dX4_isNo_4 (fun _ z => z.elim) (fun v1 c2 p3 => ?_)
  obtain ⟨r, rfl, rfl, rfl⟩ := p3
  rw [btB_3]
  refine rb_if_ne h 14 dX4_isNo_7 (by decide) (fun u => ?_) (fun u => ?_)
  · refine r_iconst h (v := nI 0) (by decide) dX4_isNo_14 ?_
    refine r_iconst h (v := nI 1) (by decide) dX4_isNo_15 ?_
    refine r_cV h k_X4_59 (i := 33) (As := [.int (nI 0), .int (nI 1)]) (rest := []) (c_X4_isThrown h.i h.t hm (nI 0) (nI 1) (nI 0) (by decide) (by decide)) (by omega) hm.o rfl rfl rfl (Nat.le_of_ble_eq_true rfl) ⟨by decide, by decide, by decide, by decide⟩ dX4_isNo_16 (fun _ z => z.elim) (fun v7 c4 p8 => ?_)
    obtain ⟨r, rfl, rfl, hm5, k6⟩ := p8
    exact r_zret h hQ hr (by decide) dX4_isNo_19 ⟨by decide, by decide⟩ ⟨_, rfl, if_neg (by rw [u]; decide), by rw [if_neg (by rw [u]; decide)]; exact hm5, fun y p => (k6 y (by omega))⟩
  · refine r_iconst h (v := nI 1) (by decide) dX4_isNo_10 ?_
    refine r_goto h 15 dX4_isNo_11 (by decide) ?_
    refine r_iconst h (v := nI 1) (by decide) dX4_isNo_15 ?_
    refine r_cV h k_X4_59 (i := 33) (As := [.int (nI 1), .int (nI 1)]) (rest := []) (c_X4_isThrown h.i h.t hm (nI 1) (nI 1) (nI 1) (by decide) (by decide)) (by omega) hm.o rfl rfl rfl (Nat.le_of_ble_eq_true rfl) ⟨by decide, by decide, by decide, by decide⟩ dX4_isNo_16 (fun _ z => z.elim) (fun v12 c9 p13 => ?_)
    obtain ⟨r, rfl, rfl, hm10, k11⟩ := p13
    exact r_zret h hQ hr (by decide) dX4_isNo_19 ⟨by decide, by decide⟩ ⟨_, rfl, if_pos ((Bool.not_eq_true _).mp u), by rw [if_pos ((Bool.not_eq_true _).mp u)]; exact hm10, fun y p => (k11 y (by omega))⟩
set_option maxRecDepth 100000 in
set_option maxHeartbeats 4000000 in
/-- X4_isShut -/
theorem c_X4_isShut {G : GG} {l : Launch} {c : CC} (hG : InjG G) (hl0 : l.stackTraces = false) {σ : St} {th : Int32} (hm : Mdl G c σ th) {j : Nat} (hj : j < 4) (as : Int32) : MC G l yX4_isShut (.code yX4_isShut cX4_isShut 3 (some .boolean) :: gws) (rmF 1 0 0 22) [.ref (G.1 33), .int (nI j), .int as] c (pI (fun r c' => (if sK (σ.2.2 j) = -1 then 1 else 0) = r ∧ Mdl G c' σ (if sK (σ.2.2 j) = -1 then as else 0) ∧ ∀ y : Nat, y ≠ 33 → c' y = c y)) (pF) := by
  refine MC.of (by decide) hl0 hG (Nat.le_of_ble_eq_true rfl) (fun X hX h hN hQ hr => ?_)
  subst hX
  refine r_aload_n h 0 rfl rfl dX4_isShut_0 ?_
  refine r_aload_n h 0 rfl rfl dX4_isShut_1 ?_
  refine r_getf h F_X4_19 (i := 33) (by omega) hm.o rfl dX4_isShut_2 ?_
  refine r_iload_n h 1 rfl rfl dX4_isShut_5 ?_
  obtain ⟨f1, e2, q3⟩ := hm.a37
  refine r_iald h (i := 37) (by omega) e2 (x := j) (by omega) (by decide) dX4_isShut_6 ?_
  have z4 : f1 (j) = sK (σ.2.2 j) := q3 j hj
  rw [z4]
  refine r_iconst h (v := -1) (by decide) dX4_isShut_7 ?_
  refine r_icmp_ne h 15 dX4_isShut_8 (by decide) (fun u => ?_) (fun u => ?_)
  · refine r_iconst h (v := nI 0) (by decide) dX4_isShut_15 ?_
    refine r_iload_n h 2 rfl rfl dX4_isShut_16 ?_
    refine r_cV h k_X4_59 (i := 33) (As := [.int (nI 0), .int as]) (rest := []) (c_X4_isThrown h.i h.t hm (nI 0) as (0) (rfl) (by decide)) (by omega) hm.o rfl rfl rfl (Nat.le_of_ble_eq_true rfl) ⟨by decide, by decide, by decide, by decide⟩ dX4_isShut_17 (fun _ z => z.elim) (fun v8 c5 p9 => ?_)
    obtain ⟨r, rfl, rfl, hm6, k7⟩ := p9
    exact r_zret h hQ hr (by decide) dX4_isShut_20 ⟨by decide, by decide⟩ ⟨_, rfl, if_neg u, by rw [if_neg u]; exact hm6, fun y p => (k7 y (by omega))⟩
  · refine r_iconst h (v := nI 1) (by decide) dX4_isShut_11 ?_
    refine r_goto h 16 dX4_isShut_12 (by decide) ?_
    refine r_iload_n h 2 rfl rfl dX4_isShut_16 ?_
    refine r_cV h k_X4_59 (i := 33) (As := [.int (nI 1), .int as]) (rest := []) (c_X4_isThrown h.i h.t hm (nI 1) as (as) (if_neg (by decide)) (by decide)) (by omega) hm.o rfl rfl rfl (Nat.le_of_ble_eq_true rfl) ⟨by decide, by decide, by decide, by decide⟩ dX4_isShut_17 (fun _ z => z.elim) (fun v13 c10 p14 => ?_)
    obtain ⟨r, rfl, rfl, hm11, k12⟩ := p14
    exact r_zret h hQ hr (by decide) dX4_isShut_20 ⟨by decide, by decide⟩ ⟨_, rfl, if_pos u, by rw [if_pos u]; exact hm11, fun y p => (k12 y (by omega))⟩
set_option maxRecDepth 100000 in
set_option maxHeartbeats 4000000 in
/-- X4_at -/
theorem c_X4_at {G : GG} {l : Launch} {c : CC} (hG : InjG G) (hl0 : l.stackTraces = false) {σ : St} {th : Int32} (hm : Mdl G c σ th) {j k : Nat} (hj : j < 4) {A : List Int32} (hA : σ.1 j = A) (hk : k < A.length) : MC G l yX4_at (.code yX4_at cX4_at 3 (some .int) :: gws) (rmF 0 0 0 0) [.ref (G.1 33), .int (nI j), .int (nI k)] c (pI (fun r c' => c = c' ∧ A.getD k 0 = r)) (pF) := by
  refine MC.of (by decide) hl0 hG (Nat.le_of_ble_eq_true rfl) (fun X hX h hN hQ hr => ?_)
  subst hX
  subst hA
  have hb := hm.b.1 j hj
  refine r_aload_n h 0 rfl rfl dX4_at_0 ?_
  refine r_getf h F_X4_7 (i := 33) (by omega) hm.o rfl dX4_at_1 ?_
  refine r_bipush h (v := nI 120) (by decide) dX4_at_4 ?_
  refine r_iload_n h 1 rfl rfl dX4_at_6 ?_
  refine r_imul h (pk_mul (120) (j)) dX4_at_7 ?_
  refine r_iload_n h 2 rfl rfl dX4_at_8 ?_
  refine r_iadd h (nI_add (120 * j) (k)) dX4_at_9 ?_
  obtain ⟨f1, e2, q3⟩ := hm.a34
  refine r_iald h (i := 34) (by omega) e2 (x := 120 * j + k) (by omega) (by decide) dX4_at_10 ?_
  have z4 : f1 (120 * j + k) = (σ.1 j).getD k 0 := q3 j hj k hk
  rw [z4]
  exact r_iret h hQ hr dX4_at_11 ⟨by decide, by decide⟩ ⟨_, rfl, rfl, rfl⟩
set_option maxRecDepth 100000 in
set_option maxHeartbeats 4000000 in
/-- X4_at -/
theorem c_X4_atR {G : GG} {l : Launch} {c : CC} (hG : InjG G) (hl0 : l.stackTraces = false) {σ : St} {th : Int32} (hm : Mdl G c σ th) {f : Nat → Int32} (hf : c 34 = .inl (G.2.2.2 0, 480, .inl f)) {j k : Nat} (hj : j < 4) (hk : k < 120) : MC G l yX4_at (.code yX4_at cX4_at 3 (some .int) :: gws) (rmF 0 0 0 0) [.ref (G.1 33), .int (nI j), .int (nI k)] c (pI (fun r c' => c = c' ∧ f (120 * j + k) = r)) (pF) := by
  refine MC.of (by decide) hl0 hG (Nat.le_of_ble_eq_true rfl) (fun X hX h hN hQ hr => ?_)
  subst hX
  refine r_aload_n h 0 rfl rfl dX4_at_0 ?_
  refine r_getf h F_X4_7 (i := 33) (by omega) hm.o rfl dX4_at_1 ?_
  refine r_bipush h (v := nI 120) (by decide) dX4_at_4 ?_
  refine r_iload_n h 1 rfl rfl dX4_at_6 ?_
  refine r_imul h (pk_mul (120) (j)) dX4_at_7 ?_
  refine r_iload_n h 2 rfl rfl dX4_at_8 ?_
  refine r_iadd h (nI_add (120 * j) (k)) dX4_at_9 ?_
  refine r_iald h (i := 34) (by omega) hf (x := 120 * j + k) (by omega) (by decide) dX4_at_10 ?_
  exact r_iret h hQ hr dX4_at_11 ⟨by decide, by decide⟩ ⟨_, rfl, rfl, rfl⟩
set_option maxRecDepth 100000 in
set_option maxHeartbeats 4000000 in
/-- X4_adds -/
theorem c_X4_adds {G : GG} {l : Launch} {c : CC} (hG : InjG G) (hl0 : l.stackTraces = false) {σ : St} {th : Int32} {j : Nat} (hj : j < 4) {A : List Int32} (hm : Mdl G c (stS σ j A) th) (hl : A.length < 120) (x : Int32) : MC G l yX4_adds (.code yX4_adds cX4_adds 3 none :: gws) (rmF 0 0 0 0) [.ref (G.1 33), .int (nI j), .int x] c (pV (fun c' => Mdl G c' (stS σ j (A ++ [x])) th ∧ ∀ y : Nat, y ≠ 34 → y ≠ 35 → c' y = c y)) (pF) := by
  refine MC.of (by decide) hl0 hG (Nat.le_of_ble_eq_true rfl) (fun X hX h hN hQ hr => ?_)
  subst hX
  refine r_aload_n h 0 rfl rfl dX4_adds_0 ?_
  refine r_getf h F_X4_7 (i := 33) (by omega) hm.o rfl dX4_adds_1 ?_
  refine r_bipush h (v := nI 120) (by decide) dX4_adds_4 ?_
  refine r_iload_n h 1 rfl rfl dX4_adds_6 ?_
  refine r_imul h (pk_mul (120) (j)) dX4_adds_7 ?_
  refine r_aload_n h 0 rfl rfl dX4_adds_8 ?_
  refine r_getf h F_X4_13 (i := 33) (by omega) hm.o rfl dX4_adds_9 ?_
  refine r_iload_n h 1 rfl rfl dX4_adds_12 ?_
  obtain ⟨f1, e2, q3⟩ := hm.a35
  refine r_iald h (i := 35) (by omega) e2 (x := j) (by omega) (by decide) dX4_adds_13 ?_
  have z4 : f1 (j) = (nI (A.length)) := (q3 j hj).trans (by rw [stS_at])
  rw [z4]
  refine r_iadd h (nI_add (120 * j) (A.length)) dX4_adds_14 ?_
  refine r_iload_n h 2 rfl rfl dX4_adds_15 ?_
  obtain ⟨f5, e6, q7⟩ := hm.a34
  refine r_iast h (i := 34) (by omega) e6 (x := 120 * j + A.length) (by omega) (by decide) dX4_adds_16 (fun c8 h9 k10 => ?_)
  obtain ⟨fb, eb, qb⟩ := hm.a35
  have eb' := (k10 35 (by omega)).trans eb
  have g11 := (k10 33 (by omega)).trans hm.o
  refine r_aload_n h 0 rfl rfl dX4_adds_17 ?_
  refine r_getf h F_X4_13 (i := 33) (by omega) g11 rfl dX4_adds_18 ?_
  refine r_iload_n h 1 rfl rfl dX4_adds_21 ?_
  refine r_dup2 h rfl rfl dX4_adds_22 ?_
  refine r_iald h (i := 35) (by omega) eb' (x := j) (by omega) (by decide) dX4_adds_23 ?_
  refine r_iconst h (v := nI 1) (by decide) dX4_adds_24 ?_
  refine r_iadd h rfl dX4_adds_25 ?_
  refine r_iast h (i := 35) (by omega) eb' (x := j) (by omega) (by decide) dX4_adds_26 (fun c12 h13 k14 => ?_)
  have g15 := (k14 (33) (by omega)).trans g11
  exact r_vret h hQ hr dX4_adds_27 ⟨by decide, by decide⟩ ⟨rfl, hm.uS hj hl q7 ((k14 34 (by omega)).trans h9) qb (by rw [show nI (A.length + 1) = fb j + nI 1 from by rw [show fb j = nI A.length from (qb j hj).trans (by rw [stS_at])]; exact (nI_add _ _).symm]; exact h13) (fun y a b => (k14 y b).trans (k10 y a)), fun y a b => (k14 y b).trans (k10 y a)⟩
set_option maxRecDepth 100000 in
set_option maxHeartbeats 4000000 in
/-- X4_comes -/
theorem c_X4_comes {G : GG} {l : Launch} {c : CC} (hG : InjG G) (hl0 : l.stackTraces = false) {σ : St} {th : Int32} {j : Nat} (hj : j < 4) {t : Stm} (hm : Mdl G c (stT σ j t) th) (hl : (sO t).length < 240) (x : Int32) : MC G l yX4_comes (.code yX4_comes cX4_comes 3 none :: gws) (rmF 0 0 0 0) [.ref (G.1 33), .int (nI j), .int x] c (pV (fun c' => Mdl G c' (stT σ j (tO t (sO t ++ [x]))) th ∧ ∀ y : Nat, y ≠ 38 → y ≠ 39 → c' y = c y)) (pF) := by
  refine MC.of (by decide) hl0 hG (Nat.le_of_ble_eq_true rfl) (fun X hX h hN hQ hr => ?_)
  subst hX
  refine r_aload_n h 0 rfl rfl dX4_comes_0 ?_
  refine r_getf h F_X4_22 (i := 33) (by omega) hm.o rfl dX4_comes_1 ?_
  refine r_sipush h (v := nI 240) (by decide) dX4_comes_4 ?_
  refine r_iload_n h 1 rfl rfl dX4_comes_7 ?_
  refine r_imul h (pk_mul (240) (j)) dX4_comes_8 ?_
  refine r_aload_n h 0 rfl rfl dX4_comes_9 ?_
  refine r_getf h F_X4_25 (i := 33) (by omega) hm.o rfl dX4_comes_10 ?_
  refine r_iload_n h 1 rfl rfl dX4_comes_13 ?_
  obtain ⟨f1, e2, q3⟩ := hm.a39
  refine r_iald h (i := 39) (by omega) e2 (x := j) (by omega) (by decide) dX4_comes_14 ?_
  have z4 : f1 (j) = (nI ((sO t).length)) := (q3 j hj).trans (by rw [stT_at])
  rw [z4]
  refine r_iadd h (nI_add (240 * j) ((sO t).length)) dX4_comes_15 ?_
  refine r_iload_n h 2 rfl rfl dX4_comes_16 ?_
  obtain ⟨f5, e6, q7⟩ := hm.a38
  refine r_iast h (i := 38) (by omega) e6 (x := 240 * j + (sO t).length) (by omega) (by decide) dX4_comes_17 (fun c8 h9 k10 => ?_)
  obtain ⟨fb, eb, qb⟩ := hm.a39
  have eb' := (k10 39 (by omega)).trans eb
  have g11 := (k10 33 (by omega)).trans hm.o
  refine r_aload_n h 0 rfl rfl dX4_comes_18 ?_
  refine r_getf h F_X4_25 (i := 33) (by omega) g11 rfl dX4_comes_19 ?_
  refine r_iload_n h 1 rfl rfl dX4_comes_22 ?_
  refine r_dup2 h rfl rfl dX4_comes_23 ?_
  refine r_iald h (i := 39) (by omega) eb' (x := j) (by omega) (by decide) dX4_comes_24 ?_
  refine r_iconst h (v := nI 1) (by decide) dX4_comes_25 ?_
  refine r_iadd h rfl dX4_comes_26 ?_
  refine r_iast h (i := 39) (by omega) eb' (x := j) (by omega) (by decide) dX4_comes_27 (fun c12 h13 k14 => ?_)
  have g15 := (k14 (33) (by omega)).trans g11
  exact r_vret h hQ hr dX4_comes_28 ⟨by decide, by decide⟩ ⟨rfl, hm.uC hj hl q7 ((k14 38 (by omega)).trans h9) qb (by rw [show nI ((sO t).length + 1) = fb j + nI 1 from by rw [show fb j = nI ((sO t).length) from (qb j hj).trans (by rw [stT_at])]; exact (nI_add _ _).symm]; exact h13) (fun y a b => (k14 y b).trans (k10 y a)), fun y a b => (k14 y b).trans (k10 y a)⟩
set_option maxRecDepth 100000 in
set_option maxHeartbeats 4000000 in
/-- X4_leftOf -/
theorem c_X4_leftOf {G : GG} {l : Launch} {c : CC} (hG : InjG G) (hl0 : l.stackTraces = false) {σ : St} {th : Int32} {j : Nat} (hj : j < 4) {t : Stm} (hm : Mdl G c (stT σ j t) th) (hP : sP t ≤ (sO t).length) : MC G l yX4_leftOf (.code yX4_leftOf cX4_leftOf 2 (some .int) :: gws) (rmF 0 0 0 0) [.ref (G.1 33), .int (nI j)] c (pI (fun r c' => c = c' ∧ nI ((sO t).length - sP t) = r)) (pF) := by
  refine MC.of (by decide) hl0 hG (Nat.le_of_ble_eq_true rfl) (fun X hX h hN hQ hr => ?_)
  subst hX
  refine r_aload_n h 0 rfl rfl dX4_leftOf_0 ?_
  refine r_getf h F_X4_25 (i := 33) (by omega) hm.o rfl dX4_leftOf_1 ?_
  refine r_iload_n h 1 rfl rfl dX4_leftOf_4 ?_
  obtain ⟨f1, e2, q3⟩ := hm.a39
  refine r_iald h (i := 39) (by omega) e2 (x := j) (by omega) (by decide) dX4_leftOf_5 ?_
  have z4 : f1 (j) = (nI ((sO t).length)) := (q3 j hj).trans (by rw [stT_at])
  rw [z4]
  refine r_aload_n h 0 rfl rfl dX4_leftOf_6 ?_
  refine r_getf h F_X4_31 (i := 33) (by omega) hm.o rfl dX4_leftOf_7 ?_
  refine r_iload_n h 1 rfl rfl dX4_leftOf_10 ?_
  obtain ⟨f5, e6, q7⟩ := hm.a41
  refine r_iald h (i := 41) (by omega) e6 (x := j) (by omega) (by decide) dX4_leftOf_11 ?_
  have z8 : f5 (j) = (nI (sP t)) := (q7 j hj).trans (by rw [stT_at])
  rw [z8]
  refine r_isub h (pk_sub (a := (sO t).length) (b := sP t) (by omega)) dX4_leftOf_12 ?_
  exact r_iret h hQ hr dX4_leftOf_13 ⟨by decide, by decide⟩ ⟨_, rfl, rfl, rfl⟩
set_option maxRecDepth 100000 in
set_option maxHeartbeats 4000000 in
/-- X4_outAt -/
theorem c_X4_outAt {G : GG} {l : Launch} {c : CC} (hG : InjG G) (hl0 : l.stackTraces = false) {σ : St} {th : Int32} {j : Nat} (hj : j < 4) {t : Stm} (hm : Mdl G c (stT σ j t) th) {k : Nat} (hk : k < (sO t).length) : MC G l yX4_outAt (.code yX4_outAt cX4_outAt 3 (some .int) :: gws) (rmF 0 0 0 0) [.ref (G.1 33), .int (nI j), .int (nI k)] c (pI (fun r c' => c = c' ∧ (sO t).getD k 0 = r)) (pF) := by
  refine MC.of (by decide) hl0 hG (Nat.le_of_ble_eq_true rfl) (fun X hX h hN hQ hr => ?_)
  subst hX
  have hb := hm.b.2.2 j hj
  rw [stT_at] at hb
  refine r_aload_n h 0 rfl rfl dX4_outAt_0 ?_
  refine r_getf h F_X4_22 (i := 33) (by omega) hm.o rfl dX4_outAt_1 ?_
  refine r_sipush h (v := nI 240) (by decide) dX4_outAt_4 ?_
  refine r_iload_n h 1 rfl rfl dX4_outAt_7 ?_
  refine r_imul h (pk_mul (240) (j)) dX4_outAt_8 ?_
  refine r_iload_n h 2 rfl rfl dX4_outAt_9 ?_
  refine r_iadd h (nI_add (240 * j) (k)) dX4_outAt_10 ?_
  obtain ⟨f1, e2, q3⟩ := hm.a38
  refine r_iald h (i := 38) (by omega) e2 (x := 240 * j + k) (by omega) (by decide) dX4_outAt_11 ?_
  have z4 : f1 (240 * j + k) = (sO t).getD k 0 := by have z := q3 j hj; rw [stT_at] at z; exact z k hk
  rw [z4]
  exact r_iret h hQ hr dX4_outAt_12 ⟨by decide, by decide⟩ ⟨_, rfl, rfl, rfl⟩
set_option maxRecDepth 100000 in
set_option maxHeartbeats 4000000 in
/-- X4_lineOf -/
theorem c_X4_lineOf {G : GG} {l : Launch} {c : CC} (hG : InjG G) (hl0 : l.stackTraces = false) {σ : St} {th : Int32} {j : Nat} (hj : j < 4) {t : Stm} (hm : Mdl G c (stT σ j t) th) : MC G l yX4_lineOf (.code yX4_lineOf cX4_lineOf 2 (some .int) :: gws) (rmF 1 0 0 20) [.ref (G.1 33), .int (nI j)] c (pI (fun r c' => c = c' ∧ shL t = r)) (pF) := by
  refine MC.of (by decide) hl0 hG (Nat.le_of_ble_eq_true rfl) (fun X hX h hN hQ hr => ?_)
  subst hX
  refine r_aload_n h 0 rfl rfl dX4_lineOf_0 ?_
  refine r_getf h F_X4_19 (i := 33) (by omega) hm.o rfl dX4_lineOf_1 ?_
  refine r_iload_n h 1 rfl rfl dX4_lineOf_4 ?_
  obtain ⟨f1, e2, q3⟩ := hm.a37
  refine r_iald h (i := 37) (by omega) e2 (x := j) (by omega) (by decide) dX4_lineOf_5 ?_
  have z4 : f1 (j) = sK t := (q3 j hj).trans (by rw [stT_at])
  rw [z4]
  refine r_cS h k_X4_82 (As := [.int (sK t)]) (rest := []) (c_X4_hasLine h.i h.t (sK t)) rfl rfl (Nat.le_of_ble_eq_true rfl) ⟨by decide, by decide, by decide, by decide⟩ dX4_lineOf_6 (fun _ z => z.elim) (fun v5 c6 p7 => ?_)
  obtain ⟨r, rfl, rfl, rfl⟩ := p7
  refine rb_if_eq h 21 dX4_lineOf_9 (by decide) (fun u => ?_) (fun u => ?_)
  · refine r_iconst h (v := -1) (by decide) dX4_lineOf_21 ?_
    exact r_iret h hQ hr dX4_lineOf_22 ⟨by decide, by decide⟩ ⟨_, rfl, rfl, if_neg u⟩
  · refine r_aload_n h 0 rfl rfl dX4_lineOf_12 ?_
    refine r_getf h F_X4_34 (i := 33) (by omega) hm.o rfl dX4_lineOf_13 ?_
    refine r_iload_n h 1 rfl rfl dX4_lineOf_16 ?_
    obtain ⟨f8, e9, q10⟩ := hm.a42
    refine r_iald h (i := 42) (by omega) e9 (x := j) (by omega) (by decide) dX4_lineOf_17 ?_
    have z11 : f8 (j) = sN t := (q10 j hj).trans (by rw [stT_at])
    rw [z11]
    refine r_goto h 22 dX4_lineOf_18 (by decide) ?_
    exact r_iret h hQ hr dX4_lineOf_22 ⟨by decide, by decide⟩ ⟨_, rfl, rfl, if_pos u⟩
set_option maxRecDepth 100000 in
set_option maxHeartbeats 4000000 in
/-- X4_mixed -/
theorem c_X4_mixed {G : GG} {l : Launch} {c : CC} (hG : InjG G) (hl0 : l.stackTraces = false) {g : Int64} (hg : okR g) {x : Int32} (hx : isB x) : MC G l yX4_mixed (.code yX4_mixed cX4_mixed 8 (some .long) :: gws) (rmF 0 0 0 0) [.long g, .int x] c (pL (fun r c' => c = c' ∧ wb g x = r)) (pF) := by
  refine MC.of (by decide) hl0 hG (Nat.le_of_ble_eq_true rfl) (fun X hX h hN hQ hr => ?_)
  subst hX
  refine r_lload_n h 0 rfl rfl dX4_mixed_0 ?_
  refine r_iload_n h 1 rfl rfl dX4_mixed_1 ?_
  refine r_i2l h rfl dX4_mixed_2 ?_
  refine r_lxor h rfl dX4_mixed_3 ?_
  refine r_lstore_n h ([(3, .long ((g) ^^^ ((x).toInt64))), (0, .long (g)), (2, .int x)]) rfl dX4_mixed_4 (by decide) rfl ?_
  refine r_iconst h (v := nI 0) (by decide) dX4_mixed_5 ?_
  refine r_istore h ([(5, .int (nI 0)), (3, .long ((g) ^^^ ((x).toInt64))), (0, .long (g)), (2, .int x)]) dX4_mixed_6 (by decide) rfl ?_
  have h0 : okR (g ^^^ x.toInt64) := okR_x hg hx
  have loop : ∀ (n j : Nat) (y : Int64), 9 ≤ j + n → j ≤ 8 → okR y → y = wbi j (g ^^^ x.toInt64) → V G X c [(3, .long (y)), (5, .int (nI j))] 0 0 8 [] := by
    intro n
    induction n with
    | zero => intro j y a1 a2; exact absurd a1 (by omega)
    | succ n ih =>
      intro j y a1 a2 a3 a4
      refine r_iload h 1 rfl dX4_mixed_8 ?_
      refine r_bipush h (v := nI 8) (by decide) dX4_mixed_10 ?_
      refine rn_icmp_ge h (a := j) (b := 8) (by omega) (by omega) 50 dX4_mixed_12 (by decide) (fun z => ?_) (fun z => ?_)
      · refine r_lload_n h 0 rfl rfl dX4_mixed_50 ?_
        exact r_lret h hQ hr dX4_mixed_51 ⟨by decide, by decide⟩ ⟨_, rfl, rfl, by rw [a4, show j = 8 by omega]; rfl⟩
      · obtain ⟨m, hm, e⟩ := a3
        subst e
        refine r_lload_n h 0 rfl rfl dX4_mixed_15 ?_
        refine r_ldc2 h K_X4_94 dX4_mixed_16 ?_
        refine r_ldiv h (by decide) (v := lN (m / 2)) (pk_lDiv (b := 2) (by omega) (by decide) (by decide)) dX4_mixed_19 ?_
        refine r_lstore h ([(6, .long (lN (m / 2))), (3, .long (lN m)), (5, .int (nI j))]) dX4_mixed_20 (by decide) rfl ?_
        refine r_lload_n h 1 rfl rfl dX4_mixed_22 ?_
        refine r_ldc2 h K_X4_94 dX4_mixed_23 ?_
        refine r_lrem h (by decide) (v := lN (m % 2)) (pk_lRem (b := 2) (by omega) (by decide) (by decide)) dX4_mixed_26 ?_
        refine r_lconst h (v := 1) (by decide) dX4_mixed_27 ?_
        refine r_lcmp h rfl dX4_mixed_28 ?_
        refine r_if_ne h 41 dX4_mixed_29 (by decide) (fun u => ?_) (fun u => ?_)
        · refine r_lload h 0 rfl dX4_mixed_41 ?_
          refine r_lstore_n h ([(3, .long (lN (m / 2))), (6, .long (lN (m / 2))), (5, .int (nI j))]) rfl dX4_mixed_43 (by decide) rfl ?_
          refine r_iinc h 2 ([(5, .int (nI (j + 1))), (3, .long (lN (m / 2))), (6, .long (lN (m / 2)))]) rfl (inc_1 (j)) dX4_mixed_44 (by decide) rfl ?_
          refine r_goto h 8 dX4_mixed_47 (by decide) ?_
          refine V_lv [1, 0] rfl ?_
          exact ih (j + 1) _ (by omega) (by omega) (by rw [mx_0 hm u]; exact wb1_ok ⟨m, hm, rfl⟩) (by rw [mx_0 hm u, a4]; rfl)
        · refine r_lload h 0 rfl dX4_mixed_32 ?_
          refine r_ldc2 h K_X4_96 dX4_mixed_34 ?_
          refine r_lxor h rfl dX4_mixed_37 ?_
          refine r_goto h 43 dX4_mixed_38 (by decide) ?_
          refine r_lstore_n h ([(3, .long ((lN (m / 2)) ^^^ (2197175160))), (6, .long (lN (m / 2))), (5, .int (nI j))]) rfl dX4_mixed_43 (by decide) rfl ?_
          refine r_iinc h 2 ([(5, .int (nI (j + 1))), (3, .long ((lN (m / 2)) ^^^ (2197175160))), (6, .long (lN (m / 2)))]) rfl (inc_1 (j)) dX4_mixed_44 (by decide) rfl ?_
          refine r_goto h 8 dX4_mixed_47 (by decide) ?_
          refine V_lv [1, 0] rfl ?_
          exact ih (j + 1) _ (by omega) (by omega) (by rw [mx_1 hm u]; exact wb1_ok ⟨m, hm, rfl⟩) (by rw [mx_1 hm u, a4]; rfl)
  refine V_lv [1, 0] rfl ?_
  exact loop 9 0 _ (by omega) (by omega) h0 rfl
set_option maxRecDepth 100000 in
set_option maxHeartbeats 4000000 in
/-- X4_passes -/
theorem c_X4_passes {G : GG} {l : Launch} {c : CC} (hG : InjG G) (hl0 : l.stackTraces = false) {σ : St} {th : Int32} {j : Nat} (hj : j < 4) {t : Stm} (hm : Mdl G c (stT σ j t) th) (ho : okS t) : MC G l yX4_passes (.code yX4_passes cX4_passes 3 (some .int) :: gws) (rmF 1 0 0 27) [.ref (G.1 33), .int (nI j)] c (pI (fun r c' => nxA t = r ∧ Mdl G c' (stT σ j (pNx t)) th ∧ ∀ y : Nat, y ≠ 41 → y ≠ 42 → y ≠ 43 → c' y = c y)) (pF) := by
  refine MC.of (by decide) hl0 hG (Nat.le_of_ble_eq_true rfl) (fun X hX h hN hQ hr => ?_)
  subst hX
  obtain ⟨K, O, M, P, N, g, mk⟩ := t
  have hP : P ≤ O.length := ho.1
  have hb := hm.b.2.2 j hj
  rw [stT_at] at hb
  have hb : O.length ≤ 240 := hb
  refine r_aload_n h 0 rfl rfl dX4_passes_0 ?_
  refine r_iload_n h 1 rfl rfl dX4_passes_1 ?_
  refine r_cV h k_X4_98 (i := 33) (As := [.int (nI j)]) (rest := []) (c_X4_leftOf h.i h.t hj hm (hP)) (by omega) hm.o rfl rfl rfl (Nat.le_of_ble_eq_true rfl) ⟨by decide, by decide, by decide, by decide⟩ dX4_passes_2 (fun _ z => z.elim) (fun v1 c2 p3 => ?_)
  obtain ⟨r, rfl, rfl, rfl⟩ := p3
  refine rn_if_ne h (a := O.length - P) (by omega) 10 dX4_passes_5 (by decide) (fun z => ?_) (fun z => ?_)
  · have hlt : P < O.length := by omega
    have hx : isB (O.getD P 0) := ho.2.1 P hlt
    refine r_aload_n h 0 rfl rfl dX4_passes_10 ?_
    refine r_iload_n h 1 rfl rfl dX4_passes_11 ?_
    refine r_aload_n h 0 rfl rfl dX4_passes_12 ?_
    refine r_getf h F_X4_31 (i := 33) (by omega) hm.o rfl dX4_passes_13 ?_
    refine r_iload_n h 1 rfl rfl dX4_passes_16 ?_
    obtain ⟨f4, e5, q6⟩ := hm.a41
    refine r_iald h (i := 41) (by omega) e5 (x := j) (by omega) (by decide) dX4_passes_17 ?_
    have z7 : f4 (j) = (nI (P)) := (q6 j hj).trans (by rw [stT_at])
    rw [z7]
    refine r_cV h k_X4_101 (i := 33) (As := [.int (nI j), .int (nI P)]) (rest := []) (c_X4_outAt h.i h.t hj hm (k := P) hlt) (by omega) hm.o rfl rfl rfl (Nat.le_of_ble_eq_true rfl) ⟨by decide, by decide, by decide, by decide⟩ dX4_passes_18 (fun _ z => z.elim) (fun v8 c9 p10 => ?_)
    obtain ⟨r, rfl, rfl, rfl⟩ := p10
    refine r_istore_n h ([(2, .int (O.getD P 0)), (0, .ref (G.1 33)), (1, .int (nI j))]) rfl dX4_passes_21 (by decide) rfl ?_
    refine r_aload_n h 1 rfl rfl dX4_passes_22 ?_
    refine r_getf h F_X4_31 (i := 33) (by omega) hm.o rfl dX4_passes_23 ?_
    refine r_iload_n h 2 rfl rfl dX4_passes_26 ?_
    refine r_dup2 h rfl rfl dX4_passes_27 ?_
    obtain ⟨f11, e12, q13⟩ := hm.a41
    refine r_iald h (i := 41) (by omega) e12 (x := j) (by omega) (by decide) dX4_passes_28 ?_
    have z14 : f11 (j) = (nI (P)) := (q13 j hj).trans (by rw [stT_at])
    rw [z14]
    refine r_iconst h (v := nI 1) (by decide) dX4_passes_29 ?_
    refine r_iadd h (nI_add (P) (1)) dX4_passes_30 ?_
    obtain ⟨f15, e16, q17⟩ := hm.a41
    refine r_iast h (i := 41) (by omega) e16 (x := j) (by omega) (by decide) dX4_passes_31 (fun c18 h19 k20 => ?_)
    have hm21 : Mdl G c18 (stT σ j (K, O, M, P + 1, N, g, mk)) th := hm.uP hj q17 h19 k20
    refine r_aload_n h 1 rfl rfl dX4_passes_32 ?_
    refine r_getf h F_X4_34 (i := 33) (by omega) hm21.o rfl dX4_passes_33 ?_
    refine r_iload_n h 2 rfl rfl dX4_passes_36 ?_
    refine r_dup2 h rfl rfl dX4_passes_37 ?_
    obtain ⟨f22, e23, q24⟩ := hm21.a42
    refine r_iald h (i := 42) (by omega) e23 (x := j) (by omega) (by decide) dX4_passes_38 ?_
    have z25 : f22 (j) = N := (q24 j hj).trans (by rw [stT_at])
    rw [z25]
    refine r_iload_n h 0 rfl rfl dX4_passes_39 ?_
    refine r_bipush h (v := nI 10) (by decide) dX4_passes_40 ?_
    refine r_icmp_ne h 49 dX4_passes_42 (by decide) (fun v => ?_) (fun v => ?_)
    · refine r_iconst h (v := nI 0) (by decide) dX4_passes_49 ?_
      refine r_iadd h rfl dX4_passes_50 ?_
      obtain ⟨f26, e27, q28⟩ := hm21.a42
      refine r_iast h (i := 42) (by omega) e27 (x := j) (by omega) (by decide) dX4_passes_51 (fun c29 h30 k31 => ?_)
      have hm32 : Mdl G c29 (stT σ j (K, O, M, P + 1, N + nI 0, g, mk)) th := hm21.uN hj q28 h30 k31
      refine r_aload_n h 1 rfl rfl dX4_passes_52 ?_
      refine r_getf h F_X4_37 (i := 33) (by omega) hm32.o rfl dX4_passes_53 ?_
      refine r_iload_n h 2 rfl rfl dX4_passes_56 ?_
      refine r_aload_n h 1 rfl rfl dX4_passes_57 ?_
      refine r_getf h F_X4_37 (i := 33) (by omega) hm32.o rfl dX4_passes_58 ?_
      refine r_iload_n h 2 rfl rfl dX4_passes_61 ?_
      obtain ⟨f33, e34, q35⟩ := hm32.a43
      refine r_lald h (i := 43) (by omega) e34 (x := j) (by omega) (by decide) dX4_passes_62 ?_
      have z36 : f33 (j) = g := (q35 j hj).trans (by rw [stT_at])
      rw [z36]
      refine r_iload_n h 0 rfl rfl dX4_passes_63 ?_
      refine r_cS h k_X4_104 (As := [.long (g), .int (O.getD P 0)]) (rest := [.int (nI j), .ref (G.1 43)]) (c_X4_mixed h.i h.t ho.2.2.1 hx) rfl rfl (Nat.le_of_ble_eq_true rfl) ⟨by decide, by decide, by decide, by decide⟩ dX4_passes_64 (fun _ z => z.elim) (fun v37 c38 p39 => ?_)
      obtain ⟨r, rfl, rfl, rfl⟩ := p39
      obtain ⟨f40, e41, q42⟩ := hm32.a43
      refine r_last h (i := 43) (by omega) e41 (x := j) (by omega) (by decide) dX4_passes_67 (fun c43 h44 k45 => ?_)
      have hm46 : Mdl G c43 (stT σ j (K, O, M, P + 1, N + nI 0, wb g (O.getD P 0), mk)) th := hm32.uG hj q42 h44 k45
      refine r_iload_n h 0 rfl rfl dX4_passes_68 ?_
      exact r_iret h hQ hr dX4_passes_69 ⟨by decide, by decide⟩ ⟨_, rfl, if_pos hlt, hm46.eq (by rw [show pNx (K, O, M, P, N, g, mk) = (K, O, M, P + 1, (if O.getD P 0 = nI 10 then N + nI 1 else N), wb g (O.getD P 0), mk) from if_pos hlt, show (if O.getD P 0 = nI 10 then N + nI 1 else N) = N + nI 0 from (if_neg v).trans (nI_add0 N).symm]), fun y p q r => (((k45 y (by omega)).trans (k31 y (by omega))).trans (k20 y (by omega)))⟩
    · refine r_iconst h (v := nI 1) (by decide) dX4_passes_45 ?_
      refine r_goto h 50 dX4_passes_46 (by decide) ?_
      refine r_iadd h rfl dX4_passes_50 ?_
      obtain ⟨f47, e48, q49⟩ := hm21.a42
      refine r_iast h (i := 42) (by omega) e48 (x := j) (by omega) (by decide) dX4_passes_51 (fun c50 h51 k52 => ?_)
      have hm53 : Mdl G c50 (stT σ j (K, O, M, P + 1, N + nI 1, g, mk)) th := hm21.uN hj q49 h51 k52
      refine r_aload_n h 1 rfl rfl dX4_passes_52 ?_
      refine r_getf h F_X4_37 (i := 33) (by omega) hm53.o rfl dX4_passes_53 ?_
      refine r_iload_n h 2 rfl rfl dX4_passes_56 ?_
      refine r_aload_n h 1 rfl rfl dX4_passes_57 ?_
      refine r_getf h F_X4_37 (i := 33) (by omega) hm53.o rfl dX4_passes_58 ?_
      refine r_iload_n h 2 rfl rfl dX4_passes_61 ?_
      obtain ⟨f54, e55, q56⟩ := hm53.a43
      refine r_lald h (i := 43) (by omega) e55 (x := j) (by omega) (by decide) dX4_passes_62 ?_
      have z57 : f54 (j) = g := (q56 j hj).trans (by rw [stT_at])
      rw [z57]
      refine r_iload_n h 0 rfl rfl dX4_passes_63 ?_
      refine r_cS h k_X4_104 (As := [.long (g), .int (O.getD P 0)]) (rest := [.int (nI j), .ref (G.1 43)]) (c_X4_mixed h.i h.t ho.2.2.1 hx) rfl rfl (Nat.le_of_ble_eq_true rfl) ⟨by decide, by decide, by decide, by decide⟩ dX4_passes_64 (fun _ z => z.elim) (fun v58 c59 p60 => ?_)
      obtain ⟨r, rfl, rfl, rfl⟩ := p60
      obtain ⟨f61, e62, q63⟩ := hm53.a43
      refine r_last h (i := 43) (by omega) e62 (x := j) (by omega) (by decide) dX4_passes_67 (fun c64 h65 k66 => ?_)
      have hm67 : Mdl G c64 (stT σ j (K, O, M, P + 1, N + nI 1, wb g (O.getD P 0), mk)) th := hm53.uG hj q63 h65 k66
      refine r_iload_n h 0 rfl rfl dX4_passes_68 ?_
      exact r_iret h hQ hr dX4_passes_69 ⟨by decide, by decide⟩ ⟨_, rfl, if_pos hlt, hm67.eq (by rw [show pNx (K, O, M, P, N, g, mk) = (K, O, M, P + 1, (if O.getD P 0 = nI 10 then N + nI 1 else N), wb g (O.getD P 0), mk) from if_pos hlt, show (if O.getD P 0 = nI 10 then N + nI 1 else N) = N + nI 1 from (if_pos v)]), fun y p q r => (((k66 y (by omega)).trans (k52 y (by omega))).trans (k20 y (by omega)))⟩
  · have hend := nx_end (t := (K, O, M, P, N, g, mk)) (show P = O.length by omega)
    refine r_iconst h (v := -1) (by decide) dX4_passes_8 ?_
    exact r_iret h hQ hr dX4_passes_9 ⟨by decide, by decide⟩ ⟨_, rfl, hend.1, by rw [hend.2]; exact hm, fun _ _ _ _ => rfl⟩
set_option maxRecDepth 100000 in
set_option maxHeartbeats 4000000 in
/-- X4_endsOf -/
theorem c_X4_endsOf {G : GG} {l : Launch} {c : CC} (hG : InjG G) (hl0 : l.stackTraces = false) {σ : St} {th : Int32} (hm : Mdl G c σ th) {j : Nat} (hj : j < 4) : MC G l yX4_endsOf (.code yX4_endsOf cX4_endsOf 5 (some .int) :: gws) (rmF 1 0 0 22) [.ref (G.1 33), .int (nI j)] c (pI (fun r c' => c = c' ∧ nI (ecT (σ.1 j) (σ.1 j).length) = r)) (pF) := by
  refine MC.of (by decide) hl0 hG (Nat.le_of_ble_eq_true rfl) (fun X hX h hN hQ hr => ?_)
  subst hX
  have hb := hm.b.1 j hj
  refine r_iconst h (v := nI 0) (by decide) dX4_endsOf_0 ?_
  refine r_istore_n h ([(2, .int (nI 0)), (0, .ref (G.1 33)), (1, .int (nI j))]) rfl dX4_endsOf_1 (by decide) rfl ?_
  refine r_iconst h (v := nI 0) (by decide) dX4_endsOf_2 ?_
  refine r_istore_n h ([(3, .int (nI 0)), (2, .int (nI 0)), (0, .ref (G.1 33)), (1, .int (nI j))]) rfl dX4_endsOf_3 (by decide) rfl ?_
  have loop : ∀ (n k m : Nat), (σ.1 j).length + 1 ≤ k + n → k ≤ (σ.1 j).length → m = ecT (σ.1 j) k → V G X c [(0, .ref (G.1 33)), (1, .int (nI j)), (2, .int (nI m)), (3, .int (nI k))] 0 0 4 [] := by
    intro n
    induction n with
    | zero => intro k m a1 a2; exact absurd a1 (by omega)
    | succ n ih =>
      intro k m a1 a2 a3
      have hml := ecT_le (σ.1 j) k
      refine r_iload_n h 3 rfl rfl dX4_endsOf_4 ?_
      refine r_aload_n h 0 rfl rfl dX4_endsOf_5 ?_
      refine r_getf h F_X4_13 (i := 33) (by omega) hm.o rfl dX4_endsOf_6 ?_
      refine r_iload_n h 1 rfl rfl dX4_endsOf_9 ?_
      obtain ⟨f1, e2, q3⟩ := hm.a35
      refine r_iald h (i := 35) (by omega) e2 (x := j) (by omega) (by decide) dX4_endsOf_10 ?_
      have z4 : f1 (j) = (nI ((σ.1 j).length)) := q3 j hj
      rw [z4]
      refine rn_icmp_ge h (a := k) (b := (σ.1 j).length) (by omega) (by omega) 79 dX4_endsOf_11 (by decide) (fun z => ?_) (fun z => ?_)
      · refine r_iload_n h 2 rfl rfl dX4_endsOf_79 ?_
        exact r_iret h hQ hr dX4_endsOf_80 ⟨by decide, by decide⟩ ⟨_, rfl, rfl, by rw [a3, show k = (σ.1 j).length by omega]⟩
      · suffices KK : ∀ s : Int32, s = (if atP (σ.1 j) (nI k - 1) = nI 13 then nI 1 else nI 0) → V G X c [(0, .ref (G.1 33)), (1, .int (nI j)), (2, .int (nI m)), (3, .int (nI k))] 0 0 36 [.int s] from ?_
        · refine r_iload_n h 3 rfl rfl dX4_endsOf_14 ?_
          refine rn_if_le h (a := k) (by omega) 35 dX4_endsOf_15 (by decide) (fun u => ?_) (fun u => ?_)
          · have hk0 : k = 0 := by omega
            subst hk0
            refine r_iconst h (v := nI 0) (by decide) dX4_endsOf_35 ?_
            exact KK _ (by rw [prev_0]; rfl)
          · have hk0 : 0 < k := by omega
            have hpr := prev_s hk0 z (by omega)
            refine r_aload_n h 0 rfl rfl dX4_endsOf_18 ?_
            refine r_iload_n h 1 rfl rfl dX4_endsOf_19 ?_
            refine r_iload_n h 3 rfl rfl dX4_endsOf_20 ?_
            refine r_iconst h (v := nI 1) (by decide) dX4_endsOf_21 ?_
            refine r_isub h (pk_sub (a := k) (b := 1) (by omega)) dX4_endsOf_22 ?_
            refine r_cV h k_X4_71 (i := 33) (As := [.int (nI j), .int (nI (k - 1))]) (rest := []) (c_X4_at h.i h.t hm (k := k - 1) hj rfl (by omega)) (by omega) hm.o rfl rfl rfl (Nat.le_of_ble_eq_true rfl) ⟨by decide, by decide, by decide, by decide⟩ dX4_endsOf_23 (fun _ z => z.elim) (fun v5 c6 p7 => ?_)
            obtain ⟨r, rfl, rfl, rfl⟩ := p7
            refine r_bipush h (v := nI 13) (by decide) dX4_endsOf_26 ?_
            refine r_icmp_ne h 35 dX4_endsOf_28 (by decide) (fun v => ?_) (fun v => ?_)
            · refine r_iconst h (v := nI 0) (by decide) dX4_endsOf_35 ?_
              exact KK _ (by rw [hpr, if_neg v])
            · refine r_iconst h (v := nI 1) (by decide) dX4_endsOf_31 ?_
              refine r_goto h 36 dX4_endsOf_32 (by decide) ?_
              exact KK _ (by rw [hpr, if_pos v])
        · intro s hs
          refine r_istore h ([(4, .int s), (0, .ref (G.1 33)), (1, .int (nI j)), (2, .int (nI m)), (3, .int (nI k))]) dX4_endsOf_36 (by decide) rfl ?_
          refine r_iload_n h 3 rfl rfl dX4_endsOf_38 ?_
          refine r_aload_n h 1 rfl rfl dX4_endsOf_39 ?_
          refine r_iload_n h 2 rfl rfl dX4_endsOf_40 ?_
          refine r_iload_n h 4 rfl rfl dX4_endsOf_41 ?_
          refine r_cV h k_X4_71 (i := 33) (As := [.int (nI j), .int (nI k)]) (rest := [.int (nI m)]) (c_X4_at h.i h.t hm (k := k) hj rfl (z)) (by omega) hm.o rfl rfl rfl (Nat.le_of_ble_eq_true rfl) ⟨by decide, by decide, by decide, by decide⟩ dX4_endsOf_42 (fun _ z => z.elim) (fun v8 c9 p10 => ?_)
          obtain ⟨r, rfl, rfl, rfl⟩ := p10
          refine r_bipush h (v := nI 13) (by decide) dX4_endsOf_45 ?_
          refine r_icmp_eq h 66 dX4_endsOf_47 (by decide) (fun v => ?_) (fun v => ?_)
          · refine r_iconst h (v := nI 1) (by decide) dX4_endsOf_66 ?_
            refine r_goto h 71 dX4_endsOf_67 (by decide) ?_
            refine r_iadd h (nI_add (m) (1)) dX4_endsOf_71 ?_
            refine r_istore_n h ([(2, .int (nI (m + 1))), (4, .int s), (0, .ref (G.1 33)), (1, .int (nI j)), (3, .int (nI k))]) rfl dX4_endsOf_72 (by decide) rfl ?_
            refine r_iinc h 4 ([(3, .int (nI (k + 1))), (2, .int (nI (m + 1))), (4, .int s), (0, .ref (G.1 33)), (1, .int (nI j))]) rfl (inc_1 (k)) dX4_endsOf_73 (by decide) rfl ?_
            refine r_goto h 4 dX4_endsOf_76 (by decide) ?_
            refine V_lv [3, 4, 1, 0] rfl ?_
            exact ih (k + 1) _ (by omega) (by omega) (by rw [a3, ec_yes (ec_13 v)])
          · refine r_aload_n h 1 rfl rfl dX4_endsOf_50 ?_
            refine r_iload_n h 2 rfl rfl dX4_endsOf_51 ?_
            refine r_iload_n h 4 rfl rfl dX4_endsOf_52 ?_
            refine r_cV h k_X4_71 (i := 33) (As := [.int (nI j), .int (nI k)]) (rest := [.int (nI m)]) (c_X4_at h.i h.t hm (k := k) hj rfl (z)) (by omega) hm.o rfl rfl rfl (Nat.le_of_ble_eq_true rfl) ⟨by decide, by decide, by decide, by decide⟩ dX4_endsOf_53 (fun _ z => z.elim) (fun v11 c12 p13 => ?_)
            obtain ⟨r, rfl, rfl, rfl⟩ := p13
            refine r_bipush h (v := nI 10) (by decide) dX4_endsOf_56 ?_
            refine r_icmp_ne h 70 dX4_endsOf_58 (by decide) (fun v2 => ?_) (fun v2 => ?_)
            · refine r_iconst h (v := nI 0) (by decide) dX4_endsOf_70 ?_
              refine r_iadd h (nI_add (m) (0)) dX4_endsOf_71 ?_
              refine r_istore_n h ([(2, .int (nI (m + 0))), (4, .int s), (0, .ref (G.1 33)), (1, .int (nI j)), (3, .int (nI k))]) rfl dX4_endsOf_72 (by decide) rfl ?_
              refine r_iinc h 4 ([(3, .int (nI (k + 1))), (2, .int (nI (m + 0))), (4, .int s), (0, .ref (G.1 33)), (1, .int (nI j))]) rfl (inc_1 (k)) dX4_endsOf_73 (by decide) rfl ?_
              refine r_goto h 4 dX4_endsOf_76 (by decide) ?_
              refine V_lv [3, 4, 1, 0] rfl ?_
              exact ih (k + 1) _ (by omega) (by omega) (by rw [a3, ec_no (ec_n v v2), Nat.add_zero])
            · refine r_iload h 0 rfl dX4_endsOf_61 ?_
              refine r_if_ne h 70 dX4_endsOf_63 (by decide) (fun v3 => ?_) (fun v3 => ?_)
              · refine r_iconst h (v := nI 0) (by decide) dX4_endsOf_70 ?_
                refine r_iadd h (nI_add (m) (0)) dX4_endsOf_71 ?_
                refine r_istore_n h ([(2, .int (nI (m + 0))), (4, .int s), (0, .ref (G.1 33)), (1, .int (nI j)), (3, .int (nI k))]) rfl dX4_endsOf_72 (by decide) rfl ?_
                refine r_iinc h 4 ([(3, .int (nI (k + 1))), (2, .int (nI (m + 0))), (4, .int s), (0, .ref (G.1 33)), (1, .int (nI j))]) rfl (inc_1 (k)) dX4_endsOf_73 (by decide) rfl ?_
                refine r_goto h 4 dX4_endsOf_76 (by decide) ?_
                refine V_lv [3, 4, 1, 0] rfl ?_
                exact ih (k + 1) _ (by omega) (by omega) (by rw [a3, ec_no (ec_2 v2 (Classical.byContradiction (fun y => v3 (by rw [hs, if_neg y]; rfl)))), Nat.add_zero])
              · refine r_iconst h (v := nI 1) (by decide) dX4_endsOf_66 ?_
                refine r_goto h 71 dX4_endsOf_67 (by decide) ?_
                refine r_iadd h (nI_add (m) (1)) dX4_endsOf_71 ?_
                refine r_istore_n h ([(2, .int (nI (m + 1))), (4, .int s), (0, .ref (G.1 33)), (1, .int (nI j)), (3, .int (nI k))]) rfl dX4_endsOf_72 (by decide) rfl ?_
                refine r_iinc h 4 ([(3, .int (nI (k + 1))), (2, .int (nI (m + 1))), (4, .int s), (0, .ref (G.1 33)), (1, .int (nI j))]) rfl (inc_1 (k)) dX4_endsOf_73 (by decide) rfl ?_
                refine r_goto h 4 dX4_endsOf_76 (by decide) ?_
                refine V_lv [3, 4, 1, 0] rfl ?_
                exact ih (k + 1) _ (by omega) (by omega) (by rw [a3, ec_yes (ec_10 v2 (fun y => by rw [hs, if_pos y] at v3; exact absurd v3 (by decide)))])
  refine V_lv [2, 3, 1, 0] rfl ?_
  exact loop ((σ.1 j).length + 1) 0 0 (by omega) (by omega) rfl
set_option maxRecDepth 100000 in
set_option maxHeartbeats 4000000 in
/-- X4_goesIn -/
theorem c_X4_goesIn {G : GG} {l : Launch} {c : CC} (hG : InjG G) (hl0 : l.stackTraces = false) {σ : St} {th : Int32} {j : Nat} (hj : j < 4) {t : Stm} {i : Nat} (hi : i < 4) {A : List Int32} (hA : σ.1 i = A) (hm : Mdl G c (stT σ j t) th) (hall : allB A) (hlen : (sO t).length + A.length ≤ 240) (b : Bool) (ahead : Int32) : MC G l yX4_goesIn (.code yX4_goesIn cX4_goesIn 8 (some .int) :: gws) (rmF 1 0 0 22) [.ref (G.1 33), .int (nI j), .int (nI i), .int (if b = true then 1 else 0), .int ahead] c (pI (fun r c' => (if A.length = 0 then ahead else A.getD (A.length - 1) 0) = r ∧ Mdl G c' (stT σ j (tO t (sO t ++ gI b ahead A))) th ∧ ∀ y : Nat, y ≠ 38 → y ≠ 39 → c' y = c y)) (pF) := by
  refine MC.of (by decide) hl0 hG (Nat.le_of_ble_eq_true rfl) (fun X hX h hN hQ hr => ?_)
  subst hX
  have hb : A.length ≤ 120 := by have z : (σ.1 i).length ≤ 120 := hm.b.1 i hi; rw [hA] at z; exact z
  refine r_iload h 4 rfl dX4_goesIn_0 ?_
  refine r_istore h ([(5, .int ahead), (0, .ref (G.1 33)), (1, .int (nI j)), (2, .int (nI i)), (3, .int (if b = true then 1 else 0)), (4, .int ahead)]) dX4_goesIn_2 (by decide) rfl ?_
  refine r_iconst h (v := nI 0) (by decide) dX4_goesIn_4 ?_
  refine r_istore h ([(6, .int (nI 0)), (5, .int ahead), (0, .ref (G.1 33)), (1, .int (nI j)), (2, .int (nI i)), (3, .int (if b = true then 1 else 0)), (4, .int ahead)]) dX4_goesIn_5 (by decide) rfl ?_
  have loop : ∀ (n k : Nat) (p : Int32) (c1 : CC), A.length + 1 ≤ k + n → k ≤ A.length → p = (if k = 0 then ahead else A.getD (k - 1) 0) → Mdl G c1 (stT σ j (tO t (sO t ++ gJ b ahead A k))) th → (∀ y : Nat, y ≠ 38 → y ≠ 39 → c1 y = c y) → V G X c1 [(0, .ref (G.1 33)), (1, .int (nI j)), (2, .int (nI i)), (3, .int (if b = true then 1 else 0)), (5, .int p), (6, .int (nI k))] 0 0 7 [] := by
    intro n
    induction n with
    | zero => intro k p c1 a1 a2; exact absurd a1 (by omega)
    | succ n ih =>
      intro k p c1 a1 a2 a3 m1 k1
      have hgl := gJ_len b ahead A k
      refine r_iload h 5 rfl dX4_goesIn_7 ?_
      refine r_aload_n h 0 rfl rfl dX4_goesIn_9 ?_
      refine r_getf h F_X4_13 (i := 33) (by omega) m1.o rfl dX4_goesIn_10 ?_
      refine r_iload_n h 2 rfl rfl dX4_goesIn_13 ?_
      obtain ⟨f1, e2, q3⟩ := m1.a35
      refine r_iald h (i := 35) (by omega) e2 (x := i) (by omega) (by decide) dX4_goesIn_14 ?_
      have z4 : f1 (i) = (nI (A.length)) := (q3 i hi).trans (congrArg (fun l : List Int32 => nI l.length) hA)
      rw [z4]
      refine rn_icmp_ge h (a := k) (b := A.length) (by omega) (by omega) 89 dX4_goesIn_15 (by decide) (fun z => ?_) (fun z => ?_)
      · refine r_iload h 4 rfl dX4_goesIn_89 ?_
        exact r_iret h hQ hr dX4_goesIn_91 ⟨by decide, by decide⟩ ⟨_, rfl, by rw [a3, show k = A.length by omega], by rw [show k = A.length by omega, gJ_I] at m1; exact m1, k1⟩
      · refine r_aload_n h 0 rfl rfl dX4_goesIn_18 ?_
        refine r_iload_n h 2 rfl rfl dX4_goesIn_19 ?_
        refine r_iload h 5 rfl dX4_goesIn_20 ?_
        refine r_cV h k_X4_71 (i := 33) (As := [.int (nI i), .int (nI k)]) (rest := []) (c_X4_at h.i h.t m1 (j := i) (k := k) hi (A := A) hA z) (by omega) m1.o rfl rfl rfl (Nat.le_of_ble_eq_true rfl) ⟨by decide, by decide, by decide, by decide⟩ dX4_goesIn_22 (fun _ z => z.elim) (fun v5 c6 p7 => ?_)
        obtain ⟨r, rfl, rfl, rfl⟩ := p7
        refine r_istore h ([(7, .int (A.getD k 0)), (0, .ref (G.1 33)), (1, .int (nI j)), (2, .int (nI i)), (3, .int (if b = true then 1 else 0)), (5, .int p), (6, .int (nI k))]) dX4_goesIn_25 (by decide) rfl ?_
        refine r_iload_n h 4 rfl rfl dX4_goesIn_27 ?_
        refine rb_if_ne h 41 dX4_goesIn_28 (by decide) (fun u => ?_) (fun u => ?_)
        · refine r_iload h 0 rfl dX4_goesIn_41 ?_
          refine r_bipush h (v := nI 13) (by decide) dX4_goesIn_43 ?_
          refine r_icmp_ne h 58 dX4_goesIn_45 (by decide) (fun v => ?_) (fun v => ?_)
          · refine r_iload h 0 rfl dX4_goesIn_58 ?_
            refine r_bipush h (v := nI 10) (by decide) dX4_goesIn_60 ?_
            refine r_icmp_ne h 72 dX4_goesIn_62 (by decide) (fun v2 => ?_) (fun v2 => ?_)
            · refine r_aload_n h 1 rfl rfl dX4_goesIn_72 ?_
              refine r_iload_n h 2 rfl rfl dX4_goesIn_73 ?_
              refine r_iload h 0 rfl dX4_goesIn_74 ?_
              refine r_cV h k_X4_79 (i := 33) (As := [.int (nI j), .int (A.getD k 0)]) (rest := []) (c_X4_comes h.i h.t hj m1 (by show (sO t ++ gJ b ahead A k).length < 240; rw [List.length_append]; omega) (A.getD k 0)) (by omega) m1.o rfl rfl rfl (Nat.le_of_ble_eq_true rfl) ⟨by decide, by decide, by decide, by decide⟩ dX4_goesIn_76 (fun _ z => z.elim) (fun v21 c18 p22 => ?_)
              obtain ⟨rfl, hm19, k20⟩ := p22
              have hm19 : Mdl G c18 (stT σ j (tO t (sO t ++ gJ b ahead A (k + 1)))) th := by rw [gJ_x u a3 v (fun y => v2 y.1) (allB_ne hall z), ← List.append_assoc]; exact hm19
              refine r_iload h 0 rfl dX4_goesIn_79 ?_
              refine r_istore h ([(5, .int (A.getD k 0)), (7, .int (A.getD k 0)), (0, .ref (G.1 33)), (1, .int (nI j)), (2, .int (nI i)), (3, .int (if b = true then 1 else 0)), (6, .int (nI k))]) dX4_goesIn_81 (by decide) rfl ?_
              refine r_iinc h 6 ([(6, .int (nI (k + 1))), (5, .int (A.getD k 0)), (7, .int (A.getD k 0)), (0, .ref (G.1 33)), (1, .int (nI j)), (2, .int (nI i)), (3, .int (if b = true then 1 else 0))]) rfl (inc_1 (k)) dX4_goesIn_83 (by decide) rfl ?_
              refine r_goto h 7 dX4_goesIn_86 (by decide) ?_
              refine V_lv [3, 4, 5, 6, 1, 0] rfl ?_
              exact ih (k + 1) _ c18 (by omega) (by omega) (if_neg (Nat.succ_ne_zero k)).symm hm19 (fun y p q => ((k20 y (by omega) (by omega)).trans (k1 y (by omega) (by omega))))
            · refine r_iload h 5 rfl dX4_goesIn_65 ?_
              refine r_bipush h (v := nI 13) (by decide) dX4_goesIn_67 ?_
              refine r_icmp_eq h 79 dX4_goesIn_69 (by decide) (fun v3 => ?_) (fun v3 => ?_)
              · have m1 : Mdl G c1 (stT σ j (tO t (sO t ++ gJ b ahead A (k + 1)))) th := by rw [gJ_m u a3 v2 v3]; exact m1
                refine r_iload h 0 rfl dX4_goesIn_79 ?_
                refine r_istore h ([(5, .int (A.getD k 0)), (7, .int (A.getD k 0)), (0, .ref (G.1 33)), (1, .int (nI j)), (2, .int (nI i)), (3, .int (if b = true then 1 else 0)), (6, .int (nI k))]) dX4_goesIn_81 (by decide) rfl ?_
                refine r_iinc h 6 ([(6, .int (nI (k + 1))), (5, .int (A.getD k 0)), (7, .int (A.getD k 0)), (0, .ref (G.1 33)), (1, .int (nI j)), (2, .int (nI i)), (3, .int (if b = true then 1 else 0))]) rfl (inc_1 (k)) dX4_goesIn_83 (by decide) rfl ?_
                refine r_goto h 7 dX4_goesIn_86 (by decide) ?_
                refine V_lv [3, 4, 5, 6, 1, 0] rfl ?_
                exact ih (k + 1) _ c1 (by omega) (by omega) (if_neg (Nat.succ_ne_zero k)).symm m1 (fun y p q => (k1 y (by omega) (by omega)))
              · refine r_aload_n h 1 rfl rfl dX4_goesIn_72 ?_
                refine r_iload_n h 2 rfl rfl dX4_goesIn_73 ?_
                refine r_iload h 0 rfl dX4_goesIn_74 ?_
                refine r_cV h k_X4_79 (i := 33) (As := [.int (nI j), .int (A.getD k 0)]) (rest := []) (c_X4_comes h.i h.t hj m1 (by show (sO t ++ gJ b ahead A k).length < 240; rw [List.length_append]; omega) (A.getD k 0)) (by omega) m1.o rfl rfl rfl (Nat.le_of_ble_eq_true rfl) ⟨by decide, by decide, by decide, by decide⟩ dX4_goesIn_76 (fun _ z => z.elim) (fun v26 c23 p27 => ?_)
                obtain ⟨rfl, hm24, k25⟩ := p27
                have hm24 : Mdl G c23 (stT σ j (tO t (sO t ++ gJ b ahead A (k + 1)))) th := by rw [gJ_x u a3 v (fun y => v3 y.2) (allB_ne hall z), ← List.append_assoc]; exact hm24
                refine r_iload h 0 rfl dX4_goesIn_79 ?_
                refine r_istore h ([(5, .int (A.getD k 0)), (7, .int (A.getD k 0)), (0, .ref (G.1 33)), (1, .int (nI j)), (2, .int (nI i)), (3, .int (if b = true then 1 else 0)), (6, .int (nI k))]) dX4_goesIn_81 (by decide) rfl ?_
                refine r_iinc h 6 ([(6, .int (nI (k + 1))), (5, .int (A.getD k 0)), (7, .int (A.getD k 0)), (0, .ref (G.1 33)), (1, .int (nI j)), (2, .int (nI i)), (3, .int (if b = true then 1 else 0))]) rfl (inc_1 (k)) dX4_goesIn_83 (by decide) rfl ?_
                refine r_goto h 7 dX4_goesIn_86 (by decide) ?_
                refine V_lv [3, 4, 5, 6, 1, 0] rfl ?_
                exact ih (k + 1) _ c23 (by omega) (by omega) (if_neg (Nat.succ_ne_zero k)).symm hm24 (fun y p q => ((k25 y (by omega) (by omega)).trans (k1 y (by omega) (by omega))))
          · refine r_aload_n h 1 rfl rfl dX4_goesIn_48 ?_
            refine r_iload_n h 2 rfl rfl dX4_goesIn_49 ?_
            refine r_bipush h (v := nI 10) (by decide) dX4_goesIn_50 ?_
            refine r_cV h k_X4_79 (i := 33) (As := [.int (nI j), .int (nI 10)]) (rest := []) (c_X4_comes h.i h.t hj m1 (by show (sO t ++ gJ b ahead A k).length < 240; rw [List.length_append]; omega) (nI 10)) (by omega) m1.o rfl rfl rfl (Nat.le_of_ble_eq_true rfl) ⟨by decide, by decide, by decide, by decide⟩ dX4_goesIn_52 (fun _ z => z.elim) (fun v16 c13 p17 => ?_)
            obtain ⟨rfl, hm14, k15⟩ := p17
            have hm14 : Mdl G c13 (stT σ j (tO t (sO t ++ gJ b ahead A (k + 1)))) th := by rw [gJ_13 u v, ← List.append_assoc]; exact hm14
            refine r_goto h 79 dX4_goesIn_55 (by decide) ?_
            refine r_iload h 0 rfl dX4_goesIn_79 ?_
            refine r_istore h ([(5, .int (A.getD k 0)), (7, .int (A.getD k 0)), (0, .ref (G.1 33)), (1, .int (nI j)), (2, .int (nI i)), (3, .int (if b = true then 1 else 0)), (6, .int (nI k))]) dX4_goesIn_81 (by decide) rfl ?_
            refine r_iinc h 6 ([(6, .int (nI (k + 1))), (5, .int (A.getD k 0)), (7, .int (A.getD k 0)), (0, .ref (G.1 33)), (1, .int (nI j)), (2, .int (nI i)), (3, .int (if b = true then 1 else 0))]) rfl (inc_1 (k)) dX4_goesIn_83 (by decide) rfl ?_
            refine r_goto h 7 dX4_goesIn_86 (by decide) ?_
            refine V_lv [3, 4, 5, 6, 1, 0] rfl ?_
            exact ih (k + 1) _ c13 (by omega) (by omega) (if_neg (Nat.succ_ne_zero k)).symm hm14 (fun y p q => ((k15 y (by omega) (by omega)).trans (k1 y (by omega) (by omega))))
        · refine r_aload_n h 1 rfl rfl dX4_goesIn_31 ?_
          refine r_iload_n h 2 rfl rfl dX4_goesIn_32 ?_
          refine r_iload h 0 rfl dX4_goesIn_33 ?_
          refine r_cV h k_X4_79 (i := 33) (As := [.int (nI j), .int (A.getD k 0)]) (rest := []) (c_X4_comes h.i h.t hj m1 (by show (sO t ++ gJ b ahead A k).length < 240; rw [List.length_append]; omega) (A.getD k 0)) (by omega) m1.o rfl rfl rfl (Nat.le_of_ble_eq_true rfl) ⟨by decide, by decide, by decide, by decide⟩ dX4_goesIn_35 (fun _ z => z.elim) (fun v11 c8 p12 => ?_)
          obtain ⟨rfl, hm9, k10⟩ := p12
          have hm9 : Mdl G c8 (stT σ j (tO t (sO t ++ gJ b ahead A (k + 1)))) th := by rw [gJ_no u z, ← List.append_assoc]; exact hm9
          refine r_goto h 79 dX4_goesIn_38 (by decide) ?_
          refine r_iload h 0 rfl dX4_goesIn_79 ?_
          refine r_istore h ([(5, .int (A.getD k 0)), (7, .int (A.getD k 0)), (0, .ref (G.1 33)), (1, .int (nI j)), (2, .int (nI i)), (3, .int (if b = true then 1 else 0)), (6, .int (nI k))]) dX4_goesIn_81 (by decide) rfl ?_
          refine r_iinc h 6 ([(6, .int (nI (k + 1))), (5, .int (A.getD k 0)), (7, .int (A.getD k 0)), (0, .ref (G.1 33)), (1, .int (nI j)), (2, .int (nI i)), (3, .int (if b = true then 1 else 0))]) rfl (inc_1 (k)) dX4_goesIn_83 (by decide) rfl ?_
          refine r_goto h 7 dX4_goesIn_86 (by decide) ?_
          refine V_lv [3, 4, 5, 6, 1, 0] rfl ?_
          exact ih (k + 1) _ c8 (by omega) (by omega) (if_neg (Nat.succ_ne_zero k)).symm hm9 (fun y p q => ((k10 y (by omega) (by omega)).trans (k1 y (by omega) (by omega))))
  refine V_lv [2, 3, 4, 5, 1, 0] rfl ?_
  exact loop (A.length + 1) 0 ahead c (by omega) (by omega) rfl (by rw [gJ_0, List.append_nil]; exact hm) (fun _ _ _ => rfl)
set_option maxRecDepth 100000 in
set_option maxHeartbeats 4000000 in
/-- X4_partLength -/
theorem c_X4_partLength {G : GG} {l : Launch} {c : CC} (hG : InjG G) (hl0 : l.stackTraces = false) {σ : St} {th : Int32} (hm : Mdl G c σ th)  : MC G l yX4_partLength (.code yX4_partLength cX4_partLength 1 (some .int) :: gws) (rmF 0 0 0 0) [.ref (G.1 33)] c (pI (fun r c' => nI σ.2.1.length = r ∧ c = c')) (pF) := by
  refine MC.of (by decide) hl0 hG (Nat.le_of_ble_eq_true rfl) (fun X hX h hN hQ hr => ?_)
  subst hX
  refine r_aload_n h 0 rfl rfl dX4_partLength_0 ?_
  refine r_getf h F_X4_115 (i := 33) (by omega) hm.o rfl dX4_partLength_1 ?_
  exact r_iret h hQ hr dX4_partLength_4 ⟨by decide, by decide⟩ ⟨_, rfl, rfl, rfl⟩
set_option maxRecDepth 100000 in
set_option maxHeartbeats 4000000 in
/-- X4_isTrue -/
theorem c_X4_isTrue {G : GG} {l : Launch} {c : CC} (hG : InjG G) (hl0 : l.stackTraces = false) {σ : St} {th : Int32} (hm : Mdl G c σ th)  : MC G l yX4_isTrue (.code yX4_isTrue cX4_isTrue 1 (some .boolean) :: gws) (rmF 0 0 0 0) [.ref (G.1 33)] c (pI (fun r c' => nI 1 = r ∧ c = c')) (pF) := by
  refine MC.of (by decide) hl0 hG (Nat.le_of_ble_eq_true rfl) (fun X hX h hN hQ hr => ?_)
  subst hX
  refine r_iconst h (v := nI 1) (by decide) dX4_isTrue_0 ?_
  exact r_zret h hQ hr (by decide) dX4_isTrue_1 ⟨by decide, by decide⟩ ⟨_, rfl, rfl, rfl⟩
