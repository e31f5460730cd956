/-! THE LAW'S OWN CALLS: each catches what the class throws -/
theorem Cls.mono {G : GG} {c c' : CC} {σ : St} (h : Cls G c σ) (k : ∀ y : Nat, y < 33 → c' y = c y) : Cls G c' σ := by
  obtain ⟨a, ⟨f, b1, b2⟩, ⟨g, d1, d2⟩, e1, ⟨e2, e3⟩, e4, e5⟩ := h
  exact ⟨(k 0 (by omega)).trans a, ⟨f, (k 1 (by omega)).trans b1, b2⟩, ⟨g, (k 2 (by omega)).trans d1, d2⟩, fun j hj => ⟨(e1 j hj).1.mono (k _ (by omega)) (k _ (by omega)), (e1 j hj).2⟩, ⟨e2.mono (k _ (by omega)) (k _ (by omega)), e3⟩, fun j hj => ⟨(e4 j hj).1.mono (k _ (by omega)) (k _ (by omega)) (k _ (by omega)), (e4 j hj).2⟩, e5.mono (fun y h1 h2 => k y h2)⟩
/-- what a wrapper answers: the code; the answer, in 'out' -/
def wQ {β : Type} (G : GG) (c : CC) (R : Nat × β × St) (O : CC → β → Prop) (a : Nat) (r : Int32) (c' : CC) : Prop := nI R.1 = r ∧ Cls G c' R.2.2 ∧ (R.1 = 0 → O c' R.2.1) ∧ ((∃ fo : Nat → Int64, c 47 = .inl (G.2.2.2 1, 1, .inr (.inl fo))) → ∃ fo : Nat → Int64, c' 47 = .inl (G.2.2.2 1, 1, .inr (.inl fo))) ∧ ((∃ fo : Nat → UInt64, c 48 = .inl (G.2.2.2 3, 1, .inr (.inr (.inr (.inl fo))))) → ∃ fo : Nat → UInt64, c' 48 = .inl (G.2.2.2 3, 1, .inr (.inr (.inr (.inl fo))))) ∧ ∀ y : Nat, 33 ≤ y → y ≠ a → c' y = c y
def oL (G : GG) (c : CC) (v : Int64) : Prop := ∃ fo : Nat → Int64, c 47 = .inl (G.2.2.2 1, 1, .inr (.inl fo)) ∧ fo 0 = v
def oD (G : GG) (c : CC) (v : UInt64) : Prop := ∃ fo : Nat → UInt64, c 48 = .inl (G.2.2.2 3, 1, .inr (.inr (.inr (.inl fo)))) ∧ fo 0 = v
def oI (G : GG) (c : CC) (v : Int32) : Prop := oL G c v.toInt64
def oZ (G : GG) (c : CC) (v : Int32) : Prop := oL G c (if v = 0 then 0 else 1)
def oF (G : GG) (c : CC) (v : UInt32) : Prop := oD G c (FP.f2d v)
theorem wQ.thrown {β : Type} {G : GG} {c : CC} {σ : St} (hc : Cls G c σ) {R : Nat × β × St} {O : CC → β → Prop} {a k : Nat} (h : R.1 = k + 1) (ht : R.1 = 0 ∨ R.2.2 = σ) : wQ G c R O a (nI (k + 1)) c := by
  have h2 : R.2.2 = σ := ht.resolve_left (fun z => by omega)
  exact ⟨by rw [h], by rw [h2]; exact hc, fun z => by omega, fun z => z, fun z => z, fun _ _ _ => rfl⟩
theorem vf_eq {f : Nat → UInt64} {k : Nat} {x : UInt64} : vf_upd f k x k = x := if_pos rfl
theorem f_share_fin {σ : St} (hb : ∀ j : Nat, j < 4 → (σ.1 j).length ≤ 120) {x : Int32} {r : UInt32} (h0 : (f_share σ x).1 = 0) (h1 : (f_share σ x).2.1 = r) : FP.Core.fIsNaN r = false := by
  unfold f_share at h0 h1
  by_cases q : ixB x = true
  · rw [if_pos q] at h0 h1
    by_cases z : 0 < (σ.1 (ixN x)).length
    · rw [if_pos z] at h1
      obtain ⟨j, hj, rfl⟩ := ixB_ix (x := x) (by rw [q]; decide)
      rw [← h1]
      have := hb j hj
      refine fdiv_ok _ z ?_
      rw [ixN_nI hj]
      omega
    · rw [if_neg z] at h0
      exact absurd (show (2 : Nat) = 0 from h0) (by decide)
  · rw [if_neg q] at h0
    exact absurd (show (1 : Nat) = 0 from h0) (by decide)
theorem f_type_th (σ : St) (p0 p1 : Int32) : (f_type σ p0 p1).1 = 0 ∨ (f_type σ p0 p1).2.2 = σ := by
  unfold f_type
  (repeat' split) <;> (try dsimp only) <;> (repeat' split) <;> first | exact Or.inl rfl | exact Or.inr rfl
set_option maxRecDepth 100000 in
set_option maxHeartbeats 4000000 in
/-- L_type -/
theorem c_L_type {G : GG} {l : Launch} {c : CC} (hG : InjG G) (hl0 : l.stackTraces = false) {σ : St} (hc : Cls G c σ) {fo : Nat → Int64} (ho : c 47 = .inl (G.2.2.2 1, 1, .inr (.inl fo))) (p0 p1 : Int32) : MC G l yL_type (.codeWith yL_type cL_type 5 (some .int) [(0, 10, 13, 13), (0, 10, 17, 15), (0, 10, 21, 17)] :: gws) (rmF 8 8 48 139) [.ref (G.1 0), .int p0, .int p1, .ref (G.1 47)] c (pI (wQ G c (f_type σ p0 p1) (oI G) 47)) (pF) := by
  refine MC.ofH (by decide) hl0 hG (Nat.le_of_ble_eq_true rfl) (fun X hX h hN hQ hr => ?_)
  subst hX
  refine r_aload_n h 3 rfl rfl dL_type_0 ?_
  refine r_iconst h (v := nI 0) (by decide) dL_type_1 ?_
  refine r_aload_n h 0 rfl rfl dL_type_2 ?_
  refine r_iload_n h 1 rfl rfl dL_type_3 ?_
  refine r_iload_n h 2 rfl rfl dL_type_4 ?_
  refine r_cV h k_L_7 (i := 0) (As := [.int p0, .int p1]) (rest := [.int (nI 0), .ref (G.1 47)]) (c_X3_type h.i h.t hc p0 p1) (by omega) hc.o rfl rfl rfl (Nat.le_of_ble_eq_true rfl) ⟨by decide, by decide, by decide, by decide⟩ dL_type_5 (fun E hE => ?_) (fun v2 c1 p3 => ?_)
  · obtain ⟨e, he, hR⟩ := hE
    rcases e with _ | e
    · cases Option.some.inj he
      refine VX.catch (pre := []) (x := ⟨0, 10, 13, 13⟩) (suf := ⟨0, 10, 17, 15⟩ :: ⟨0, 10, 21, 17⟩ :: []) h (hN.trans rfl) (fun z hz => nomatch hz) (by decide) (by decide) C_L_13 (by decide +kernel) (fun q => ?_)
      refine r_astore h ([(4, .ref q), (0, .ref (G.1 0)), (1, .int p0), (2, .int p1), (3, .ref (G.1 47))]) dL_type_13 (by decide) rfl ?_
      refine r_iconst h (v := nI 1) (by decide) dL_type_15 ?_
      exact r_iret h hQ hr dL_type_16 ⟨by decide, by decide⟩ ⟨_, rfl, wQ.thrown (k := 0) hc hR (f_type_th σ p0 p1)⟩
    · rcases e with _ | e
      · cases Option.some.inj he
        refine VX.catch (pre := ⟨0, 10, 13, 13⟩ :: []) (x := ⟨0, 10, 17, 15⟩) (suf := ⟨0, 10, 21, 17⟩ :: []) h (hN.trans rfl) (fun z hz => by simp only [List.mem_cons, List.not_mem_nil, or_false] at hz; rcases hz with rfl <;> first | exact Or.inr ⟨by decide, _, C_L_13, by decide +kernel⟩) (by decide) (by decide) C_L_15 (by decide +kernel) (fun q => ?_)
        refine r_astore h ([(4, .ref q), (0, .ref (G.1 0)), (1, .int p0), (2, .int p1), (3, .ref (G.1 47))]) dL_type_17 (by decide) rfl ?_
        refine r_iconst h (v := nI 2) (by decide) dL_type_19 ?_
        exact r_iret h hQ hr dL_type_20 ⟨by decide, by decide⟩ ⟨_, rfl, wQ.thrown (k := 1) hc hR (f_type_th σ p0 p1)⟩
      · rcases e with _ | e
        · cases Option.some.inj he
          refine VX.catch (pre := ⟨0, 10, 13, 13⟩ :: ⟨0, 10, 17, 15⟩ :: []) (x := ⟨0, 10, 21, 17⟩) (suf := []) h (hN.trans rfl) (fun z hz => by simp only [List.mem_cons, List.not_mem_nil, or_false] at hz; rcases hz with rfl | rfl <;> first | exact Or.inr ⟨by decide, _, C_L_13, by decide +kernel⟩ | exact Or.inr ⟨by decide, _, C_L_15, by decide +kernel⟩) (by decide) (by decide) C_L_17 (by decide +kernel) (fun q => ?_)
          refine r_astore h ([(4, .ref q), (0, .ref (G.1 0)), (1, .int p0), (2, .int p1), (3, .ref (G.1 47))]) dL_type_21 (by decide) rfl ?_
          refine r_iconst h (v := nI 3) (by decide) dL_type_23 ?_
          exact r_iret h hQ hr dL_type_24 ⟨by decide, by decide⟩ ⟨_, rfl, wQ.thrown (k := 2) hc hR (f_type_th σ p0 p1)⟩
        · cases he
  · obtain ⟨r, rfl, hR0, hR1, hC, hK⟩ := p3
    have g4 := (hK 47 (by omega)).trans ho
    refine r_i2l h rfl dL_type_8 ?_
    refine r_last h (i := 47) (by omega) g4 (x := 0) (by omega) (by decide) dL_type_9 (fun c5 h6 k7 => ?_)
    refine r_goto h 25 dL_type_10 (by decide) ?_
    refine r_iconst h (v := nI 0) (by decide) dL_type_25 ?_
    exact r_iret h hQ hr dL_type_26 ⟨by decide, by decide⟩ ⟨_, rfl, by rw [hR0], hC.mono (fun y hy => k7 y (by omega)), fun _ => ⟨_, h6, by rw [hR1]; exact upL_eq⟩, fun _ => ⟨_, h6⟩, fun z => z.elim (fun g hg => ⟨g, ((k7 48 (by omega)).trans (hK 48 (by omega))).trans hg⟩), fun y hy hy2 => (k7 y hy2).trans (hK y hy)⟩
theorem f_typeMany_th (σ : St) (p0 p1 p2 : Int32) : (f_typeMany σ p0 p1 p2).1 = 0 ∨ (f_typeMany σ p0 p1 p2).2.2 = σ := by
  unfold f_typeMany
  (repeat' split) <;> (try dsimp only) <;> (repeat' split) <;> first | exact Or.inl rfl | exact Or.inr rfl
set_option maxRecDepth 100000 in
set_option maxHeartbeats 4000000 in
/-- L_typeMany -/
theorem c_L_typeMany {G : GG} {l : Launch} {c : CC} (hG : InjG G) (hl0 : l.stackTraces = false) {σ : St} (hc : Cls G c σ) {fo : Nat → Int64} (ho : c 47 = .inl (G.2.2.2 1, 1, .inr (.inl fo))) (p0 p1 p2 : Int32) : MC G l yL_typeMany (.codeWith yL_typeMany cL_typeMany 6 (some .int) [(0, 12, 15, 13), (0, 12, 19, 15), (0, 12, 23, 17)] :: gws) (rmF 8 8 48 142) [.ref (G.1 0), .int p0, .int p1, .int p2, .ref (G.1 47)] c (pI (wQ G c (f_typeMany σ p0 p1 p2) (oI G) 47)) (pF) := by
  refine MC.ofH (by decide) hl0 hG (Nat.le_of_ble_eq_true rfl) (fun X hX h hN hQ hr => ?_)
  subst hX
  refine r_aload h 4 rfl dL_typeMany_0 ?_
  refine r_iconst h (v := nI 0) (by decide) dL_typeMany_2 ?_
  refine r_aload_n h 0 rfl rfl dL_typeMany_3 ?_
  refine r_iload_n h 1 rfl rfl dL_typeMany_4 ?_
  refine r_iload_n h 2 rfl rfl dL_typeMany_5 ?_
  refine r_iload_n h 3 rfl rfl dL_typeMany_6 ?_
  refine r_cV h k_L_19 (i := 0) (As := [.int p0, .int p1, .int p2]) (rest := [.int (nI 0), .ref (G.1 47)]) (c_X3_typeMany h.i h.t hc p0 p1 p2) (by omega) hc.o rfl rfl rfl (Nat.le_of_ble_eq_true rfl) ⟨by decide, by decide, by decide, by decide⟩ dL_typeMany_7 (fun E hE => ?_) (fun v2 c1 p3 => ?_)
  · obtain ⟨e, he, hR⟩ := hE
    rcases e with _ | e
    · cases Option.some.inj he
      refine VX.catch (pre := []) (x := ⟨0, 12, 15, 13⟩) (suf := ⟨0, 12, 19, 15⟩ :: ⟨0, 12, 23, 17⟩ :: []) h (hN.trans rfl) (fun z hz => nomatch hz) (by decide) (by decide) C_L_13 (by decide +kernel) (fun q => ?_)
      refine r_astore h ([(5, .ref q), (0, .ref (G.1 0)), (1, .int p0), (2, .int p1), (3, .int p2), (4, .ref (G.1 47))]) dL_typeMany_15 (by decide) rfl ?_
      refine r_iconst h (v := nI 1) (by decide) dL_typeMany_17 ?_
      exact r_iret h hQ hr dL_typeMany_18 ⟨by decide, by decide⟩ ⟨_, rfl, wQ.thrown (k := 0) hc hR (f_typeMany_th σ p0 p1 p2)⟩
    · rcases e with _ | e
      · cases Option.some.inj he
        refine VX.catch (pre := ⟨0, 12, 15, 13⟩ :: []) (x := ⟨0, 12, 19, 15⟩) (suf := ⟨0, 12, 23, 17⟩ :: []) h (hN.trans rfl) (fun z hz => by simp only [List.mem_cons, List.not_mem_nil, or_false] at hz; rcases hz with rfl <;> first | exact Or.inr ⟨by decide, _, C_L_13, by decide +kernel⟩) (by decide) (by decide) C_L_15 (by decide +kernel) (fun q => ?_)
        refine r_astore h ([(5, .ref q), (0, .ref (G.1 0)), (1, .int p0), (2, .int p1), (3, .int p2), (4, .ref (G.1 47))]) dL_typeMany_19 (by decide) rfl ?_
        refine r_iconst h (v := nI 2) (by decide) dL_typeMany_21 ?_
        exact r_iret h hQ hr dL_typeMany_22 ⟨by decide, by decide⟩ ⟨_, rfl, wQ.thrown (k := 1) hc hR (f_typeMany_th σ p0 p1 p2)⟩
      · rcases e with _ | e
        · cases Option.some.inj he
          refine VX.catch (pre := ⟨0, 12, 15, 13⟩ :: ⟨0, 12, 19, 15⟩ :: []) (x := ⟨0, 12, 23, 17⟩) (suf := []) h (hN.trans rfl) (fun z hz => by simp only [List.mem_cons, List.not_mem_nil, or_false] at hz; rcases hz with rfl | rfl <;> first | exact Or.inr ⟨by decide, _, C_L_13, by decide +kernel⟩ | exact Or.inr ⟨by decide, _, C_L_15, by decide +kernel⟩) (by decide) (by decide) C_L_17 (by decide +kernel) (fun q => ?_)
          refine r_astore h ([(5, .ref q), (0, .ref (G.1 0)), (1, .int p0), (2, .int p1), (3, .int p2), (4, .ref (G.1 47))]) dL_typeMany_23 (by decide) rfl ?_
          refine r_iconst h (v := nI 3) (by decide) dL_typeMany_25 ?_
          exact r_iret h hQ hr dL_typeMany_26 ⟨by decide, by decide⟩ ⟨_, rfl, wQ.thrown (k := 2) hc hR (f_typeMany_th σ p0 p1 p2)⟩
        · cases he
  · obtain ⟨r, rfl, hR0, hR1, hC, hK⟩ := p3
    have g4 := (hK 47 (by omega)).trans ho
    refine r_i2l h rfl dL_typeMany_10 ?_
    refine r_last h (i := 47) (by omega) g4 (x := 0) (by omega) (by decide) dL_typeMany_11 (fun c5 h6 k7 => ?_)
    refine r_goto h 27 dL_typeMany_12 (by decide) ?_
    refine r_iconst h (v := nI 0) (by decide) dL_typeMany_27 ?_
    exact r_iret h hQ hr dL_typeMany_28 ⟨by decide, by decide⟩ ⟨_, rfl, by rw [hR0], hC.mono (fun y hy => k7 y (by omega)), fun _ => ⟨_, h6, by rw [hR1]; exact upL_eq⟩, fun _ => ⟨_, h6⟩, fun z => z.elim (fun g hg => ⟨g, ((k7 48 (by omega)).trans (hK 48 (by omega))).trans hg⟩), fun y hy hy2 => (k7 y hy2).trans (hK y hy)⟩
theorem f_cut_th (σ : St) (p0 : Int32) : (f_cut σ p0).1 = 0 ∨ (f_cut σ p0).2.2 = σ := by
  unfold f_cut
  (repeat' split) <;> (try dsimp only) <;> (repeat' split) <;> first | exact Or.inl rfl | exact Or.inr rfl
set_option maxRecDepth 100000 in
set_option maxHeartbeats 4000000 in
/-- L_cut -/
theorem c_L_cut {G : GG} {l : Launch} {c : CC} (hG : InjG G) (hl0 : l.stackTraces = false) {σ : St} (hc : Cls G c σ) {fo : Nat → Int64} (ho : c 47 = .inl (G.2.2.2 1, 1, .inr (.inl fo))) (p0 : Int32) : MC G l yL_cut (.codeWith yL_cut cL_cut 4 (some .int) [(0, 9, 12, 13), (0, 9, 15, 27)] :: gws) (rmF 8 8 48 138) [.ref (G.1 0), .int p0, .ref (G.1 47)] c (pI (wQ G c (f_cut σ p0) (oI G) 47)) (pF) := by
  refine MC.ofH (by decide) hl0 hG (Nat.le_of_ble_eq_true rfl) (fun X hX h hN hQ hr => ?_)
  subst hX
  refine r_aload_n h 2 rfl rfl dL_cut_0 ?_
  refine r_iconst h (v := nI 0) (by decide) dL_cut_1 ?_
  refine r_aload_n h 0 rfl rfl dL_cut_2 ?_
  refine r_iload_n h 1 rfl rfl dL_cut_3 ?_
  refine r_cV h k_L_23 (i := 0) (As := [.int p0]) (rest := [.int (nI 0), .ref (G.1 47)]) (c_X3_cut h.i h.t hc p0) (by omega) hc.o rfl rfl rfl (Nat.le_of_ble_eq_true rfl) ⟨by decide, by decide, by decide, by decide⟩ dL_cut_4 (fun E hE => ?_) (fun v2 c1 p3 => ?_)
  · obtain ⟨e, he, hR⟩ := hE
    rcases e with _ | e
    · cases Option.some.inj he
      refine VX.catch (pre := []) (x := ⟨0, 9, 12, 13⟩) (suf := ⟨0, 9, 15, 27⟩ :: []) h (hN.trans rfl) (fun z hz => nomatch hz) (by decide) (by decide) C_L_13 (by decide +kernel) (fun q => ?_)
      refine r_astore_n h ([(3, .ref q), (0, .ref (G.1 0)), (1, .int p0), (2, .ref (G.1 47))]) rfl dL_cut_12 (by decide) rfl ?_
      refine r_iconst h (v := nI 1) (by decide) dL_cut_13 ?_
      exact r_iret h hQ hr dL_cut_14 ⟨by decide, by decide⟩ ⟨_, rfl, wQ.thrown (k := 0) hc hR (f_cut_th σ p0)⟩
    · rcases e with _ | e
      · cases Option.some.inj he
        refine VX.catch (pre := ⟨0, 9, 12, 13⟩ :: []) (x := ⟨0, 9, 15, 27⟩) (suf := []) h (hN.trans rfl) (fun z hz => by simp only [List.mem_cons, List.not_mem_nil, or_false] at hz; rcases hz with rfl <;> first | exact Or.inr ⟨by decide, _, C_L_13, by decide +kernel⟩) (by decide) (by decide) C_L_27 (by decide +kernel) (fun q => ?_)
        refine r_astore_n h ([(3, .ref q), (0, .ref (G.1 0)), (1, .int p0), (2, .ref (G.1 47))]) rfl dL_cut_15 (by decide) rfl ?_
        refine r_iconst h (v := nI 2) (by decide) dL_cut_16 ?_
        exact r_iret h hQ hr dL_cut_17 ⟨by decide, by decide⟩ ⟨_, rfl, wQ.thrown (k := 1) hc hR (f_cut_th σ p0)⟩
      · cases he
  · obtain ⟨r, rfl, hR0, hR1, hC, hK⟩ := p3
    have g4 := (hK 47 (by omega)).trans ho
    refine r_i2l h rfl dL_cut_7 ?_
    refine r_last h (i := 47) (by omega) g4 (x := 0) (by omega) (by decide) dL_cut_8 (fun c5 h6 k7 => ?_)
    refine r_goto h 18 dL_cut_9 (by decide) ?_
    refine r_iconst h (v := nI 0) (by decide) dL_cut_18 ?_
    exact r_iret h hQ hr dL_cut_19 ⟨by decide, by decide⟩ ⟨_, rfl, by rw [hR0], hC.mono (fun y hy => k7 y (by omega)), fun _ => ⟨_, h6, by rw [hR1]; exact upL_eq⟩, fun _ => ⟨_, h6⟩, fun z => z.elim (fun g hg => ⟨g, ((k7 48 (by omega)).trans (hK 48 (by omega))).trans hg⟩), fun y hy hy2 => (k7 y hy2).trans (hK y hy)⟩
theorem f_clear_th (σ : St) (p0 : Int32) : (f_clear σ p0).1 = 0 ∨ (f_clear σ p0).2.2 = σ := by
  unfold f_clear
  (repeat' split) <;> (try dsimp only) <;> (repeat' split) <;> first | exact Or.inl rfl | exact Or.inr rfl
set_option maxRecDepth 100000 in
set_option maxHeartbeats 4000000 in
/-- L_clear -/
theorem c_L_clear {G : GG} {l : Launch} {c : CC} (hG : InjG G) (hl0 : l.stackTraces = false) {σ : St} (hc : Cls G c σ) {fo : Nat → Int64} (ho : c 47 = .inl (G.2.2.2 1, 1, .inr (.inl fo))) (p0 : Int32) : MC G l yL_clear (.codeWith yL_clear cL_clear 4 (some .int) [(0, 9, 12, 13)] :: gws) (rmF 8 8 48 139) [.ref (G.1 0), .int p0, .ref (G.1 47)] c (pI (wQ G c (f_clear σ p0) (oI G) 47)) (pF) := by
  refine MC.ofH (by decide) hl0 hG (Nat.le_of_ble_eq_true rfl) (fun X hX h hN hQ hr => ?_)
  subst hX
  refine r_aload_n h 2 rfl rfl dL_clear_0 ?_
  refine r_iconst h (v := nI 0) (by decide) dL_clear_1 ?_
  refine r_aload_n h 0 rfl rfl dL_clear_2 ?_
  refine r_iload_n h 1 rfl rfl dL_clear_3 ?_
  refine r_cV h k_L_29 (i := 0) (As := [.int p0]) (rest := [.int (nI 0), .ref (G.1 47)]) (c_X3_clear h.i h.t hc p0) (by omega) hc.o rfl rfl rfl (Nat.le_of_ble_eq_true rfl) ⟨by decide, by decide, by decide, by decide⟩ dL_clear_4 (fun E hE => ?_) (fun v2 c1 p3 => ?_)
  · obtain ⟨e, he, hR⟩ := hE
    rcases e with _ | e
    · cases Option.some.inj he
      refine VX.catch (pre := []) (x := ⟨0, 9, 12, 13⟩) (suf := []) h (hN.trans rfl) (fun z hz => nomatch hz) (by decide) (by decide) C_L_13 (by decide +kernel) (fun q => ?_)
      refine r_astore_n h ([(3, .ref q), (0, .ref (G.1 0)), (1, .int p0), (2, .ref (G.1 47))]) rfl dL_clear_12 (by decide) rfl ?_
      refine r_iconst h (v := nI 1) (by decide) dL_clear_13 ?_
      exact r_iret h hQ hr dL_clear_14 ⟨by decide, by decide⟩ ⟨_, rfl, wQ.thrown (k := 0) hc hR (f_clear_th σ p0)⟩
    · cases he
  · obtain ⟨r, rfl, hR0, hR1, hC, hK⟩ := p3
    have g4 := (hK 47 (by omega)).trans ho
    refine r_i2l h rfl dL_clear_7 ?_
    refine r_last h (i := 47) (by omega) g4 (x := 0) (by omega) (by decide) dL_clear_8 (fun c5 h6 k7 => ?_)
    refine r_goto h 15 dL_clear_9 (by decide) ?_
    refine r_iconst h (v := nI 0) (by decide) dL_clear_15 ?_
    exact r_iret h hQ hr dL_clear_16 ⟨by decide, by decide⟩ ⟨_, rfl, by rw [hR0], hC.mono (fun y hy => k7 y (by omega)), fun _ => ⟨_, h6, by rw [hR1]; exact upL_eq⟩, fun _ => ⟨_, h6⟩, fun z => z.elim (fun g hg => ⟨g, ((k7 48 (by omega)).trans (hK 48 (by omega))).trans hg⟩), fun y hy hy2 => (k7 y hy2).trans (hK y hy)⟩
theorem f_length_th (σ : St) (p0 : Int32) : (f_length σ p0).1 = 0 ∨ (f_length σ p0).2.2 = σ := by
  unfold f_length
  (repeat' split) <;> (try dsimp only) <;> (repeat' split) <;> first | exact Or.inl rfl | exact Or.inr rfl
set_option maxRecDepth 100000 in
set_option maxHeartbeats 4000000 in
/-- L_length -/
theorem c_L_length {G : GG} {l : Launch} {c : CC} (hG : InjG G) (hl0 : l.stackTraces = false) {σ : St} (hc : Cls G c σ) {fo : Nat → Int64} (ho : c 47 = .inl (G.2.2.2 1, 1, .inr (.inl fo))) (p0 : Int32) : MC G l yL_length (.codeWith yL_length cL_length 4 (some .int) [(0, 9, 12, 13)] :: gws) (rmF 8 8 48 137) [.ref (G.1 0), .int p0, .ref (G.1 47)] c (pI (wQ G c (f_length σ p0) (oI G) 47)) (pF) := by
  refine MC.ofH (by decide) hl0 hG (Nat.le_of_ble_eq_true rfl) (fun X hX h hN hQ hr => ?_)
  subst hX
  refine r_aload_n h 2 rfl rfl dL_length_0 ?_
  refine r_iconst h (v := nI 0) (by decide) dL_length_1 ?_
  refine r_aload_n h 0 rfl rfl dL_length_2 ?_
  refine r_iload_n h 1 rfl rfl dL_length_3 ?_
  refine r_cV h k_L_32 (i := 0) (As := [.int p0]) (rest := [.int (nI 0), .ref (G.1 47)]) (c_X3_length h.i h.t hc p0) (by omega) hc.o rfl rfl rfl (Nat.le_of_ble_eq_true rfl) ⟨by decide, by decide, by decide, by decide⟩ dL_length_4 (fun E hE => ?_) (fun v2 c1 p3 => ?_)
  · obtain ⟨e, he, hR⟩ := hE
    rcases e with _ | e
    · cases Option.some.inj he
      refine VX.catch (pre := []) (x := ⟨0, 9, 12, 13⟩) (suf := []) h (hN.trans rfl) (fun z hz => nomatch hz) (by decide) (by decide) C_L_13 (by decide +kernel) (fun q => ?_)
      refine r_astore_n h ([(3, .ref q), (0, .ref (G.1 0)), (1, .int p0), (2, .ref (G.1 47))]) rfl dL_length_12 (by decide) rfl ?_
      refine r_iconst h (v := nI 1) (by decide) dL_length_13 ?_
      exact r_iret h hQ hr dL_length_14 ⟨by decide, by decide⟩ ⟨_, rfl, wQ.thrown (k := 0) hc hR (f_length_th σ p0)⟩
    · cases he
  · obtain ⟨r, rfl, hR0, hR1, hC, hK⟩ := p3
    have g4 := (hK 47 (by omega)).trans ho
    refine r_i2l h rfl dL_length_7 ?_
    refine r_last h (i := 47) (by omega) g4 (x := 0) (by omega) (by decide) dL_length_8 (fun c5 h6 k7 => ?_)
    refine r_goto h 15 dL_length_9 (by decide) ?_
    refine r_iconst h (v := nI 0) (by decide) dL_length_15 ?_
    exact r_iret h hQ hr dL_length_16 ⟨by decide, by decide⟩ ⟨_, rfl, by rw [hR0], hC.mono (fun y hy => k7 y (by omega)), fun _ => ⟨_, h6, by rw [hR1]; exact upL_eq⟩, fun _ => ⟨_, h6⟩, fun z => z.elim (fun g hg => ⟨g, ((k7 48 (by omega)).trans (hK 48 (by omega))).trans hg⟩), fun y hy hy2 => (k7 y hy2).trans (hK y hy)⟩
theorem f_byteAt_th (σ : St) (p0 p1 : Int32) : (f_byteAt σ p0 p1).1 = 0 ∨ (f_byteAt σ p0 p1).2.2 = σ := by
  unfold f_byteAt
  (repeat' split) <;> (try dsimp only) <;> (repeat' split) <;> first | exact Or.inl rfl | exact Or.inr rfl
set_option maxRecDepth 100000 in
set_option maxHeartbeats 4000000 in
/-- L_byteAt -/
theorem c_L_byteAt {G : GG} {l : Launch} {c : CC} (hG : InjG G) (hl0 : l.stackTraces = false) {σ : St} (hc : Cls G c σ) {fo : Nat → Int64} (ho : c 47 = .inl (G.2.2.2 1, 1, .inr (.inl fo))) (p0 p1 : Int32) : MC G l yL_byteAt (.codeWith yL_byteAt cL_byteAt 5 (some .int) [(0, 10, 13, 13)] :: gws) (rmF 8 8 48 139) [.ref (G.1 0), .int p0, .int p1, .ref (G.1 47)] c (pI (wQ G c (f_byteAt σ p0 p1) (oI G) 47)) (pF) := by
  refine MC.ofH (by decide) hl0 hG (Nat.le_of_ble_eq_true rfl) (fun X hX h hN hQ hr => ?_)
  subst hX
  refine r_aload_n h 3 rfl rfl dL_byteAt_0 ?_
  refine r_iconst h (v := nI 0) (by decide) dL_byteAt_1 ?_
  refine r_aload_n h 0 rfl rfl dL_byteAt_2 ?_
  refine r_iload_n h 1 rfl rfl dL_byteAt_3 ?_
  refine r_iload_n h 2 rfl rfl dL_byteAt_4 ?_
  refine r_cV h k_L_35 (i := 0) (As := [.int p0, .int p1]) (rest := [.int (nI 0), .ref (G.1 47)]) (c_X3_byteAt h.i h.t hc p0 p1) (by omega) hc.o rfl rfl rfl (Nat.le_of_ble_eq_true rfl) ⟨by decide, by decide, by decide, by decide⟩ dL_byteAt_5 (fun E hE => ?_) (fun v2 c1 p3 => ?_)
  · obtain ⟨e, he, hR⟩ := hE
    rcases e with _ | e
    · cases Option.some.inj he
      refine VX.catch (pre := []) (x := ⟨0, 10, 13, 13⟩) (suf := []) h (hN.trans rfl) (fun z hz => nomatch hz) (by decide) (by decide) C_L_13 (by decide +kernel) (fun q => ?_)
      refine r_astore h ([(4, .ref q), (0, .ref (G.1 0)), (1, .int p0), (2, .int p1), (3, .ref (G.1 47))]) dL_byteAt_13 (by decide) rfl ?_
      refine r_iconst h (v := nI 1) (by decide) dL_byteAt_15 ?_
      exact r_iret h hQ hr dL_byteAt_16 ⟨by decide, by decide⟩ ⟨_, rfl, wQ.thrown (k := 0) hc hR (f_byteAt_th σ p0 p1)⟩
    · cases he
  · obtain ⟨r, rfl, hR0, hR1, hC, hK⟩ := p3
    have g4 := (hK 47 (by omega)).trans ho
    refine r_i2l h rfl dL_byteAt_8 ?_
    refine r_last h (i := 47) (by omega) g4 (x := 0) (by omega) (by decide) dL_byteAt_9 (fun c5 h6 k7 => ?_)
    refine r_goto h 17 dL_byteAt_10 (by decide) ?_
    refine r_iconst h (v := nI 0) (by decide) dL_byteAt_17 ?_
    exact r_iret h hQ hr dL_byteAt_18 ⟨by decide, by decide⟩ ⟨_, rfl, by rw [hR0], hC.mono (fun y hy => k7 y (by omega)), fun _ => ⟨_, h6, by rw [hR1]; exact upL_eq⟩, fun _ => ⟨_, h6⟩, fun z => z.elim (fun g hg => ⟨g, ((k7 48 (by omega)).trans (hK 48 (by omega))).trans hg⟩), fun y hy hy2 => (k7 y hy2).trans (hK y hy)⟩
theorem f_ends_th (σ : St) (p0 : Int32) : (f_ends σ p0).1 = 0 ∨ (f_ends σ p0).2.2 = σ := by
  unfold f_ends
  (repeat' split) <;> (try dsimp only) <;> (repeat' split) <;> first | exact Or.inl rfl | exact Or.inr rfl
set_option maxRecDepth 100000 in
set_option maxHeartbeats 4000000 in
/-- L_ends -/
theorem c_L_ends {G : GG} {l : Launch} {c : CC} (hG : InjG G) (hl0 : l.stackTraces = false) {σ : St} (hc : Cls G c σ) {fo : Nat → Int64} (ho : c 47 = .inl (G.2.2.2 1, 1, .inr (.inl fo))) (p0 : Int32) : MC G l yL_ends (.codeWith yL_ends cL_ends 4 (some .int) [(0, 9, 12, 13)] :: gws) (rmF 8 8 48 137) [.ref (G.1 0), .int p0, .ref (G.1 47)] c (pI (wQ G c (f_ends σ p0) (oI G) 47)) (pF) := by
  refine MC.ofH (by decide) hl0 hG (Nat.le_of_ble_eq_true rfl) (fun X hX h hN hQ hr => ?_)
  subst hX
  refine r_aload_n h 2 rfl rfl dL_ends_0 ?_
  refine r_iconst h (v := nI 0) (by decide) dL_ends_1 ?_
  refine r_aload_n h 0 rfl rfl dL_ends_2 ?_
  refine r_iload_n h 1 rfl rfl dL_ends_3 ?_
  refine r_cV h k_L_38 (i := 0) (As := [.int p0]) (rest := [.int (nI 0), .ref (G.1 47)]) (c_X3_ends h.i h.t hc p0) (by omega) hc.o rfl rfl rfl (Nat.le_of_ble_eq_true rfl) ⟨by decide, by decide, by decide, by decide⟩ dL_ends_4 (fun E hE => ?_) (fun v2 c1 p3 => ?_)
  · obtain ⟨e, he, hR⟩ := hE
    rcases e with _ | e
    · cases Option.some.inj he
      refine VX.catch (pre := []) (x := ⟨0, 9, 12, 13⟩) (suf := []) h (hN.trans rfl) (fun z hz => nomatch hz) (by decide) (by decide) C_L_13 (by decide +kernel) (fun q => ?_)
      refine r_astore_n h ([(3, .ref q), (0, .ref (G.1 0)), (1, .int p0), (2, .ref (G.1 47))]) rfl dL_ends_12 (by decide) rfl ?_
      refine r_iconst h (v := nI 1) (by decide) dL_ends_13 ?_
      exact r_iret h hQ hr dL_ends_14 ⟨by decide, by decide⟩ ⟨_, rfl, wQ.thrown (k := 0) hc hR (f_ends_th σ p0)⟩
    · cases he
  · obtain ⟨r, rfl, hR0, hR1, hC, hK⟩ := p3
    have g4 := (hK 47 (by omega)).trans ho
    refine r_i2l h rfl dL_ends_7 ?_
    refine r_last h (i := 47) (by omega) g4 (x := 0) (by omega) (by decide) dL_ends_8 (fun c5 h6 k7 => ?_)
    refine r_goto h 15 dL_ends_9 (by decide) ?_
    refine r_iconst h (v := nI 0) (by decide) dL_ends_15 ?_
    exact r_iret h hQ hr dL_ends_16 ⟨by decide, by decide⟩ ⟨_, rfl, by rw [hR0], hC.mono (fun y hy => k7 y (by omega)), fun _ => ⟨_, h6, by rw [hR1]; exact upL_eq⟩, fun _ => ⟨_, h6⟩, fun z => z.elim (fun g hg => ⟨g, ((k7 48 (by omega)).trans (hK 48 (by omega))).trans hg⟩), fun y hy hy2 => (k7 y hy2).trans (hK y hy)⟩
theorem f_open_th (σ : St) (p0 p1 p2 p3 : Int32) : (f_open σ p0 p1 p2 p3).1 = 0 ∨ (f_open σ p0 p1 p2 p3).2.2 = σ := by
  unfold f_open
  (repeat' split) <;> (try dsimp only) <;> (repeat' split) <;> first | exact Or.inl rfl | exact Or.inr rfl
set_option maxRecDepth 100000 in
set_option maxHeartbeats 4000000 in
/-- L_open -/
theorem c_L_open {G : GG} {l : Launch} {c : CC} (hG : InjG G) (hl0 : l.stackTraces = false) {σ : St} (hc : Cls G c σ) {fo : Nat → Int64} (ho : c 47 = .inl (G.2.2.2 1, 1, .inr (.inl fo))) (p0 p1 p2 p3 : Int32) : MC G l yL_open (.codeWith yL_open cL_open 7 (some .int) [(0, 14, 17, 13), (0, 14, 21, 15)] :: gws) (rmF 8 8 48 144) [.ref (G.1 0), .int p0, .int p1, .int p2, .int p3, .ref (G.1 47)] c (pI (wQ G c (f_open σ p0 p1 p2 p3) (oI G) 47)) (pF) := by
  refine MC.ofH (by decide) hl0 hG (Nat.le_of_ble_eq_true rfl) (fun X hX h hN hQ hr => ?_)
  subst hX
  refine r_aload h 5 rfl dL_open_0 ?_
  refine r_iconst h (v := nI 0) (by decide) dL_open_2 ?_
  refine r_aload_n h 0 rfl rfl dL_open_3 ?_
  refine r_iload_n h 1 rfl rfl dL_open_4 ?_
  refine r_iload_n h 2 rfl rfl dL_open_5 ?_
  refine r_iload_n h 3 rfl rfl dL_open_6 ?_
  refine r_iload h 4 rfl dL_open_7 ?_
  refine r_cV h k_L_41 (i := 0) (As := [.int p0, .int p1, .int p2, .int p3]) (rest := [.int (nI 0), .ref (G.1 47)]) (c_X3_open h.i h.t hc p0 p1 p2 p3) (by omega) hc.o rfl rfl rfl (Nat.le_of_ble_eq_true rfl) ⟨by decide, by decide, by decide, by decide⟩ dL_open_9 (fun E hE => ?_) (fun v2 c1 p3 => ?_)
  · obtain ⟨e, he, hR⟩ := hE
    rcases e with _ | e
    · cases Option.some.inj he
      refine VX.catch (pre := []) (x := ⟨0, 14, 17, 13⟩) (suf := ⟨0, 14, 21, 15⟩ :: []) h (hN.trans rfl) (fun z hz => nomatch hz) (by decide) (by decide) C_L_13 (by decide +kernel) (fun q => ?_)
      refine r_astore h ([(6, .ref q), (0, .ref (G.1 0)), (1, .int p0), (2, .int p1), (3, .int p2), (4, .int p3), (5, .ref (G.1 47))]) dL_open_17 (by decide) rfl ?_
      refine r_iconst h (v := nI 1) (by decide) dL_open_19 ?_
      exact r_iret h hQ hr dL_open_20 ⟨by decide, by decide⟩ ⟨_, rfl, wQ.thrown (k := 0) hc hR (f_open_th σ p0 p1 p2 p3)⟩
    · rcases e with _ | e
      · cases Option.some.inj he
        refine VX.catch (pre := ⟨0, 14, 17, 13⟩ :: []) (x := ⟨0, 14, 21, 15⟩) (suf := []) h (hN.trans rfl) (fun z hz => by simp only [List.mem_cons, List.not_mem_nil, or_false] at hz; rcases hz with rfl <;> first | exact Or.inr ⟨by decide, _, C_L_13, by decide +kernel⟩) (by decide) (by decide) C_L_15 (by decide +kernel) (fun q => ?_)
        refine r_astore h ([(6, .ref q), (0, .ref (G.1 0)), (1, .int p0), (2, .int p1), (3, .int p2), (4, .int p3), (5, .ref (G.1 47))]) dL_open_21 (by decide) rfl ?_
        refine r_iconst h (v := nI 2) (by decide) dL_open_23 ?_
        exact r_iret h hQ hr dL_open_24 ⟨by decide, by decide⟩ ⟨_, rfl, wQ.thrown (k := 1) hc hR (f_open_th σ p0 p1 p2 p3)⟩
      · cases he
  · obtain ⟨r, rfl, hR0, hR1, hC, hK⟩ := p3
    have g4 := (hK 47 (by omega)).trans ho
    refine r_i2l h rfl dL_open_12 ?_
    refine r_last h (i := 47) (by omega) g4 (x := 0) (by omega) (by decide) dL_open_13 (fun c5 h6 k7 => ?_)
    refine r_goto h 25 dL_open_14 (by decide) ?_
    refine r_iconst h (v := nI 0) (by decide) dL_open_25 ?_
    exact r_iret h hQ hr dL_open_26 ⟨by decide, by decide⟩ ⟨_, rfl, by rw [hR0], hC.mono (fun y hy => k7 y (by omega)), fun _ => ⟨_, h6, by rw [hR1]; exact upL_eq⟩, fun _ => ⟨_, h6⟩, fun z => z.elim (fun g hg => ⟨g, ((k7 48 (by omega)).trans (hK 48 (by omega))).trans hg⟩), fun y hy hy2 => (k7 y hy2).trans (hK y hy)⟩
theorem f_kind_th (σ : St) (p0 : Int32) : (f_kind σ p0).1 = 0 ∨ (f_kind σ p0).2.2 = σ := by
  unfold f_kind
  (repeat' split) <;> (try dsimp only) <;> (repeat' split) <;> first | exact Or.inl rfl | exact Or.inr rfl
set_option maxRecDepth 100000 in
set_option maxHeartbeats 4000000 in
/-- L_kind -/
theorem c_L_kind {G : GG} {l : Launch} {c : CC} (hG : InjG G) (hl0 : l.stackTraces = false) {σ : St} (hc : Cls G c σ) {fo : Nat → Int64} (ho : c 47 = .inl (G.2.2.2 1, 1, .inr (.inl fo))) (p0 : Int32) : MC G l yL_kind (.codeWith yL_kind cL_kind 4 (some .int) [(0, 9, 12, 13)] :: gws) (rmF 8 8 48 137) [.ref (G.1 0), .int p0, .ref (G.1 47)] c (pI (wQ G c (f_kind σ p0) (oI G) 47)) (pF) := by
  refine MC.ofH (by decide) hl0 hG (Nat.le_of_ble_eq_true rfl) (fun X hX h hN hQ hr => ?_)
  subst hX
  refine r_aload_n h 2 rfl rfl dL_kind_0 ?_
  refine r_iconst h (v := nI 0) (by decide) dL_kind_1 ?_
  refine r_aload_n h 0 rfl rfl dL_kind_2 ?_
  refine r_iload_n h 1 rfl rfl dL_kind_3 ?_
  refine r_cV h k_L_45 (i := 0) (As := [.int p0]) (rest := [.int (nI 0), .ref (G.1 47)]) (c_X3_kind h.i h.t hc p0) (by omega) hc.o rfl rfl rfl (Nat.le_of_ble_eq_true rfl) ⟨by decide, by decide, by decide, by decide⟩ dL_kind_4 (fun E hE => ?_) (fun v2 c1 p3 => ?_)
  · obtain ⟨e, he, hR⟩ := hE
    rcases e with _ | e
    · cases Option.some.inj he
      refine VX.catch (pre := []) (x := ⟨0, 9, 12, 13⟩) (suf := []) h (hN.trans rfl) (fun z hz => nomatch hz) (by decide) (by decide) C_L_13 (by decide +kernel) (fun q => ?_)
      refine r_astore_n h ([(3, .ref q), (0, .ref (G.1 0)), (1, .int p0), (2, .ref (G.1 47))]) rfl dL_kind_12 (by decide) rfl ?_
      refine r_iconst h (v := nI 1) (by decide) dL_kind_13 ?_
      exact r_iret h hQ hr dL_kind_14 ⟨by decide, by decide⟩ ⟨_, rfl, wQ.thrown (k := 0) hc hR (f_kind_th σ p0)⟩
    · cases he
  · obtain ⟨r, rfl, hR0, hR1, hC, hK⟩ := p3
    have g4 := (hK 47 (by omega)).trans ho
    refine r_i2l h rfl dL_kind_7 ?_
    refine r_last h (i := 47) (by omega) g4 (x := 0) (by omega) (by decide) dL_kind_8 (fun c5 h6 k7 => ?_)
    refine r_goto h 15 dL_kind_9 (by decide) ?_
    refine r_iconst h (v := nI 0) (by decide) dL_kind_15 ?_
    exact r_iret h hQ hr dL_kind_16 ⟨by decide, by decide⟩ ⟨_, rfl, by rw [hR0], hC.mono (fun y hy => k7 y (by omega)), fun _ => ⟨_, h6, by rw [hR1]; exact upL_eq⟩, fun _ => ⟨_, h6⟩, fun z => z.elim (fun g hg => ⟨g, ((k7 48 (by omega)).trans (hK 48 (by omega))).trans hg⟩), fun y hy hy2 => (k7 y hy2).trans (hK y hy)⟩
theorem f_read_th (σ : St) (p0 : Int32) : (f_read σ p0).1 = 0 ∨ (f_read σ p0).2.2 = σ := by
  unfold f_read opn
  (repeat' split) <;> (try dsimp only) <;> (repeat' split) <;> first | exact Or.inl rfl | exact Or.inr rfl
set_option maxRecDepth 100000 in
set_option maxHeartbeats 4000000 in
/-- L_read -/
theorem c_L_read {G : GG} {l : Launch} {c : CC} (hG : InjG G) (hl0 : l.stackTraces = false) {σ : St} (hc : Cls G c σ) {fo : Nat → Int64} (ho : c 47 = .inl (G.2.2.2 1, 1, .inr (.inl fo))) (p0 : Int32) : MC G l yL_read (.codeWith yL_read cL_read 4 (some .int) [(0, 9, 12, 13), (0, 9, 15, 51)] :: gws) (rmF 9 8 48 159) [.ref (G.1 0), .int p0, .ref (G.1 47)] c (pI (wQ G c (f_read σ p0) (oI G) 47)) (pF) := by
  refine MC.ofH (by decide) hl0 hG (Nat.le_of_ble_eq_true rfl) (fun X hX h hN hQ hr => ?_)
  subst hX
  refine r_aload_n h 2 rfl rfl dL_read_0 ?_
  refine r_iconst h (v := nI 0) (by decide) dL_read_1 ?_
  refine r_aload_n h 0 rfl rfl dL_read_2 ?_
  refine r_iload_n h 1 rfl rfl dL_read_3 ?_
  refine r_cV h k_L_48 (i := 0) (As := [.int p0]) (rest := [.int (nI 0), .ref (G.1 47)]) (c_X3_read h.i h.t hc p0) (by omega) hc.o rfl rfl rfl (Nat.le_of_ble_eq_true rfl) ⟨by decide, by decide, by decide, by decide⟩ dL_read_4 (fun E hE => ?_) (fun v2 c1 p3 => ?_)
  · obtain ⟨e, he, hR⟩ := hE
    rcases e with _ | e
    · cases Option.some.inj he
      refine VX.catch (pre := []) (x := ⟨0, 9, 12, 13⟩) (suf := ⟨0, 9, 15, 51⟩ :: []) h (hN.trans rfl) (fun z hz => nomatch hz) (by decide) (by decide) C_L_13 (by decide +kernel) (fun q => ?_)
      refine r_astore_n h ([(3, .ref q), (0, .ref (G.1 0)), (1, .int p0), (2, .ref (G.1 47))]) rfl dL_read_12 (by decide) rfl ?_
      refine r_iconst h (v := nI 1) (by decide) dL_read_13 ?_
      exact r_iret h hQ hr dL_read_14 ⟨by decide, by decide⟩ ⟨_, rfl, wQ.thrown (k := 0) hc hR (f_read_th σ p0)⟩
    · rcases e with _ | e
      · cases Option.some.inj he
        refine VX.catch (pre := ⟨0, 9, 12, 13⟩ :: []) (x := ⟨0, 9, 15, 51⟩) (suf := []) h (hN.trans rfl) (fun z hz => by simp only [List.mem_cons, List.not_mem_nil, or_false] at hz; rcases hz with rfl <;> first | exact Or.inr ⟨by decide, _, C_L_13, by decide +kernel⟩) (by decide) (by decide) C_L_51 (by decide +kernel) (fun q => ?_)
        refine r_astore_n h ([(3, .ref q), (0, .ref (G.1 0)), (1, .int p0), (2, .ref (G.1 47))]) rfl dL_read_15 (by decide) rfl ?_
        refine r_iconst h (v := nI 2) (by decide) dL_read_16 ?_
        exact r_iret h hQ hr dL_read_17 ⟨by decide, by decide⟩ ⟨_, rfl, wQ.thrown (k := 1) hc hR (f_read_th σ p0)⟩
      · cases he
  · obtain ⟨r, rfl, hR0, hR1, hC, hK⟩ := p3
    have g4 := (hK 47 (by omega)).trans ho
    refine r_i2l h rfl dL_read_7 ?_
    refine r_last h (i := 47) (by omega) g4 (x := 0) (by omega) (by decide) dL_read_8 (fun c5 h6 k7 => ?_)
    refine r_goto h 18 dL_read_9 (by decide) ?_
    refine r_iconst h (v := nI 0) (by decide) dL_read_18 ?_
    exact r_iret h hQ hr dL_read_19 ⟨by decide, by decide⟩ ⟨_, rfl, by rw [hR0], hC.mono (fun y hy => k7 y (by omega)), fun _ => ⟨_, h6, by rw [hR1]; exact upL_eq⟩, fun _ => ⟨_, h6⟩, fun z => z.elim (fun g hg => ⟨g, ((k7 48 (by omega)).trans (hK 48 (by omega))).trans hg⟩), fun y hy hy2 => (k7 y hy2).trans (hK y hy)⟩
theorem f_readPart_th (σ : St) (p0 p1 : Int32) : (f_readPart σ p0 p1).1 = 0 ∨ (f_readPart σ p0 p1).2.2 = σ := by
  unfold f_readPart opn
  (repeat' split) <;> (try dsimp only) <;> (repeat' split) <;> first | exact Or.inl rfl | exact Or.inr rfl
set_option maxRecDepth 100000 in
set_option maxHeartbeats 4000000 in
/-- L_readPart -/
theorem c_L_readPart {G : GG} {l : Launch} {c : CC} (hG : InjG G) (hl0 : l.stackTraces = false) {σ : St} (hc : Cls G c σ) {fo : Nat → Int64} (ho : c 47 = .inl (G.2.2.2 1, 1, .inr (.inl fo))) (p0 p1 : Int32) : MC G l yL_readPart (.codeWith yL_readPart cL_readPart 5 (some .int) [(0, 10, 13, 13), (0, 10, 17, 15), (0, 10, 21, 51)] :: gws) (rmF 8 8 48 140) [.ref (G.1 0), .int p0, .int p1, .ref (G.1 47)] c (pI (wQ G c (f_readPart σ p0 p1) (oI G) 47)) (pF) := by
  refine MC.ofH (by decide) hl0 hG (Nat.le_of_ble_eq_true rfl) (fun X hX h hN hQ hr => ?_)
  subst hX
  refine r_aload_n h 3 rfl rfl dL_readPart_0 ?_
  refine r_iconst h (v := nI 0) (by decide) dL_readPart_1 ?_
  refine r_aload_n h 0 rfl rfl dL_readPart_2 ?_
  refine r_iload_n h 1 rfl rfl dL_readPart_3 ?_
  refine r_iload_n h 2 rfl rfl dL_readPart_4 ?_
  refine r_cV h k_L_53 (i := 0) (As := [.int p0, .int p1]) (rest := [.int (nI 0), .ref (G.1 47)]) (c_X3_readPart h.i h.t hc p0 p1) (by omega) hc.o rfl rfl rfl (Nat.le_of_ble_eq_true rfl) ⟨by decide, by decide, by decide, by decide⟩ dL_readPart_5 (fun E hE => ?_) (fun v2 c1 p3 => ?_)
  · obtain ⟨e, he, hR⟩ := hE
    rcases e with _ | e
    · cases Option.some.inj he
      refine VX.catch (pre := []) (x := ⟨0, 10, 13, 13⟩) (suf := ⟨0, 10, 17, 15⟩ :: ⟨0, 10, 21, 51⟩ :: []) h (hN.trans rfl) (fun z hz => nomatch hz) (by decide) (by decide) C_L_13 (by decide +kernel) (fun q => ?_)
      refine r_astore h ([(4, .ref q), (0, .ref (G.1 0)), (1, .int p0), (2, .int p1), (3, .ref (G.1 47))]) dL_readPart_13 (by decide) rfl ?_
      refine r_iconst h (v := nI 1) (by decide) dL_readPart_15 ?_
      exact r_iret h hQ hr dL_readPart_16 ⟨by decide, by decide⟩ ⟨_, rfl, wQ.thrown (k := 0) hc hR (f_readPart_th σ p0 p1)⟩
    · rcases e with _ | e
      · cases Option.some.inj he
        refine VX.catch (pre := ⟨0, 10, 13, 13⟩ :: []) (x := ⟨0, 10, 17, 15⟩) (suf := ⟨0, 10, 21, 51⟩ :: []) h (hN.trans rfl) (fun z hz => by simp only [List.mem_cons, List.not_mem_nil, or_false] at hz; rcases hz with rfl <;> first | exact Or.inr ⟨by decide, _, C_L_13, by decide +kernel⟩) (by decide) (by decide) C_L_15 (by decide +kernel) (fun q => ?_)
        refine r_astore h ([(4, .ref q), (0, .ref (G.1 0)), (1, .int p0), (2, .int p1), (3, .ref (G.1 47))]) dL_readPart_17 (by decide) rfl ?_
        refine r_iconst h (v := nI 2) (by decide) dL_readPart_19 ?_
        exact r_iret h hQ hr dL_readPart_20 ⟨by decide, by decide⟩ ⟨_, rfl, wQ.thrown (k := 1) hc hR (f_readPart_th σ p0 p1)⟩
      · rcases e with _ | e
        · cases Option.some.inj he
          refine VX.catch (pre := ⟨0, 10, 13, 13⟩ :: ⟨0, 10, 17, 15⟩ :: []) (x := ⟨0, 10, 21, 51⟩) (suf := []) h (hN.trans rfl) (fun z hz => by simp only [List.mem_cons, List.not_mem_nil, or_false] at hz; rcases hz with rfl | rfl <;> first | exact Or.inr ⟨by decide, _, C_L_13, by decide +kernel⟩ | exact Or.inr ⟨by decide, _, C_L_15, by decide +kernel⟩) (by decide) (by decide) C_L_51 (by decide +kernel) (fun q => ?_)
          refine r_astore h ([(4, .ref q), (0, .ref (G.1 0)), (1, .int p0), (2, .int p1), (3, .ref (G.1 47))]) dL_readPart_21 (by decide) rfl ?_
          refine r_iconst h (v := nI 3) (by decide) dL_readPart_23 ?_
          exact r_iret h hQ hr dL_readPart_24 ⟨by decide, by decide⟩ ⟨_, rfl, wQ.thrown (k := 2) hc hR (f_readPart_th σ p0 p1)⟩
        · cases he
  · obtain ⟨r, rfl, hR0, hR1, hC, hK⟩ := p3
    have g4 := (hK 47 (by omega)).trans ho
    refine r_i2l h rfl dL_readPart_8 ?_
    refine r_last h (i := 47) (by omega) g4 (x := 0) (by omega) (by decide) dL_readPart_9 (fun c5 h6 k7 => ?_)
    refine r_goto h 25 dL_readPart_10 (by decide) ?_
    refine r_iconst h (v := nI 0) (by decide) dL_readPart_25 ?_
    exact r_iret h hQ hr dL_readPart_26 ⟨by decide, by decide⟩ ⟨_, rfl, by rw [hR0], hC.mono (fun y hy => k7 y (by omega)), fun _ => ⟨_, h6, by rw [hR1]; exact upL_eq⟩, fun _ => ⟨_, h6⟩, fun z => z.elim (fun g hg => ⟨g, ((k7 48 (by omega)).trans (hK 48 (by omega))).trans hg⟩), fun y hy hy2 => (k7 y hy2).trans (hK y hy)⟩
theorem f_partAt_th (σ : St) (p0 : Int32) : (f_partAt σ p0).1 = 0 ∨ (f_partAt σ p0).2.2 = σ := by
  unfold f_partAt
  (repeat' split) <;> (try dsimp only) <;> (repeat' split) <;> first | exact Or.inl rfl | exact Or.inr rfl
set_option maxRecDepth 100000 in
set_option maxHeartbeats 4000000 in
/-- L_partAt -/
theorem c_L_partAt {G : GG} {l : Launch} {c : CC} (hG : InjG G) (hl0 : l.stackTraces = false) {σ : St} (hc : Cls G c σ) {fo : Nat → Int64} (ho : c 47 = .inl (G.2.2.2 1, 1, .inr (.inl fo))) (p0 : Int32) : MC G l yL_partAt (.codeWith yL_partAt cL_partAt 4 (some .int) [(0, 9, 12, 13)] :: gws) (rmF 8 8 48 137) [.ref (G.1 0), .int p0, .ref (G.1 47)] c (pI (wQ G c (f_partAt σ p0) (oI G) 47)) (pF) := by
  refine MC.ofH (by decide) hl0 hG (Nat.le_of_ble_eq_true rfl) (fun X hX h hN hQ hr => ?_)
  subst hX
  refine r_aload_n h 2 rfl rfl dL_partAt_0 ?_
  refine r_iconst h (v := nI 0) (by decide) dL_partAt_1 ?_
  refine r_aload_n h 0 rfl rfl dL_partAt_2 ?_
  refine r_iload_n h 1 rfl rfl dL_partAt_3 ?_
  refine r_cV h k_L_56 (i := 0) (As := [.int p0]) (rest := [.int (nI 0), .ref (G.1 47)]) (c_X3_partAt h.i h.t hc p0) (by omega) hc.o rfl rfl rfl (Nat.le_of_ble_eq_true rfl) ⟨by decide, by decide, by decide, by decide⟩ dL_partAt_4 (fun E hE => ?_) (fun v2 c1 p3 => ?_)
  · obtain ⟨e, he, hR⟩ := hE
    rcases e with _ | e
    · cases Option.some.inj he
      refine VX.catch (pre := []) (x := ⟨0, 9, 12, 13⟩) (suf := []) h (hN.trans rfl) (fun z hz => nomatch hz) (by decide) (by decide) C_L_13 (by decide +kernel) (fun q => ?_)
      refine r_astore_n h ([(3, .ref q), (0, .ref (G.1 0)), (1, .int p0), (2, .ref (G.1 47))]) rfl dL_partAt_12 (by decide) rfl ?_
      refine r_iconst h (v := nI 1) (by decide) dL_partAt_13 ?_
      exact r_iret h hQ hr dL_partAt_14 ⟨by decide, by decide⟩ ⟨_, rfl, wQ.thrown (k := 0) hc hR (f_partAt_th σ p0)⟩
    · cases he
  · obtain ⟨r, rfl, hR0, hR1, hC, hK⟩ := p3
    have g4 := (hK 47 (by omega)).trans ho
    refine r_i2l h rfl dL_partAt_7 ?_
    refine r_last h (i := 47) (by omega) g4 (x := 0) (by omega) (by decide) dL_partAt_8 (fun c5 h6 k7 => ?_)
    refine r_goto h 15 dL_partAt_9 (by decide) ?_
    refine r_iconst h (v := nI 0) (by decide) dL_partAt_15 ?_
    exact r_iret h hQ hr dL_partAt_16 ⟨by decide, by decide⟩ ⟨_, rfl, by rw [hR0], hC.mono (fun y hy => k7 y (by omega)), fun _ => ⟨_, h6, by rw [hR1]; exact upL_eq⟩, fun _ => ⟨_, h6⟩, fun z => z.elim (fun g hg => ⟨g, ((k7 48 (by omega)).trans (hK 48 (by omega))).trans hg⟩), fun y hy hy2 => (k7 y hy2).trans (hK y hy)⟩
theorem f_skip_th (σ : St) (p0 p1 : Int32) : (f_skip σ p0 p1).1 = 0 ∨ (f_skip σ p0 p1).2.2 = σ := by
  unfold f_skip opn
  (repeat' split) <;> (try dsimp only) <;> (repeat' split) <;> first | exact Or.inl rfl | exact Or.inr rfl
set_option maxRecDepth 100000 in
set_option maxHeartbeats 4000000 in
/-- L_skip -/
theorem c_L_skip {G : GG} {l : Launch} {c : CC} (hG : InjG G) (hl0 : l.stackTraces = false) {σ : St} (hc : Cls G c σ) {fo : Nat → Int64} (ho : c 47 = .inl (G.2.2.2 1, 1, .inr (.inl fo))) (p0 p1 : Int32) : MC G l yL_skip (.codeWith yL_skip cL_skip 5 (some .int) [(0, 10, 13, 13), (0, 10, 17, 15), (0, 10, 21, 51)] :: gws) (rmF 8 8 48 140) [.ref (G.1 0), .int p0, .int p1, .ref (G.1 47)] c (pI (wQ G c (f_skip σ p0 p1) (oI G) 47)) (pF) := by
  refine MC.ofH (by decide) hl0 hG (Nat.le_of_ble_eq_true rfl) (fun X hX h hN hQ hr => ?_)
  subst hX
  refine r_aload_n h 3 rfl rfl dL_skip_0 ?_
  refine r_iconst h (v := nI 0) (by decide) dL_skip_1 ?_
  refine r_aload_n h 0 rfl rfl dL_skip_2 ?_
  refine r_iload_n h 1 rfl rfl dL_skip_3 ?_
  refine r_iload_n h 2 rfl rfl dL_skip_4 ?_
  refine r_cV h k_L_59 (i := 0) (As := [.int p0, .int p1]) (rest := [.int (nI 0), .ref (G.1 47)]) (c_X3_skip h.i h.t hc p0 p1) (by omega) hc.o rfl rfl rfl (Nat.le_of_ble_eq_true rfl) ⟨by decide, by decide, by decide, by decide⟩ dL_skip_5 (fun E hE => ?_) (fun v2 c1 p3 => ?_)
  · obtain ⟨e, he, hR⟩ := hE
    rcases e with _ | e
    · cases Option.some.inj he
      refine VX.catch (pre := []) (x := ⟨0, 10, 13, 13⟩) (suf := ⟨0, 10, 17, 15⟩ :: ⟨0, 10, 21, 51⟩ :: []) h (hN.trans rfl) (fun z hz => nomatch hz) (by decide) (by decide) C_L_13 (by decide +kernel) (fun q => ?_)
      refine r_astore h ([(4, .ref q), (0, .ref (G.1 0)), (1, .int p0), (2, .int p1), (3, .ref (G.1 47))]) dL_skip_13 (by decide) rfl ?_
      refine r_iconst h (v := nI 1) (by decide) dL_skip_15 ?_
      exact r_iret h hQ hr dL_skip_16 ⟨by decide, by decide⟩ ⟨_, rfl, wQ.thrown (k := 0) hc hR (f_skip_th σ p0 p1)⟩
    · rcases e with _ | e
      · cases Option.some.inj he
        refine VX.catch (pre := ⟨0, 10, 13, 13⟩ :: []) (x := ⟨0, 10, 17, 15⟩) (suf := ⟨0, 10, 21, 51⟩ :: []) h (hN.trans rfl) (fun z hz => by simp only [List.mem_cons, List.not_mem_nil, or_false] at hz; rcases hz with rfl <;> first | exact Or.inr ⟨by decide, _, C_L_13, by decide +kernel⟩) (by decide) (by decide) C_L_15 (by decide +kernel) (fun q => ?_)
        refine r_astore h ([(4, .ref q), (0, .ref (G.1 0)), (1, .int p0), (2, .int p1), (3, .ref (G.1 47))]) dL_skip_17 (by decide) rfl ?_
        refine r_iconst h (v := nI 2) (by decide) dL_skip_19 ?_
        exact r_iret h hQ hr dL_skip_20 ⟨by decide, by decide⟩ ⟨_, rfl, wQ.thrown (k := 1) hc hR (f_skip_th σ p0 p1)⟩
      · rcases e with _ | e
        · cases Option.some.inj he
          refine VX.catch (pre := ⟨0, 10, 13, 13⟩ :: ⟨0, 10, 17, 15⟩ :: []) (x := ⟨0, 10, 21, 51⟩) (suf := []) h (hN.trans rfl) (fun z hz => by simp only [List.mem_cons, List.not_mem_nil, or_false] at hz; rcases hz with rfl | rfl <;> first | exact Or.inr ⟨by decide, _, C_L_13, by decide +kernel⟩ | exact Or.inr ⟨by decide, _, C_L_15, by decide +kernel⟩) (by decide) (by decide) C_L_51 (by decide +kernel) (fun q => ?_)
          refine r_astore h ([(4, .ref q), (0, .ref (G.1 0)), (1, .int p0), (2, .int p1), (3, .ref (G.1 47))]) dL_skip_21 (by decide) rfl ?_
          refine r_iconst h (v := nI 3) (by decide) dL_skip_23 ?_
          exact r_iret h hQ hr dL_skip_24 ⟨by decide, by decide⟩ ⟨_, rfl, wQ.thrown (k := 2) hc hR (f_skip_th σ p0 p1)⟩
        · cases he
  · obtain ⟨r, rfl, hR0, hR1, hC, hK⟩ := p3
    have g4 := (hK 47 (by omega)).trans ho
    refine r_i2l h rfl dL_skip_8 ?_
    refine r_last h (i := 47) (by omega) g4 (x := 0) (by omega) (by decide) dL_skip_9 (fun c5 h6 k7 => ?_)
    refine r_goto h 25 dL_skip_10 (by decide) ?_
    refine r_iconst h (v := nI 0) (by decide) dL_skip_25 ?_
    exact r_iret h hQ hr dL_skip_26 ⟨by decide, by decide⟩ ⟨_, rfl, by rw [hR0], hC.mono (fun y hy => k7 y (by omega)), fun _ => ⟨_, h6, by rw [hR1]; exact upL_eq⟩, fun _ => ⟨_, h6⟩, fun z => z.elim (fun g hg => ⟨g, ((k7 48 (by omega)).trans (hK 48 (by omega))).trans hg⟩), fun y hy hy2 => (k7 y hy2).trans (hK y hy)⟩
theorem f_readLine_th (σ : St) (p0 p1 : Int32) : (f_readLine σ p0 p1).1 = 0 ∨ (f_readLine σ p0 p1).2.2 = σ := by
  unfold f_readLine opn
  (repeat' split) <;> (try dsimp only) <;> (repeat' split) <;> first | exact Or.inl rfl | exact Or.inr rfl
set_option maxRecDepth 100000 in
set_option maxHeartbeats 4000000 in
/-- L_readLine -/
theorem c_L_readLine {G : GG} {l : Launch} {c : CC} (hG : InjG G) (hl0 : l.stackTraces = false) {σ : St} (hc : Cls G c σ) {fo : Nat → Int64} (ho : c 47 = .inl (G.2.2.2 1, 1, .inr (.inl fo))) (p0 p1 : Int32) : MC G l yL_readLine (.codeWith yL_readLine cL_readLine 5 (some .int) [(0, 10, 13, 13), (0, 10, 17, 51), (0, 10, 21, 17)] :: gws) (rmF 8 8 48 141) [.ref (G.1 0), .int p0, .int p1, .ref (G.1 47)] c (pI (wQ G c (f_readLine σ p0 p1) (oI G) 47)) (pF) := by
  refine MC.ofH (by decide) hl0 hG (Nat.le_of_ble_eq_true rfl) (fun X hX h hN hQ hr => ?_)
  subst hX
  refine r_aload_n h 3 rfl rfl dL_readLine_0 ?_
  refine r_iconst h (v := nI 0) (by decide) dL_readLine_1 ?_
  refine r_aload_n h 0 rfl rfl dL_readLine_2 ?_
  refine r_iload_n h 1 rfl rfl dL_readLine_3 ?_
  refine r_iload_n h 2 rfl rfl dL_readLine_4 ?_
  refine r_cV h k_L_62 (i := 0) (As := [.int p0, .int p1]) (rest := [.int (nI 0), .ref (G.1 47)]) (c_X3_readLine h.i h.t hc p0 p1) (by omega) hc.o rfl rfl rfl (Nat.le_of_ble_eq_true rfl) ⟨by decide, by decide, by decide, by decide⟩ dL_readLine_5 (fun E hE => ?_) (fun v2 c1 p3 => ?_)
  · obtain ⟨e, he, hR⟩ := hE
    rcases e with _ | e
    · cases Option.some.inj he
      refine VX.catch (pre := []) (x := ⟨0, 10, 13, 13⟩) (suf := ⟨0, 10, 17, 51⟩ :: ⟨0, 10, 21, 17⟩ :: []) h (hN.trans rfl) (fun z hz => nomatch hz) (by decide) (by decide) C_L_13 (by decide +kernel) (fun q => ?_)
      refine r_astore h ([(4, .ref q), (0, .ref (G.1 0)), (1, .int p0), (2, .int p1), (3, .ref (G.1 47))]) dL_readLine_13 (by decide) rfl ?_
      refine r_iconst h (v := nI 1) (by decide) dL_readLine_15 ?_
      exact r_iret h hQ hr dL_readLine_16 ⟨by decide, by decide⟩ ⟨_, rfl, wQ.thrown (k := 0) hc hR (f_readLine_th σ p0 p1)⟩
    · rcases e with _ | e
      · cases Option.some.inj he
        refine VX.catch (pre := ⟨0, 10, 13, 13⟩ :: []) (x := ⟨0, 10, 17, 51⟩) (suf := ⟨0, 10, 21, 17⟩ :: []) h (hN.trans rfl) (fun z hz => by simp only [List.mem_cons, List.not_mem_nil, or_false] at hz; rcases hz with rfl <;> first | exact Or.inr ⟨by decide, _, C_L_13, by decide +kernel⟩) (by decide) (by decide) C_L_51 (by decide +kernel) (fun q => ?_)
        refine r_astore h ([(4, .ref q), (0, .ref (G.1 0)), (1, .int p0), (2, .int p1), (3, .ref (G.1 47))]) dL_readLine_17 (by decide) rfl ?_
        refine r_iconst h (v := nI 2) (by decide) dL_readLine_19 ?_
        exact r_iret h hQ hr dL_readLine_20 ⟨by decide, by decide⟩ ⟨_, rfl, wQ.thrown (k := 1) hc hR (f_readLine_th σ p0 p1)⟩
      · rcases e with _ | e
        · cases Option.some.inj he
          refine VX.catch (pre := ⟨0, 10, 13, 13⟩ :: ⟨0, 10, 17, 51⟩ :: []) (x := ⟨0, 10, 21, 17⟩) (suf := []) h (hN.trans rfl) (fun z hz => by simp only [List.mem_cons, List.not_mem_nil, or_false] at hz; rcases hz with rfl | rfl <;> first | exact Or.inr ⟨by decide, _, C_L_13, by decide +kernel⟩ | exact Or.inr ⟨by decide, _, C_L_51, by decide +kernel⟩) (by decide) (by decide) C_L_17 (by decide +kernel) (fun q => ?_)
          refine r_astore h ([(4, .ref q), (0, .ref (G.1 0)), (1, .int p0), (2, .int p1), (3, .ref (G.1 47))]) dL_readLine_21 (by decide) rfl ?_
          refine r_iconst h (v := nI 3) (by decide) dL_readLine_23 ?_
          exact r_iret h hQ hr dL_readLine_24 ⟨by decide, by decide⟩ ⟨_, rfl, wQ.thrown (k := 2) hc hR (f_readLine_th σ p0 p1)⟩
        · cases he
  · obtain ⟨r, rfl, hR0, hR1, hC, hK⟩ := p3
    have g4 := (hK 47 (by omega)).trans ho
    refine r_i2l h rfl dL_readLine_8 ?_
    refine r_last h (i := 47) (by omega) g4 (x := 0) (by omega) (by decide) dL_readLine_9 (fun c5 h6 k7 => ?_)
    refine r_goto h 25 dL_readLine_10 (by decide) ?_
    refine r_iconst h (v := nI 0) (by decide) dL_readLine_25 ?_
    exact r_iret h hQ hr dL_readLine_26 ⟨by decide, by decide⟩ ⟨_, rfl, by rw [hR0], hC.mono (fun y hy => k7 y (by omega)), fun _ => ⟨_, h6, by rw [hR1]; exact upL_eq⟩, fun _ => ⟨_, h6⟩, fun z => z.elim (fun g hg => ⟨g, ((k7 48 (by omega)).trans (hK 48 (by omega))).trans hg⟩), fun y hy hy2 => (k7 y hy2).trans (hK y hy)⟩
theorem f_pour_th (σ : St) (p0 p1 : Int32) : (f_pour σ p0 p1).1 = 0 ∨ (f_pour σ p0 p1).2.2 = σ := by
  unfold f_pour opn
  (repeat' split) <;> (try dsimp only) <;> (repeat' split) <;> first | exact Or.inl rfl | exact Or.inr rfl
set_option maxRecDepth 100000 in
set_option maxHeartbeats 4000000 in
/-- L_pour -/
theorem c_L_pour {G : GG} {l : Launch} {c : CC} (hG : InjG G) (hl0 : l.stackTraces = false) {σ : St} (hc : Cls G c σ) {fo : Nat → Int64} (ho : c 47 = .inl (G.2.2.2 1, 1, .inr (.inl fo))) (p0 p1 : Int32) : MC G l yL_pour (.codeWith yL_pour cL_pour 5 (some .int) [(0, 10, 13, 13), (0, 10, 17, 51), (0, 10, 21, 17)] :: gws) (rmF 8 8 48 141) [.ref (G.1 0), .int p0, .int p1, .ref (G.1 47)] c (pI (wQ G c (f_pour σ p0 p1) (oI G) 47)) (pF) := by
  refine MC.ofH (by decide) hl0 hG (Nat.le_of_ble_eq_true rfl) (fun X hX h hN hQ hr => ?_)
  subst hX
  refine r_aload_n h 3 rfl rfl dL_pour_0 ?_
  refine r_iconst h (v := nI 0) (by decide) dL_pour_1 ?_
  refine r_aload_n h 0 rfl rfl dL_pour_2 ?_
  refine r_iload_n h 1 rfl rfl dL_pour_3 ?_
  refine r_iload_n h 2 rfl rfl dL_pour_4 ?_
  refine r_cV h k_L_65 (i := 0) (As := [.int p0, .int p1]) (rest := [.int (nI 0), .ref (G.1 47)]) (c_X3_pour h.i h.t hc p0 p1) (by omega) hc.o rfl rfl rfl (Nat.le_of_ble_eq_true rfl) ⟨by decide, by decide, by decide, by decide⟩ dL_pour_5 (fun E hE => ?_) (fun v2 c1 p3 => ?_)
  · obtain ⟨e, he, hR⟩ := hE
    rcases e with _ | e
    · cases Option.some.inj he
      refine VX.catch (pre := []) (x := ⟨0, 10, 13, 13⟩) (suf := ⟨0, 10, 17, 51⟩ :: ⟨0, 10, 21, 17⟩ :: []) h (hN.trans rfl) (fun z hz => nomatch hz) (by decide) (by decide) C_L_13 (by decide +kernel) (fun q => ?_)
      refine r_astore h ([(4, .ref q), (0, .ref (G.1 0)), (1, .int p0), (2, .int p1), (3, .ref (G.1 47))]) dL_pour_13 (by decide) rfl ?_
      refine r_iconst h (v := nI 1) (by decide) dL_pour_15 ?_
      exact r_iret h hQ hr dL_pour_16 ⟨by decide, by decide⟩ ⟨_, rfl, wQ.thrown (k := 0) hc hR (f_pour_th σ p0 p1)⟩
    · rcases e with _ | e
      · cases Option.some.inj he
        refine VX.catch (pre := ⟨0, 10, 13, 13⟩ :: []) (x := ⟨0, 10, 17, 51⟩) (suf := ⟨0, 10, 21, 17⟩ :: []) h (hN.trans rfl) (fun z hz => by simp only [List.mem_cons, List.not_mem_nil, or_false] at hz; rcases hz with rfl <;> first | exact Or.inr ⟨by decide, _, C_L_13, by decide +kernel⟩) (by decide) (by decide) C_L_51 (by decide +kernel) (fun q => ?_)
        refine r_astore h ([(4, .ref q), (0, .ref (G.1 0)), (1, .int p0), (2, .int p1), (3, .ref (G.1 47))]) dL_pour_17 (by decide) rfl ?_
        refine r_iconst h (v := nI 2) (by decide) dL_pour_19 ?_
        exact r_iret h hQ hr dL_pour_20 ⟨by decide, by decide⟩ ⟨_, rfl, wQ.thrown (k := 1) hc hR (f_pour_th σ p0 p1)⟩
      · rcases e with _ | e
        · cases Option.some.inj he
          refine VX.catch (pre := ⟨0, 10, 13, 13⟩ :: ⟨0, 10, 17, 51⟩ :: []) (x := ⟨0, 10, 21, 17⟩) (suf := []) h (hN.trans rfl) (fun z hz => by simp only [List.mem_cons, List.not_mem_nil, or_false] at hz; rcases hz with rfl | rfl <;> first | exact Or.inr ⟨by decide, _, C_L_13, by decide +kernel⟩ | exact Or.inr ⟨by decide, _, C_L_51, by decide +kernel⟩) (by decide) (by decide) C_L_17 (by decide +kernel) (fun q => ?_)
          refine r_astore h ([(4, .ref q), (0, .ref (G.1 0)), (1, .int p0), (2, .int p1), (3, .ref (G.1 47))]) dL_pour_21 (by decide) rfl ?_
          refine r_iconst h (v := nI 3) (by decide) dL_pour_23 ?_
          exact r_iret h hQ hr dL_pour_24 ⟨by decide, by decide⟩ ⟨_, rfl, wQ.thrown (k := 2) hc hR (f_pour_th σ p0 p1)⟩
        · cases he
  · obtain ⟨r, rfl, hR0, hR1, hC, hK⟩ := p3
    have g4 := (hK 47 (by omega)).trans ho
    refine r_i2l h rfl dL_pour_8 ?_
    refine r_last h (i := 47) (by omega) g4 (x := 0) (by omega) (by decide) dL_pour_9 (fun c5 h6 k7 => ?_)
    refine r_goto h 25 dL_pour_10 (by decide) ?_
    refine r_iconst h (v := nI 0) (by decide) dL_pour_25 ?_
    exact r_iret h hQ hr dL_pour_26 ⟨by decide, by decide⟩ ⟨_, rfl, by rw [hR0], hC.mono (fun y hy => k7 y (by omega)), fun _ => ⟨_, h6, by rw [hR1]; exact upL_eq⟩, fun _ => ⟨_, h6⟩, fun z => z.elim (fun g hg => ⟨g, ((k7 48 (by omega)).trans (hK 48 (by omega))).trans hg⟩), fun y hy hy2 => (k7 y hy2).trans (hK y hy)⟩
theorem f_alike_th (σ : St) (p0 p1 : Int32) : (f_alike σ p0 p1).1 = 0 ∨ (f_alike σ p0 p1).2.2 = σ := by
  unfold f_alike
  (repeat' split) <;> (try dsimp only) <;> (repeat' split) <;> first | exact Or.inl rfl | exact Or.inr rfl
set_option maxRecDepth 100000 in
set_option maxHeartbeats 4000000 in
/-- L_alike -/
theorem c_L_alike {G : GG} {l : Launch} {c : CC} (hG : InjG G) (hl0 : l.stackTraces = false) {σ : St} (hc : Cls G c σ) {fo : Nat → Int64} (ho : c 47 = .inl (G.2.2.2 1, 1, .inr (.inl fo))) (p0 p1 : Int32) : MC G l yL_alike (.codeWith yL_alike cL_alike 5 (some .int) [(0, 10, 13, 13), (0, 10, 17, 15), (0, 10, 21, 51)] :: gws) (rmF 8 8 48 140) [.ref (G.1 0), .int p0, .int p1, .ref (G.1 47)] c (pI (wQ G c (f_alike σ p0 p1) (oI G) 47)) (pF) := by
  refine MC.ofH (by decide) hl0 hG (Nat.le_of_ble_eq_true rfl) (fun X hX h hN hQ hr => ?_)
  subst hX
  refine r_aload_n h 3 rfl rfl dL_alike_0 ?_
  refine r_iconst h (v := nI 0) (by decide) dL_alike_1 ?_
  refine r_aload_n h 0 rfl rfl dL_alike_2 ?_
  refine r_iload_n h 1 rfl rfl dL_alike_3 ?_
  refine r_iload_n h 2 rfl rfl dL_alike_4 ?_
  refine r_cV h k_L_68 (i := 0) (As := [.int p0, .int p1]) (rest := [.int (nI 0), .ref (G.1 47)]) (c_X3_alike h.i h.t hc p0 p1) (by omega) hc.o rfl rfl rfl (Nat.le_of_ble_eq_true rfl) ⟨by decide, by decide, by decide, by decide⟩ dL_alike_5 (fun E hE => ?_) (fun v2 c1 p3 => ?_)
  · obtain ⟨e, he, hR⟩ := hE
    rcases e with _ | e
    · cases Option.some.inj he
      refine VX.catch (pre := []) (x := ⟨0, 10, 13, 13⟩) (suf := ⟨0, 10, 17, 15⟩ :: ⟨0, 10, 21, 51⟩ :: []) h (hN.trans rfl) (fun z hz => nomatch hz) (by decide) (by decide) C_L_13 (by decide +kernel) (fun q => ?_)
      refine r_astore h ([(4, .ref q), (0, .ref (G.1 0)), (1, .int p0), (2, .int p1), (3, .ref (G.1 47))]) dL_alike_13 (by decide) rfl ?_
      refine r_iconst h (v := nI 1) (by decide) dL_alike_15 ?_
      exact r_iret h hQ hr dL_alike_16 ⟨by decide, by decide⟩ ⟨_, rfl, wQ.thrown (k := 0) hc hR (f_alike_th σ p0 p1)⟩
    · rcases e with _ | e
      · cases Option.some.inj he
        refine VX.catch (pre := ⟨0, 10, 13, 13⟩ :: []) (x := ⟨0, 10, 17, 15⟩) (suf := ⟨0, 10, 21, 51⟩ :: []) h (hN.trans rfl) (fun z hz => by simp only [List.mem_cons, List.not_mem_nil, or_false] at hz; rcases hz with rfl <;> first | exact Or.inr ⟨by decide, _, C_L_13, by decide +kernel⟩) (by decide) (by decide) C_L_15 (by decide +kernel) (fun q => ?_)
        refine r_astore h ([(4, .ref q), (0, .ref (G.1 0)), (1, .int p0), (2, .int p1), (3, .ref (G.1 47))]) dL_alike_17 (by decide) rfl ?_
        refine r_iconst h (v := nI 2) (by decide) dL_alike_19 ?_
        exact r_iret h hQ hr dL_alike_20 ⟨by decide, by decide⟩ ⟨_, rfl, wQ.thrown (k := 1) hc hR (f_alike_th σ p0 p1)⟩
      · rcases e with _ | e
        · cases Option.some.inj he
          refine VX.catch (pre := ⟨0, 10, 13, 13⟩ :: ⟨0, 10, 17, 15⟩ :: []) (x := ⟨0, 10, 21, 51⟩) (suf := []) h (hN.trans rfl) (fun z hz => by simp only [List.mem_cons, List.not_mem_nil, or_false] at hz; rcases hz with rfl | rfl <;> first | exact Or.inr ⟨by decide, _, C_L_13, by decide +kernel⟩ | exact Or.inr ⟨by decide, _, C_L_15, by decide +kernel⟩) (by decide) (by decide) C_L_51 (by decide +kernel) (fun q => ?_)
          refine r_astore h ([(4, .ref q), (0, .ref (G.1 0)), (1, .int p0), (2, .int p1), (3, .ref (G.1 47))]) dL_alike_21 (by decide) rfl ?_
          refine r_iconst h (v := nI 3) (by decide) dL_alike_23 ?_
          exact r_iret h hQ hr dL_alike_24 ⟨by decide, by decide⟩ ⟨_, rfl, wQ.thrown (k := 2) hc hR (f_alike_th σ p0 p1)⟩
        · cases he
  · obtain ⟨r, rfl, hR0, hR1, hC, hK⟩ := p3
    have g4 := (hK 47 (by omega)).trans ho
    refine r_i2l h rfl dL_alike_8 ?_
    refine r_last h (i := 47) (by omega) g4 (x := 0) (by omega) (by decide) dL_alike_9 (fun c5 h6 k7 => ?_)
    refine r_goto h 25 dL_alike_10 (by decide) ?_
    refine r_iconst h (v := nI 0) (by decide) dL_alike_25 ?_
    exact r_iret h hQ hr dL_alike_26 ⟨by decide, by decide⟩ ⟨_, rfl, by rw [hR0], hC.mono (fun y hy => k7 y (by omega)), fun _ => ⟨_, h6, by rw [hR1]; exact upL_eq⟩, fun _ => ⟨_, h6⟩, fun z => z.elim (fun g hg => ⟨g, ((k7 48 (by omega)).trans (hK 48 (by omega))).trans hg⟩), fun y hy hy2 => (k7 y hy2).trans (hK y hy)⟩
theorem f_canMark_th (σ : St) (p0 : Int32) : (f_canMark σ p0).1 = 0 ∨ (f_canMark σ p0).2.2 = σ := by
  unfold f_canMark opn
  (repeat' split) <;> (try dsimp only) <;> (repeat' split) <;> first | exact Or.inl rfl | exact Or.inr rfl
set_option maxRecDepth 100000 in
set_option maxHeartbeats 4000000 in
/-- L_canMark -/
theorem c_L_canMark {G : GG} {l : Launch} {c : CC} (hG : InjG G) (hl0 : l.stackTraces = false) {σ : St} (hc : Cls G c σ) {fo : Nat → Int64} (ho : c 47 = .inl (G.2.2.2 1, 1, .inr (.inl fo))) (p0 : Int32) : MC G l yL_canMark (.codeWith yL_canMark cL_canMark 4 (some .int) [(0, 16, 19, 13), (0, 16, 22, 51)] :: gws) (rmF 9 8 48 159) [.ref (G.1 0), .int p0, .ref (G.1 47)] c (pI (wQ G c (f_canMark σ p0) (oZ G) 47)) (pF) := by
  refine MC.ofH (by decide) hl0 hG (Nat.le_of_ble_eq_true rfl) (fun X hX h hN hQ hr => ?_)
  subst hX
  refine r_aload_n h 2 rfl rfl dL_canMark_0 ?_
  refine r_iconst h (v := nI 0) (by decide) dL_canMark_1 ?_
  refine r_aload_n h 0 rfl rfl dL_canMark_2 ?_
  refine r_iload_n h 1 rfl rfl dL_canMark_3 ?_
  refine r_cV h k_L_71 (i := 0) (As := [.int p0]) (rest := [.int (nI 0), .ref (G.1 47)]) (c_X3_canMark h.i h.t hc p0) (by omega) hc.o rfl rfl rfl (Nat.le_of_ble_eq_true rfl) ⟨by decide, by decide, by decide, by decide⟩ dL_canMark_4 (fun E hE => ?_) (fun v2 c1 p3 => ?_)
  · obtain ⟨e, he, hR⟩ := hE
    rcases e with _ | e
    · cases Option.some.inj he
      refine VX.catch (pre := []) (x := ⟨0, 16, 19, 13⟩) (suf := ⟨0, 16, 22, 51⟩ :: []) h (hN.trans rfl) (fun z hz => nomatch hz) (by decide) (by decide) C_L_13 (by decide +kernel) (fun q => ?_)
      refine r_astore_n h ([(3, .ref q), (0, .ref (G.1 0)), (1, .int p0), (2, .ref (G.1 47))]) rfl dL_canMark_19 (by decide) rfl ?_
      refine r_iconst h (v := nI 1) (by decide) dL_canMark_20 ?_
      exact r_iret h hQ hr dL_canMark_21 ⟨by decide, by decide⟩ ⟨_, rfl, wQ.thrown (k := 0) hc hR (f_canMark_th σ p0)⟩
    · rcases e with _ | e
      · cases Option.some.inj he
        refine VX.catch (pre := ⟨0, 16, 19, 13⟩ :: []) (x := ⟨0, 16, 22, 51⟩) (suf := []) h (hN.trans rfl) (fun z hz => by simp only [List.mem_cons, List.not_mem_nil, or_false] at hz; rcases hz with rfl <;> first | exact Or.inr ⟨by decide, _, C_L_13, by decide +kernel⟩) (by decide) (by decide) C_L_51 (by decide +kernel) (fun q => ?_)
        refine r_astore_n h ([(3, .ref q), (0, .ref (G.1 0)), (1, .int p0), (2, .ref (G.1 47))]) rfl dL_canMark_22 (by decide) rfl ?_
        refine r_iconst h (v := nI 2) (by decide) dL_canMark_23 ?_
        exact r_iret h hQ hr dL_canMark_24 ⟨by decide, by decide⟩ ⟨_, rfl, wQ.thrown (k := 1) hc hR (f_canMark_th σ p0)⟩
      · cases he
  · obtain ⟨r, rfl, hR0, hR1, hC, hK⟩ := p3
    have g4 := (hK 47 (by omega)).trans ho
    refine r_if_eq h 14 dL_canMark_7 (by decide) (fun u => ?_) (fun u => ?_)
    · refine r_lconst h (v := 0) (by decide) dL_canMark_14 ?_
      refine r_last h (i := 47) (by omega) g4 (x := 0) (by omega) (by decide) dL_canMark_15 (fun c5 h6 k7 => ?_)
      refine r_goto h 25 dL_canMark_16 (by decide) ?_
      refine r_iconst h (v := nI 0) (by decide) dL_canMark_25 ?_
      exact r_iret h hQ hr dL_canMark_26 ⟨by decide, by decide⟩ ⟨_, rfl, by rw [hR0], hC.mono (fun y hy => k7 y (by omega)), fun _ => ⟨_, h6, by rw [hR1]; rw [if_pos u]; exact upL_eq⟩, fun _ => ⟨_, h6⟩, fun z => z.elim (fun g hg => ⟨g, ((k7 48 (by omega)).trans (hK 48 (by omega))).trans hg⟩), fun y hy hy2 => (k7 y hy2).trans (hK y hy)⟩
    · refine r_lconst h (v := 1) (by decide) dL_canMark_10 ?_
      refine r_goto h 15 dL_canMark_11 (by decide) ?_
      refine r_last h (i := 47) (by omega) g4 (x := 0) (by omega) (by decide) dL_canMark_15 (fun c8 h9 k10 => ?_)
      refine r_goto h 25 dL_canMark_16 (by decide) ?_
      refine r_iconst h (v := nI 0) (by decide) dL_canMark_25 ?_
      exact r_iret h hQ hr dL_canMark_26 ⟨by decide, by decide⟩ ⟨_, rfl, by rw [hR0], hC.mono (fun y hy => k10 y (by omega)), fun _ => ⟨_, h9, by rw [hR1]; rw [if_neg u]; exact upL_eq⟩, fun _ => ⟨_, h9⟩, fun z => z.elim (fun g hg => ⟨g, ((k10 48 (by omega)).trans (hK 48 (by omega))).trans hg⟩), fun y hy hy2 => (k10 y hy2).trans (hK y hy)⟩
theorem f_mark_th (σ : St) (p0 : Int32) : (f_mark σ p0).1 = 0 ∨ (f_mark σ p0).2.2 = σ := by
  unfold f_mark opn
  (repeat' split) <;> (try dsimp only) <;> (repeat' split) <;> first | exact Or.inl rfl | exact Or.inr rfl
set_option maxRecDepth 100000 in
set_option maxHeartbeats 4000000 in
/-- L_mark -/
theorem c_L_mark {G : GG} {l : Launch} {c : CC} (hG : InjG G) (hl0 : l.stackTraces = false) {σ : St} (hc : Cls G c σ) {fo : Nat → Int64} (ho : c 47 = .inl (G.2.2.2 1, 1, .inr (.inl fo))) (p0 : Int32) : MC G l yL_mark (.codeWith yL_mark cL_mark 4 (some .int) [(0, 9, 12, 13), (0, 9, 15, 51)] :: gws) (rmF 9 8 48 160) [.ref (G.1 0), .int p0, .ref (G.1 47)] c (pI (wQ G c (f_mark σ p0) (oI G) 47)) (pF) := by
  refine MC.ofH (by decide) hl0 hG (Nat.le_of_ble_eq_true rfl) (fun X hX h hN hQ hr => ?_)
  subst hX
  refine r_aload_n h 2 rfl rfl dL_mark_0 ?_
  refine r_iconst h (v := nI 0) (by decide) dL_mark_1 ?_
  refine r_aload_n h 0 rfl rfl dL_mark_2 ?_
  refine r_iload_n h 1 rfl rfl dL_mark_3 ?_
  refine r_cV h k_L_75 (i := 0) (As := [.int p0]) (rest := [.int (nI 0), .ref (G.1 47)]) (c_X3_mark h.i h.t hc p0) (by omega) hc.o rfl rfl rfl (Nat.le_of_ble_eq_true rfl) ⟨by decide, by decide, by decide, by decide⟩ dL_mark_4 (fun E hE => ?_) (fun v2 c1 p3 => ?_)
  · obtain ⟨e, he, hR⟩ := hE
    rcases e with _ | e
    · cases Option.some.inj he
      refine VX.catch (pre := []) (x := ⟨0, 9, 12, 13⟩) (suf := ⟨0, 9, 15, 51⟩ :: []) h (hN.trans rfl) (fun z hz => nomatch hz) (by decide) (by decide) C_L_13 (by decide +kernel) (fun q => ?_)
      refine r_astore_n h ([(3, .ref q), (0, .ref (G.1 0)), (1, .int p0), (2, .ref (G.1 47))]) rfl dL_mark_12 (by decide) rfl ?_
      refine r_iconst h (v := nI 1) (by decide) dL_mark_13 ?_
      exact r_iret h hQ hr dL_mark_14 ⟨by decide, by decide⟩ ⟨_, rfl, wQ.thrown (k := 0) hc hR (f_mark_th σ p0)⟩
    · rcases e with _ | e
      · cases Option.some.inj he
        refine VX.catch (pre := ⟨0, 9, 12, 13⟩ :: []) (x := ⟨0, 9, 15, 51⟩) (suf := []) h (hN.trans rfl) (fun z hz => by simp only [List.mem_cons, List.not_mem_nil, or_false] at hz; rcases hz with rfl <;> first | exact Or.inr ⟨by decide, _, C_L_13, by decide +kernel⟩) (by decide) (by decide) C_L_51 (by decide +kernel) (fun q => ?_)
        refine r_astore_n h ([(3, .ref q), (0, .ref (G.1 0)), (1, .int p0), (2, .ref (G.1 47))]) rfl dL_mark_15 (by decide) rfl ?_
        refine r_iconst h (v := nI 2) (by decide) dL_mark_16 ?_
        exact r_iret h hQ hr dL_mark_17 ⟨by decide, by decide⟩ ⟨_, rfl, wQ.thrown (k := 1) hc hR (f_mark_th σ p0)⟩
      · cases he
  · obtain ⟨r, rfl, hR0, hR1, hC, hK⟩ := p3
    have g4 := (hK 47 (by omega)).trans ho
    refine r_i2l h rfl dL_mark_7 ?_
    refine r_last h (i := 47) (by omega) g4 (x := 0) (by omega) (by decide) dL_mark_8 (fun c5 h6 k7 => ?_)
    refine r_goto h 18 dL_mark_9 (by decide) ?_
    refine r_iconst h (v := nI 0) (by decide) dL_mark_18 ?_
    exact r_iret h hQ hr dL_mark_19 ⟨by decide, by decide⟩ ⟨_, rfl, by rw [hR0], hC.mono (fun y hy => k7 y (by omega)), fun _ => ⟨_, h6, by rw [hR1]; exact upL_eq⟩, fun _ => ⟨_, h6⟩, fun z => z.elim (fun g hg => ⟨g, ((k7 48 (by omega)).trans (hK 48 (by omega))).trans hg⟩), fun y hy hy2 => (k7 y hy2).trans (hK y hy)⟩
theorem f_back_th (σ : St) (p0 : Int32) : (f_back σ p0).1 = 0 ∨ (f_back σ p0).2.2 = σ := by
  unfold f_back opn
  (repeat' split) <;> (try dsimp only) <;> (repeat' split) <;> first | exact Or.inl rfl | exact Or.inr rfl
set_option maxRecDepth 100000 in
set_option maxHeartbeats 4000000 in
/-- L_back -/
theorem c_L_back {G : GG} {l : Launch} {c : CC} (hG : InjG G) (hl0 : l.stackTraces = false) {σ : St} (hc : Cls G c σ) {fo : Nat → Int64} (ho : c 47 = .inl (G.2.2.2 1, 1, .inr (.inl fo))) (p0 : Int32) : MC G l yL_back (.codeWith yL_back cL_back 4 (some .int) [(0, 9, 12, 13), (0, 9, 15, 51)] :: gws) (rmF 9 8 48 160) [.ref (G.1 0), .int p0, .ref (G.1 47)] c (pI (wQ G c (f_back σ p0) (oI G) 47)) (pF) := by
  refine MC.ofH (by decide) hl0 hG (Nat.le_of_ble_eq_true rfl) (fun X hX h hN hQ hr => ?_)
  subst hX
  refine r_aload_n h 2 rfl rfl dL_back_0 ?_
  refine r_iconst h (v := nI 0) (by decide) dL_back_1 ?_
  refine r_aload_n h 0 rfl rfl dL_back_2 ?_
  refine r_iload_n h 1 rfl rfl dL_back_3 ?_
  refine r_cV h k_L_78 (i := 0) (As := [.int p0]) (rest := [.int (nI 0), .ref (G.1 47)]) (c_X3_back h.i h.t hc p0) (by omega) hc.o rfl rfl rfl (Nat.le_of_ble_eq_true rfl) ⟨by decide, by decide, by decide, by decide⟩ dL_back_4 (fun E hE => ?_) (fun v2 c1 p3 => ?_)
  · obtain ⟨e, he, hR⟩ := hE
    rcases e with _ | e
    · cases Option.some.inj he
      refine VX.catch (pre := []) (x := ⟨0, 9, 12, 13⟩) (suf := ⟨0, 9, 15, 51⟩ :: []) h (hN.trans rfl) (fun z hz => nomatch hz) (by decide) (by decide) C_L_13 (by decide +kernel) (fun q => ?_)
      refine r_astore_n h ([(3, .ref q), (0, .ref (G.1 0)), (1, .int p0), (2, .ref (G.1 47))]) rfl dL_back_12 (by decide) rfl ?_
      refine r_iconst h (v := nI 1) (by decide) dL_back_13 ?_
      exact r_iret h hQ hr dL_back_14 ⟨by decide, by decide⟩ ⟨_, rfl, wQ.thrown (k := 0) hc hR (f_back_th σ p0)⟩
    · rcases e with _ | e
      · cases Option.some.inj he
        refine VX.catch (pre := ⟨0, 9, 12, 13⟩ :: []) (x := ⟨0, 9, 15, 51⟩) (suf := []) h (hN.trans rfl) (fun z hz => by simp only [List.mem_cons, List.not_mem_nil, or_false] at hz; rcases hz with rfl <;> first | exact Or.inr ⟨by decide, _, C_L_13, by decide +kernel⟩) (by decide) (by decide) C_L_51 (by decide +kernel) (fun q => ?_)
        refine r_astore_n h ([(3, .ref q), (0, .ref (G.1 0)), (1, .int p0), (2, .ref (G.1 47))]) rfl dL_back_15 (by decide) rfl ?_
        refine r_iconst h (v := nI 2) (by decide) dL_back_16 ?_
        exact r_iret h hQ hr dL_back_17 ⟨by decide, by decide⟩ ⟨_, rfl, wQ.thrown (k := 1) hc hR (f_back_th σ p0)⟩
      · cases he
  · obtain ⟨r, rfl, hR0, hR1, hC, hK⟩ := p3
    have g4 := (hK 47 (by omega)).trans ho
    refine r_i2l h rfl dL_back_7 ?_
    refine r_last h (i := 47) (by omega) g4 (x := 0) (by omega) (by decide) dL_back_8 (fun c5 h6 k7 => ?_)
    refine r_goto h 18 dL_back_9 (by decide) ?_
    refine r_iconst h (v := nI 0) (by decide) dL_back_18 ?_
    exact r_iret h hQ hr dL_back_19 ⟨by decide, by decide⟩ ⟨_, rfl, by rw [hR0], hC.mono (fun y hy => k7 y (by omega)), fun _ => ⟨_, h6, by rw [hR1]; exact upL_eq⟩, fun _ => ⟨_, h6⟩, fun z => z.elim (fun g hg => ⟨g, ((k7 48 (by omega)).trans (hK 48 (by omega))).trans hg⟩), fun y hy hy2 => (k7 y hy2).trans (hK y hy)⟩
theorem f_left_th (σ : St) (p0 : Int32) : (f_left σ p0).1 = 0 ∨ (f_left σ p0).2.2 = σ := by
  unfold f_left opn
  (repeat' split) <;> (try dsimp only) <;> (repeat' split) <;> first | exact Or.inl rfl | exact Or.inr rfl
set_option maxRecDepth 100000 in
set_option maxHeartbeats 4000000 in
/-- L_left -/
theorem c_L_left {G : GG} {l : Launch} {c : CC} (hG : InjG G) (hl0 : l.stackTraces = false) {σ : St} (hc : Cls G c σ) {fo : Nat → Int64} (ho : c 47 = .inl (G.2.2.2 1, 1, .inr (.inl fo))) (p0 : Int32) : MC G l yL_left (.codeWith yL_left cL_left 4 (some .int) [(0, 9, 12, 13), (0, 9, 15, 51)] :: gws) (rmF 9 8 48 160) [.ref (G.1 0), .int p0, .ref (G.1 47)] c (pI (wQ G c (f_left σ p0) (oI G) 47)) (pF) := by
  refine MC.ofH (by decide) hl0 hG (Nat.le_of_ble_eq_true rfl) (fun X hX h hN hQ hr => ?_)
  subst hX
  refine r_aload_n h 2 rfl rfl dL_left_0 ?_
  refine r_iconst h (v := nI 0) (by decide) dL_left_1 ?_
  refine r_aload_n h 0 rfl rfl dL_left_2 ?_
  refine r_iload_n h 1 rfl rfl dL_left_3 ?_
  refine r_cV h k_L_81 (i := 0) (As := [.int p0]) (rest := [.int (nI 0), .ref (G.1 47)]) (c_X3_left h.i h.t hc p0) (by omega) hc.o rfl rfl rfl (Nat.le_of_ble_eq_true rfl) ⟨by decide, by decide, by decide, by decide⟩ dL_left_4 (fun E hE => ?_) (fun v2 c1 p3 => ?_)
  · obtain ⟨e, he, hR⟩ := hE
    rcases e with _ | e
    · cases Option.some.inj he
      refine VX.catch (pre := []) (x := ⟨0, 9, 12, 13⟩) (suf := ⟨0, 9, 15, 51⟩ :: []) h (hN.trans rfl) (fun z hz => nomatch hz) (by decide) (by decide) C_L_13 (by decide +kernel) (fun q => ?_)
      refine r_astore_n h ([(3, .ref q), (0, .ref (G.1 0)), (1, .int p0), (2, .ref (G.1 47))]) rfl dL_left_12 (by decide) rfl ?_
      refine r_iconst h (v := nI 1) (by decide) dL_left_13 ?_
      exact r_iret h hQ hr dL_left_14 ⟨by decide, by decide⟩ ⟨_, rfl, wQ.thrown (k := 0) hc hR (f_left_th σ p0)⟩
    · rcases e with _ | e
      · cases Option.some.inj he
        refine VX.catch (pre := ⟨0, 9, 12, 13⟩ :: []) (x := ⟨0, 9, 15, 51⟩) (suf := []) h (hN.trans rfl) (fun z hz => by simp only [List.mem_cons, List.not_mem_nil, or_false] at hz; rcases hz with rfl <;> first | exact Or.inr ⟨by decide, _, C_L_13, by decide +kernel⟩) (by decide) (by decide) C_L_51 (by decide +kernel) (fun q => ?_)
        refine r_astore_n h ([(3, .ref q), (0, .ref (G.1 0)), (1, .int p0), (2, .ref (G.1 47))]) rfl dL_left_15 (by decide) rfl ?_
        refine r_iconst h (v := nI 2) (by decide) dL_left_16 ?_
        exact r_iret h hQ hr dL_left_17 ⟨by decide, by decide⟩ ⟨_, rfl, wQ.thrown (k := 1) hc hR (f_left_th σ p0)⟩
      · cases he
  · obtain ⟨r, rfl, hR0, hR1, hC, hK⟩ := p3
    have g4 := (hK 47 (by omega)).trans ho
    refine r_i2l h rfl dL_left_7 ?_
    refine r_last h (i := 47) (by omega) g4 (x := 0) (by omega) (by decide) dL_left_8 (fun c5 h6 k7 => ?_)
    refine r_goto h 18 dL_left_9 (by decide) ?_
    refine r_iconst h (v := nI 0) (by decide) dL_left_18 ?_
    exact r_iret h hQ hr dL_left_19 ⟨by decide, by decide⟩ ⟨_, rfl, by rw [hR0], hC.mono (fun y hy => k7 y (by omega)), fun _ => ⟨_, h6, by rw [hR1]; exact upL_eq⟩, fun _ => ⟨_, h6⟩, fun z => z.elim (fun g hg => ⟨g, ((k7 48 (by omega)).trans (hK 48 (by omega))).trans hg⟩), fun y hy hy2 => (k7 y hy2).trans (hK y hy)⟩
theorem f_line_th (σ : St) (p0 : Int32) : (f_line σ p0).1 = 0 ∨ (f_line σ p0).2.2 = σ := by
  unfold f_line opn
  (repeat' split) <;> (try dsimp only) <;> (repeat' split) <;> first | exact Or.inl rfl | exact Or.inr rfl
set_option maxRecDepth 100000 in
set_option maxHeartbeats 4000000 in
/-- L_line -/
theorem c_L_line {G : GG} {l : Launch} {c : CC} (hG : InjG G) (hl0 : l.stackTraces = false) {σ : St} (hc : Cls G c σ) {fo : Nat → Int64} (ho : c 47 = .inl (G.2.2.2 1, 1, .inr (.inl fo))) (p0 : Int32) : MC G l yL_line (.codeWith yL_line cL_line 4 (some .int) [(0, 9, 12, 13), (0, 9, 15, 51)] :: gws) (rmF 9 8 48 160) [.ref (G.1 0), .int p0, .ref (G.1 47)] c (pI (wQ G c (f_line σ p0) (oI G) 47)) (pF) := by
  refine MC.ofH (by decide) hl0 hG (Nat.le_of_ble_eq_true rfl) (fun X hX h hN hQ hr => ?_)
  subst hX
  refine r_aload_n h 2 rfl rfl dL_line_0 ?_
  refine r_iconst h (v := nI 0) (by decide) dL_line_1 ?_
  refine r_aload_n h 0 rfl rfl dL_line_2 ?_
  refine r_iload_n h 1 rfl rfl dL_line_3 ?_
  refine r_cV h k_L_84 (i := 0) (As := [.int p0]) (rest := [.int (nI 0), .ref (G.1 47)]) (c_X3_line h.i h.t hc p0) (by omega) hc.o rfl rfl rfl (Nat.le_of_ble_eq_true rfl) ⟨by decide, by decide, by decide, by decide⟩ dL_line_4 (fun E hE => ?_) (fun v2 c1 p3 => ?_)
  · obtain ⟨e, he, hR⟩ := hE
    rcases e with _ | e
    · cases Option.some.inj he
      refine VX.catch (pre := []) (x := ⟨0, 9, 12, 13⟩) (suf := ⟨0, 9, 15, 51⟩ :: []) h (hN.trans rfl) (fun z hz => nomatch hz) (by decide) (by decide) C_L_13 (by decide +kernel) (fun q => ?_)
      refine r_astore_n h ([(3, .ref q), (0, .ref (G.1 0)), (1, .int p0), (2, .ref (G.1 47))]) rfl dL_line_12 (by decide) rfl ?_
      refine r_iconst h (v := nI 1) (by decide) dL_line_13 ?_
      exact r_iret h hQ hr dL_line_14 ⟨by decide, by decide⟩ ⟨_, rfl, wQ.thrown (k := 0) hc hR (f_line_th σ p0)⟩
    · rcases e with _ | e
      · cases Option.some.inj he
        refine VX.catch (pre := ⟨0, 9, 12, 13⟩ :: []) (x := ⟨0, 9, 15, 51⟩) (suf := []) h (hN.trans rfl) (fun z hz => by simp only [List.mem_cons, List.not_mem_nil, or_false] at hz; rcases hz with rfl <;> first | exact Or.inr ⟨by decide, _, C_L_13, by decide +kernel⟩) (by decide) (by decide) C_L_51 (by decide +kernel) (fun q => ?_)
        refine r_astore_n h ([(3, .ref q), (0, .ref (G.1 0)), (1, .int p0), (2, .ref (G.1 47))]) rfl dL_line_15 (by decide) rfl ?_
        refine r_iconst h (v := nI 2) (by decide) dL_line_16 ?_
        exact r_iret h hQ hr dL_line_17 ⟨by decide, by decide⟩ ⟨_, rfl, wQ.thrown (k := 1) hc hR (f_line_th σ p0)⟩
      · cases he
  · obtain ⟨r, rfl, hR0, hR1, hC, hK⟩ := p3
    have g4 := (hK 47 (by omega)).trans ho
    refine r_i2l h rfl dL_line_7 ?_
    refine r_last h (i := 47) (by omega) g4 (x := 0) (by omega) (by decide) dL_line_8 (fun c5 h6 k7 => ?_)
    refine r_goto h 18 dL_line_9 (by decide) ?_
    refine r_iconst h (v := nI 0) (by decide) dL_line_18 ?_
    exact r_iret h hQ hr dL_line_19 ⟨by decide, by decide⟩ ⟨_, rfl, by rw [hR0], hC.mono (fun y hy => k7 y (by omega)), fun _ => ⟨_, h6, by rw [hR1]; exact upL_eq⟩, fun _ => ⟨_, h6⟩, fun z => z.elim (fun g hg => ⟨g, ((k7 48 (by omega)).trans (hK 48 (by omega))).trans hg⟩), fun y hy hy2 => (k7 y hy2).trans (hK y hy)⟩
theorem f_setLine_th (σ : St) (p0 p1 : Int32) : (f_setLine σ p0 p1).1 = 0 ∨ (f_setLine σ p0 p1).2.2 = σ := by
  unfold f_setLine opn
  (repeat' split) <;> (try dsimp only) <;> (repeat' split) <;> first | exact Or.inl rfl | exact Or.inr rfl
set_option maxRecDepth 100000 in
set_option maxHeartbeats 4000000 in
/-- L_setLine -/
theorem c_L_setLine {G : GG} {l : Launch} {c : CC} (hG : InjG G) (hl0 : l.stackTraces = false) {σ : St} (hc : Cls G c σ) {fo : Nat → Int64} (ho : c 47 = .inl (G.2.2.2 1, 1, .inr (.inl fo))) (p0 p1 : Int32) : MC G l yL_setLine (.codeWith yL_setLine cL_setLine 5 (some .int) [(0, 10, 13, 13), (0, 10, 17, 51)] :: gws) (rmF 9 8 48 162) [.ref (G.1 0), .int p0, .int p1, .ref (G.1 47)] c (pI (wQ G c (f_setLine σ p0 p1) (oI G) 47)) (pF) := by
  refine MC.ofH (by decide) hl0 hG (Nat.le_of_ble_eq_true rfl) (fun X hX h hN hQ hr => ?_)
  subst hX
  refine r_aload_n h 3 rfl rfl dL_setLine_0 ?_
  refine r_iconst h (v := nI 0) (by decide) dL_setLine_1 ?_
  refine r_aload_n h 0 rfl rfl dL_setLine_2 ?_
  refine r_iload_n h 1 rfl rfl dL_setLine_3 ?_
  refine r_iload_n h 2 rfl rfl dL_setLine_4 ?_
  refine r_cV h k_L_87 (i := 0) (As := [.int p0, .int p1]) (rest := [.int (nI 0), .ref (G.1 47)]) (c_X3_setLine h.i h.t hc p0 p1) (by omega) hc.o rfl rfl rfl (Nat.le_of_ble_eq_true rfl) ⟨by decide, by decide, by decide, by decide⟩ dL_setLine_5 (fun E hE => ?_) (fun v2 c1 p3 => ?_)
  · obtain ⟨e, he, hR⟩ := hE
    rcases e with _ | e
    · cases Option.some.inj he
      refine VX.catch (pre := []) (x := ⟨0, 10, 13, 13⟩) (suf := ⟨0, 10, 17, 51⟩ :: []) h (hN.trans rfl) (fun z hz => nomatch hz) (by decide) (by decide) C_L_13 (by decide +kernel) (fun q => ?_)
      refine r_astore h ([(4, .ref q), (0, .ref (G.1 0)), (1, .int p0), (2, .int p1), (3, .ref (G.1 47))]) dL_setLine_13 (by decide) rfl ?_
      refine r_iconst h (v := nI 1) (by decide) dL_setLine_15 ?_
      exact r_iret h hQ hr dL_setLine_16 ⟨by decide, by decide⟩ ⟨_, rfl, wQ.thrown (k := 0) hc hR (f_setLine_th σ p0 p1)⟩
    · rcases e with _ | e
      · cases Option.some.inj he
        refine VX.catch (pre := ⟨0, 10, 13, 13⟩ :: []) (x := ⟨0, 10, 17, 51⟩) (suf := []) h (hN.trans rfl) (fun z hz => by simp only [List.mem_cons, List.not_mem_nil, or_false] at hz; rcases hz with rfl <;> first | exact Or.inr ⟨by decide, _, C_L_13, by decide +kernel⟩) (by decide) (by decide) C_L_51 (by decide +kernel) (fun q => ?_)
        refine r_astore h ([(4, .ref q), (0, .ref (G.1 0)), (1, .int p0), (2, .int p1), (3, .ref (G.1 47))]) dL_setLine_17 (by decide) rfl ?_
        refine r_iconst h (v := nI 2) (by decide) dL_setLine_19 ?_
        exact r_iret h hQ hr dL_setLine_20 ⟨by decide, by decide⟩ ⟨_, rfl, wQ.thrown (k := 1) hc hR (f_setLine_th σ p0 p1)⟩
      · cases he
  · obtain ⟨r, rfl, hR0, hR1, hC, hK⟩ := p3
    have g4 := (hK 47 (by omega)).trans ho
    refine r_i2l h rfl dL_setLine_8 ?_
    refine r_last h (i := 47) (by omega) g4 (x := 0) (by omega) (by decide) dL_setLine_9 (fun c5 h6 k7 => ?_)
    refine r_goto h 21 dL_setLine_10 (by decide) ?_
    refine r_iconst h (v := nI 0) (by decide) dL_setLine_21 ?_
    exact r_iret h hQ hr dL_setLine_22 ⟨by decide, by decide⟩ ⟨_, rfl, by rw [hR0], hC.mono (fun y hy => k7 y (by omega)), fun _ => ⟨_, h6, by rw [hR1]; exact upL_eq⟩, fun _ => ⟨_, h6⟩, fun z => z.elim (fun g hg => ⟨g, ((k7 48 (by omega)).trans (hK 48 (by omega))).trans hg⟩), fun y hy hy2 => (k7 y hy2).trans (hK y hy)⟩
theorem f_check_th (σ : St) (p0 : Int32) : (f_check σ p0).1 = 0 ∨ (f_check σ p0).2.2 = σ := by
  unfold f_check opn
  (repeat' split) <;> (try dsimp only) <;> (repeat' split) <;> first | exact Or.inl rfl | exact Or.inr rfl
set_option maxRecDepth 100000 in
set_option maxHeartbeats 4000000 in
/-- L_check -/
theorem c_L_check {G : GG} {l : Launch} {c : CC} (hG : InjG G) (hl0 : l.stackTraces = false) {σ : St} (hc : Cls G c σ) {fo : Nat → Int64} (ho : c 47 = .inl (G.2.2.2 1, 1, .inr (.inl fo))) (p0 : Int32) : MC G l yL_check (.codeWith yL_check cL_check 4 (some .int) [(0, 8, 11, 13), (0, 8, 14, 51)] :: gws) (rmF 9 8 48 160) [.ref (G.1 0), .int p0, .ref (G.1 47)] c (pI (wQ G c (f_check σ p0) (oL G) 47)) (pF) := by
  refine MC.ofH (by decide) hl0 hG (Nat.le_of_ble_eq_true rfl) (fun X hX h hN hQ hr => ?_)
  subst hX
  refine r_aload_n h 2 rfl rfl dL_check_0 ?_
  refine r_iconst h (v := nI 0) (by decide) dL_check_1 ?_
  refine r_aload_n h 0 rfl rfl dL_check_2 ?_
  refine r_iload_n h 1 rfl rfl dL_check_3 ?_
  refine r_cV h k_L_90 (i := 0) (As := [.int p0]) (rest := [.int (nI 0), .ref (G.1 47)]) (c_X3_check h.i h.t hc p0) (by omega) hc.o rfl rfl rfl (Nat.le_of_ble_eq_true rfl) ⟨by decide, by decide, by decide, by decide⟩ dL_check_4 (fun E hE => ?_) (fun v2 c1 p3 => ?_)
  · obtain ⟨e, he, hR⟩ := hE
    rcases e with _ | e
    · cases Option.some.inj he
      refine VX.catch (pre := []) (x := ⟨0, 8, 11, 13⟩) (suf := ⟨0, 8, 14, 51⟩ :: []) h (hN.trans rfl) (fun z hz => nomatch hz) (by decide) (by decide) C_L_13 (by decide +kernel) (fun q => ?_)
      refine r_astore_n h ([(3, .ref q), (0, .ref (G.1 0)), (1, .int p0), (2, .ref (G.1 47))]) rfl dL_check_11 (by decide) rfl ?_
      refine r_iconst h (v := nI 1) (by decide) dL_check_12 ?_
      exact r_iret h hQ hr dL_check_13 ⟨by decide, by decide⟩ ⟨_, rfl, wQ.thrown (k := 0) hc hR (f_check_th σ p0)⟩
    · rcases e with _ | e
      · cases Option.some.inj he
        refine VX.catch (pre := ⟨0, 8, 11, 13⟩ :: []) (x := ⟨0, 8, 14, 51⟩) (suf := []) h (hN.trans rfl) (fun z hz => by simp only [List.mem_cons, List.not_mem_nil, or_false] at hz; rcases hz with rfl <;> first | exact Or.inr ⟨by decide, _, C_L_13, by decide +kernel⟩) (by decide) (by decide) C_L_51 (by decide +kernel) (fun q => ?_)
        refine r_astore_n h ([(3, .ref q), (0, .ref (G.1 0)), (1, .int p0), (2, .ref (G.1 47))]) rfl dL_check_14 (by decide) rfl ?_
        refine r_iconst h (v := nI 2) (by decide) dL_check_15 ?_
        exact r_iret h hQ hr dL_check_16 ⟨by decide, by decide⟩ ⟨_, rfl, wQ.thrown (k := 1) hc hR (f_check_th σ p0)⟩
      · cases he
  · obtain ⟨r, rfl, hR0, hR1, hC, hK⟩ := p3
    have g4 := (hK 47 (by omega)).trans ho
    refine r_last h (i := 47) (by omega) g4 (x := 0) (by omega) (by decide) dL_check_7 (fun c5 h6 k7 => ?_)
    refine r_goto h 17 dL_check_8 (by decide) ?_
    refine r_iconst h (v := nI 0) (by decide) dL_check_17 ?_
    exact r_iret h hQ hr dL_check_18 ⟨by decide, by decide⟩ ⟨_, rfl, by rw [hR0], hC.mono (fun y hy => k7 y (by omega)), fun _ => ⟨_, h6, by rw [hR1]; exact upL_eq⟩, fun _ => ⟨_, h6⟩, fun z => z.elim (fun g hg => ⟨g, ((k7 48 (by omega)).trans (hK 48 (by omega))).trans hg⟩), fun y hy hy2 => (k7 y hy2).trans (hK y hy)⟩
theorem f_checkAnew_th (σ : St) (p0 : Int32) : (f_checkAnew σ p0).1 = 0 ∨ (f_checkAnew σ p0).2.2 = σ := by
  unfold f_checkAnew opn
  (repeat' split) <;> (try dsimp only) <;> (repeat' split) <;> first | exact Or.inl rfl | exact Or.inr rfl
set_option maxRecDepth 100000 in
set_option maxHeartbeats 4000000 in
/-- L_checkAnew -/
theorem c_L_checkAnew {G : GG} {l : Launch} {c : CC} (hG : InjG G) (hl0 : l.stackTraces = false) {σ : St} (hc : Cls G c σ) {fo : Nat → Int64} (ho : c 47 = .inl (G.2.2.2 1, 1, .inr (.inl fo))) (p0 : Int32) : MC G l yL_checkAnew (.codeWith yL_checkAnew cL_checkAnew 4 (some .int) [(0, 8, 11, 13), (0, 8, 14, 51)] :: gws) (rmF 9 8 48 162) [.ref (G.1 0), .int p0, .ref (G.1 47)] c (pI (wQ G c (f_checkAnew σ p0) (oL G) 47)) (pF) := by
  refine MC.ofH (by decide) hl0 hG (Nat.le_of_ble_eq_true rfl) (fun X hX h hN hQ hr => ?_)
  subst hX
  refine r_aload_n h 2 rfl rfl dL_checkAnew_0 ?_
  refine r_iconst h (v := nI 0) (by decide) dL_checkAnew_1 ?_
  refine r_aload_n h 0 rfl rfl dL_checkAnew_2 ?_
  refine r_iload_n h 1 rfl rfl dL_checkAnew_3 ?_
  refine r_cV h k_L_94 (i := 0) (As := [.int p0]) (rest := [.int (nI 0), .ref (G.1 47)]) (c_X3_checkAnew h.i h.t hc p0) (by omega) hc.o rfl rfl rfl (Nat.le_of_ble_eq_true rfl) ⟨by decide, by decide, by decide, by decide⟩ dL_checkAnew_4 (fun E hE => ?_) (fun v2 c1 p3 => ?_)
  · obtain ⟨e, he, hR⟩ := hE
    rcases e with _ | e
    · cases Option.some.inj he
      refine VX.catch (pre := []) (x := ⟨0, 8, 11, 13⟩) (suf := ⟨0, 8, 14, 51⟩ :: []) h (hN.trans rfl) (fun z hz => nomatch hz) (by decide) (by decide) C_L_13 (by decide +kernel) (fun q => ?_)
      refine r_astore_n h ([(3, .ref q), (0, .ref (G.1 0)), (1, .int p0), (2, .ref (G.1 47))]) rfl dL_checkAnew_11 (by decide) rfl ?_
      refine r_iconst h (v := nI 1) (by decide) dL_checkAnew_12 ?_
      exact r_iret h hQ hr dL_checkAnew_13 ⟨by decide, by decide⟩ ⟨_, rfl, wQ.thrown (k := 0) hc hR (f_checkAnew_th σ p0)⟩
    · rcases e with _ | e
      · cases Option.some.inj he
        refine VX.catch (pre := ⟨0, 8, 11, 13⟩ :: []) (x := ⟨0, 8, 14, 51⟩) (suf := []) h (hN.trans rfl) (fun z hz => by simp only [List.mem_cons, List.not_mem_nil, or_false] at hz; rcases hz with rfl <;> first | exact Or.inr ⟨by decide, _, C_L_13, by decide +kernel⟩) (by decide) (by decide) C_L_51 (by decide +kernel) (fun q => ?_)
        refine r_astore_n h ([(3, .ref q), (0, .ref (G.1 0)), (1, .int p0), (2, .ref (G.1 47))]) rfl dL_checkAnew_14 (by decide) rfl ?_
        refine r_iconst h (v := nI 2) (by decide) dL_checkAnew_15 ?_
        exact r_iret h hQ hr dL_checkAnew_16 ⟨by decide, by decide⟩ ⟨_, rfl, wQ.thrown (k := 1) hc hR (f_checkAnew_th σ p0)⟩
      · cases he
  · obtain ⟨r, rfl, hR0, hR1, hC, hK⟩ := p3
    have g4 := (hK 47 (by omega)).trans ho
    refine r_last h (i := 47) (by omega) g4 (x := 0) (by omega) (by decide) dL_checkAnew_7 (fun c5 h6 k7 => ?_)
    refine r_goto h 17 dL_checkAnew_8 (by decide) ?_
    refine r_iconst h (v := nI 0) (by decide) dL_checkAnew_17 ?_
    exact r_iret h hQ hr dL_checkAnew_18 ⟨by decide, by decide⟩ ⟨_, rfl, by rw [hR0], hC.mono (fun y hy => k7 y (by omega)), fun _ => ⟨_, h6, by rw [hR1]; exact upL_eq⟩, fun _ => ⟨_, h6⟩, fun z => z.elim (fun g hg => ⟨g, ((k7 48 (by omega)).trans (hK 48 (by omega))).trans hg⟩), fun y hy hy2 => (k7 y hy2).trans (hK y hy)⟩
theorem f_checkOf_th (σ : St) (p0 : Int32) : (f_checkOf σ p0).1 = 0 ∨ (f_checkOf σ p0).2.2 = σ := by
  unfold f_checkOf
  (repeat' split) <;> (try dsimp only) <;> (repeat' split) <;> first | exact Or.inl rfl | exact Or.inr rfl
set_option maxRecDepth 100000 in
set_option maxHeartbeats 4000000 in
/-- L_checkOf -/
theorem c_L_checkOf {G : GG} {l : Launch} {c : CC} (hG : InjG G) (hl0 : l.stackTraces = false) {σ : St} (hc : Cls G c σ) {fo : Nat → Int64} (ho : c 47 = .inl (G.2.2.2 1, 1, .inr (.inl fo))) (p0 : Int32) : MC G l yL_checkOf (.codeWith yL_checkOf cL_checkOf 4 (some .int) [(0, 8, 11, 13)] :: gws) (rmF 8 8 48 141) [.ref (G.1 0), .int p0, .ref (G.1 47)] c (pI (wQ G c (f_checkOf σ p0) (oL G) 47)) (pF) := by
  refine MC.ofH (by decide) hl0 hG (Nat.le_of_ble_eq_true rfl) (fun X hX h hN hQ hr => ?_)
  subst hX
  refine r_aload_n h 2 rfl rfl dL_checkOf_0 ?_
  refine r_iconst h (v := nI 0) (by decide) dL_checkOf_1 ?_
  refine r_aload_n h 0 rfl rfl dL_checkOf_2 ?_
  refine r_iload_n h 1 rfl rfl dL_checkOf_3 ?_
  refine r_cV h k_L_97 (i := 0) (As := [.int p0]) (rest := [.int (nI 0), .ref (G.1 47)]) (c_X3_checkOf h.i h.t hc p0) (by omega) hc.o rfl rfl rfl (Nat.le_of_ble_eq_true rfl) ⟨by decide, by decide, by decide, by decide⟩ dL_checkOf_4 (fun E hE => ?_) (fun v2 c1 p3 => ?_)
  · obtain ⟨e, he, hR⟩ := hE
    rcases e with _ | e
    · cases Option.some.inj he
      refine VX.catch (pre := []) (x := ⟨0, 8, 11, 13⟩) (suf := []) h (hN.trans rfl) (fun z hz => nomatch hz) (by decide) (by decide) C_L_13 (by decide +kernel) (fun q => ?_)
      refine r_astore_n h ([(3, .ref q), (0, .ref (G.1 0)), (1, .int p0), (2, .ref (G.1 47))]) rfl dL_checkOf_11 (by decide) rfl ?_
      refine r_iconst h (v := nI 1) (by decide) dL_checkOf_12 ?_
      exact r_iret h hQ hr dL_checkOf_13 ⟨by decide, by decide⟩ ⟨_, rfl, wQ.thrown (k := 0) hc hR (f_checkOf_th σ p0)⟩
    · cases he
  · obtain ⟨r, rfl, hR0, hR1, hC, hK⟩ := p3
    have g4 := (hK 47 (by omega)).trans ho
    refine r_last h (i := 47) (by omega) g4 (x := 0) (by omega) (by decide) dL_checkOf_7 (fun c5 h6 k7 => ?_)
    refine r_goto h 14 dL_checkOf_8 (by decide) ?_
    refine r_iconst h (v := nI 0) (by decide) dL_checkOf_14 ?_
    exact r_iret h hQ hr dL_checkOf_15 ⟨by decide, by decide⟩ ⟨_, rfl, by rw [hR0], hC.mono (fun y hy => k7 y (by omega)), fun _ => ⟨_, h6, by rw [hR1]; exact upL_eq⟩, fun _ => ⟨_, h6⟩, fun z => z.elim (fun g hg => ⟨g, ((k7 48 (by omega)).trans (hK 48 (by omega))).trans hg⟩), fun y hy hy2 => (k7 y hy2).trans (hK y hy)⟩
theorem f_share_th (σ : St) (p0 : Int32) : (f_share σ p0).1 = 0 ∨ (f_share σ p0).2.2 = σ := by
  unfold f_share
  (repeat' split) <;> (try dsimp only) <;> (repeat' split) <;> first | exact Or.inl rfl | exact Or.inr rfl
set_option maxRecDepth 100000 in
set_option maxHeartbeats 4000000 in
/-- L_share -/
theorem c_L_share {G : GG} {l : Launch} {c : CC} (hG : InjG G) (hl0 : l.stackTraces = false) {σ : St} (hc : Cls G c σ) {fo : Nat → UInt64} (ho : c 48 = .inl (G.2.2.2 3, 1, .inr (.inr (.inr (.inl fo))))) (p0 : Int32) : MC G l yL_share (.codeWith yL_share cL_share 4 (some .int) [(0, 9, 12, 13), (0, 9, 15, 104)] :: gws) (rmF 8 8 48 138) [.ref (G.1 0), .int p0, .ref (G.1 48)] c (pI (wQ G c (f_share σ p0) (oF G) 48)) (pF) := by
  refine MC.ofH (by decide) hl0 hG (Nat.le_of_ble_eq_true rfl) (fun X hX h hN hQ hr => ?_)
  subst hX
  refine r_aload_n h 2 rfl rfl dL_share_0 ?_
  refine r_iconst h (v := nI 0) (by decide) dL_share_1 ?_
  refine r_aload_n h 0 rfl rfl dL_share_2 ?_
  refine r_iload_n h 1 rfl rfl dL_share_3 ?_
  refine r_cV h k_L_100 (i := 0) (As := [.int p0]) (rest := [.int (nI 0), .ref (G.1 48)]) (c_X3_share h.i h.t hc p0) (by omega) hc.o rfl rfl rfl (Nat.le_of_ble_eq_true rfl) ⟨by decide, by decide, by decide, by decide⟩ dL_share_4 (fun E hE => ?_) (fun v2 c1 p3 => ?_)
  · obtain ⟨e, he, hR⟩ := hE
    rcases e with _ | e
    · cases Option.some.inj he
      refine VX.catch (pre := []) (x := ⟨0, 9, 12, 13⟩) (suf := ⟨0, 9, 15, 104⟩ :: []) h (hN.trans rfl) (fun z hz => nomatch hz) (by decide) (by decide) C_L_13 (by decide +kernel) (fun q => ?_)
      refine r_astore_n h ([(3, .ref q), (0, .ref (G.1 0)), (1, .int p0), (2, .ref (G.1 48))]) rfl dL_share_12 (by decide) rfl ?_
      refine r_iconst h (v := nI 1) (by decide) dL_share_13 ?_
      exact r_iret h hQ hr dL_share_14 ⟨by decide, by decide⟩ ⟨_, rfl, wQ.thrown (k := 0) hc hR (f_share_th σ p0)⟩
    · rcases e with _ | e
      · cases Option.some.inj he
        refine VX.catch (pre := ⟨0, 9, 12, 13⟩ :: []) (x := ⟨0, 9, 15, 104⟩) (suf := []) h (hN.trans rfl) (fun z hz => by simp only [List.mem_cons, List.not_mem_nil, or_false] at hz; rcases hz with rfl <;> first | exact Or.inr ⟨by decide, _, C_L_13, by decide +kernel⟩) (by decide) (by decide) C_L_104 (by decide +kernel) (fun q => ?_)
        refine r_astore_n h ([(3, .ref q), (0, .ref (G.1 0)), (1, .int p0), (2, .ref (G.1 48))]) rfl dL_share_15 (by decide) rfl ?_
        refine r_iconst h (v := nI 2) (by decide) dL_share_16 ?_
        exact r_iret h hQ hr dL_share_17 ⟨by decide, by decide⟩ ⟨_, rfl, wQ.thrown (k := 1) hc hR (f_share_th σ p0)⟩
      · cases he
  · obtain ⟨r, rfl, hR0, hR1, hC, hK⟩ := p3
    have g4 := (hK 48 (by omega)).trans ho
    refine r_f2d h (n64_of (f2d_ok (f_share_fin (fun j hj => (hc.rl hj).1) hR0 hR1))) dL_share_7 ?_
    refine r_dast h (i := 48) (by omega) g4 (x := 0) (by omega) (by decide) dL_share_8 (fun c5 h6 k7 => ?_)
    refine r_goto h 18 dL_share_9 (by decide) ?_
    refine r_iconst h (v := nI 0) (by decide) dL_share_18 ?_
    exact r_iret h hQ hr dL_share_19 ⟨by decide, by decide⟩ ⟨_, rfl, by rw [hR0], hC.mono (fun y hy => k7 y (by omega)), fun _ => ⟨_, h6, by rw [hR1]; exact vf_eq⟩, fun z => z.elim (fun g hg => ⟨g, ((k7 47 (by omega)).trans (hK 47 (by omega))).trans hg⟩), fun _ => ⟨_, h6⟩, fun y hy hy2 => (k7 y hy2).trans (hK y hy)⟩
theorem f_meanLine_th (σ : St) : (f_meanLine σ).1 = 0 ∨ (f_meanLine σ).2.2 = σ := by
  unfold f_meanLine
  (repeat' split) <;> (try dsimp only) <;> (repeat' split) <;> first | exact Or.inl rfl | exact Or.inr rfl
set_option maxRecDepth 100000 in
set_option maxHeartbeats 4000000 in
/-- L_meanLine -/
theorem c_L_meanLine {G : GG} {l : Launch} {c : CC} (hG : InjG G) (hl0 : l.stackTraces = false) {σ : St} (hc : Cls G c σ) {fo : Nat → UInt64} (ho : c 48 = .inl (G.2.2.2 3, 1, .inr (.inr (.inr (.inl fo))))) : MC G l yL_meanLine (.codeWith yL_meanLine cL_meanLine 3 (some .int) [(0, 7, 10, 104)] :: gws) (rmF 7 8 48 119) [.ref (G.1 0), .ref (G.1 48)] c (pI (wQ G c (f_meanLine σ) (oD G) 48)) (pF) := by
  refine MC.ofH (by decide) hl0 hG (Nat.le_of_ble_eq_true rfl) (fun X hX h hN hQ hr => ?_)
  subst hX
  refine r_aload_n h 1 rfl rfl dL_meanLine_0 ?_
  refine r_iconst h (v := nI 0) (by decide) dL_meanLine_1 ?_
  refine r_aload_n h 0 rfl rfl dL_meanLine_2 ?_
  refine r_cV h k_L_106 (i := 0) (As := []) (rest := [.int (nI 0), .ref (G.1 48)]) (c_X3_meanLine h.i h.t hc) (by omega) hc.o rfl rfl rfl (Nat.le_of_ble_eq_true rfl) ⟨by decide, by decide, by decide, by decide⟩ dL_meanLine_3 (fun E hE => ?_) (fun v2 c1 p3 => ?_)
  · obtain ⟨e, he, hR⟩ := hE
    rcases e with _ | e
    · cases Option.some.inj he
      refine VX.catch (pre := []) (x := ⟨0, 7, 10, 104⟩) (suf := []) h (hN.trans rfl) (fun z hz => nomatch hz) (by decide) (by decide) C_L_104 (by decide +kernel) (fun q => ?_)
      refine r_astore_n h ([(2, .ref q), (0, .ref (G.1 0)), (1, .ref (G.1 48))]) rfl dL_meanLine_10 (by decide) rfl ?_
      refine r_iconst h (v := nI 1) (by decide) dL_meanLine_11 ?_
      exact r_iret h hQ hr dL_meanLine_12 ⟨by decide, by decide⟩ ⟨_, rfl, wQ.thrown (k := 0) hc hR (f_meanLine_th σ)⟩
    · cases he
  · obtain ⟨r, rfl, hR0, hR1, hC, hK⟩ := p3
    have g4 := (hK 48 (by omega)).trans ho
    refine r_dast h (i := 48) (by omega) g4 (x := 0) (by omega) (by decide) dL_meanLine_6 (fun c5 h6 k7 => ?_)
    refine r_goto h 13 dL_meanLine_7 (by decide) ?_
    refine r_iconst h (v := nI 0) (by decide) dL_meanLine_13 ?_
    exact r_iret h hQ hr dL_meanLine_14 ⟨by decide, by decide⟩ ⟨_, rfl, by rw [hR0], hC.mono (fun y hy => k7 y (by omega)), fun _ => ⟨_, h6, by rw [hR1]; exact vf_eq⟩, fun z => z.elim (fun g hg => ⟨g, ((k7 47 (by omega)).trans (hK 47 (by omega))).trans hg⟩), fun _ => ⟨_, h6⟩, fun y hy hy2 => (k7 y hy2).trans (hK y hy)⟩
