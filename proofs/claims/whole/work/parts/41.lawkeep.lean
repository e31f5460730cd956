/-! THE LAW'S LOOP: what it keeps, and small numbers -/
def LI (G : GG) (c : CC) (σ : St) : Prop := Cls G c σ ∧ (∃ th : Int32, Mdl G c σ th) ∧ okM σ ∧ (∃ fo : Nat → Int64, c 47 = .inl (G.2.2.2 1, 1, .inr (.inl fo))) ∧ ∃ fo : Nat → UInt64, c 48 = .inl (G.2.2.2 3, 1, .inr (.inr (.inr (.inl fo))))
theorem LI.next {β : Type} {G : GG} {c c1 c2 : CC} {σ : St} {R : Nat × β × St} {O : CC → β → Prop} {a : Nat} {r1 : Int32} {r2 : β} (h : LI G c σ) (hw : wQ G c R O a r1 c1) (hq : mQ G c1 R r2 c2) : LI G c2 R.2.2 := by
  obtain ⟨w1, w2, w3, w4, w5, w6⟩ := hw
  obtain ⟨q1, q2, q3, q4⟩ := hq
  obtain ⟨f, hf⟩ := w4 h.2.2.2.1
  obtain ⟨g, hg⟩ := w5 h.2.2.2.2
  exact ⟨w2.mono (fun y hy => q4 y (Or.inl hy)), ⟨_, q2⟩, q3, ⟨f, (q4 47 (Or.inr (by omega))).trans hf⟩, ⟨g, (q4 48 (Or.inr (by omega))).trans hg⟩⟩
theorem LI.mdl {β : Type} {G : GG} {c c1 : CC} {σ : St} {R : Nat × β × St} {O : CC → β → Prop} {a : Nat} {r1 : Int32} (h : LI G c σ) (ha : a = 47 ∨ a = 48) (hw : wQ G c R O a r1 c1) : ∃ th : Int32, Mdl G c1 σ th := by
  obtain ⟨th, hm⟩ := h.2.1
  exact ⟨th, hm.keep (fun y h1 h2 => hw.2.2.2.2.2 y h1 (by omega))⟩
theorem oL.keep {G : GG} {c c' : CC} {v : Int64} (h : oL G c v) (k : c' 47 = c 47) : oL G c' v := by
  obtain ⟨f, a, b⟩ := h
  exact ⟨f, k.trans a, b⟩
theorem oD.keep {G : GG} {c c' : CC} {v : UInt64} (h : oD G c v) (k : c' 48 = c 48) : oD G c' v := by
  obtain ⟨f, a, b⟩ := h
  exact ⟨f, k.trans a, b⟩
theorem dc_self {x : UInt64} (h : FP.Core.dIsNaN x = false) : Op.cmpValue (FP.dcmp x x) .l = 0 := by
  rw [show FP.dcmp x x = some .eq from FP.Core.dcmp_self ((FP.Core.notNaN_iff x).mp h)]
  rfl
theorem f_meanLine_fin {σ : St} {r : UInt64} (h0 : (f_meanLine σ).1 = 0) (h1 : (f_meanLine σ).2.1 = r) : FP.Core.dIsNaN r = false := by
  unfold f_meanLine at h0 h1
  by_cases q : mlC σ.2.2 4 = 0
  · rw [if_pos q] at h0
    exact absurd (show (1 : Nat) = 0 from h0) (by decide)
  · rw [if_neg q] at h1
    rw [← h1]
    refine ddiv_ok _ (Nat.pos_of_ne_zero q) ?_
    have h4 : ∀ j : Nat, mlC σ.2.2 j ≤ j := by
      intro j
      induction j with
      | zero => exact Nat.le_refl _
      | succ j ih =>
        show (if hasL (sK (σ.2.2 j)) = true then mlC σ.2.2 j + 1 else mlC σ.2.2 j) ≤ j + 1
        split <;> omega
    have := h4 4
    omega
theorem and31 (x : Int32) : ∃ j : Nat, j < 32 ∧ x &&& nI 31 = nI j := by
  obtain ⟨n, hn, rfl⟩ := wb_of32 x
  refine ⟨n % 32, Nat.mod_lt _ (by omega), ?_⟩
  apply Int32.toBitVec_inj.mp
  rw [Int32.toBitVec_and]
  show BitVec.ofNat 32 n &&& BitVec.ofNat 32 31 = BitVec.ofNat 32 (n % 32)
  apply BitVec.eq_of_toNat_eq
  rw [BitVec.toNat_and, BitVec.toNat_ofNat, BitVec.toNat_ofNat, BitVec.toNat_ofNat, Nat.mod_eq_of_lt hn, Nat.mod_eq_of_lt (show 31 < 2 ^ 32 by omega), Nat.mod_eq_of_lt (show n % 32 < 2 ^ 32 by omega), show (31 : Nat) = 2 ^ 5 - 1 from rfl, Nat.and_two_pow_sub_one_eq_mod]
theorem head_low : ∀ L : Nat, L < 5 → ∀ i : Nat, i < 5 → nI L - nI 5 < nI i := by decide +kernel
theorem head_cmp {i L : Nat} (hL : L ≤ 2560) (hi : i ≤ L) : nI L - nI 5 < nI i ↔ L < i + 5 := by
  rcases Nat.lt_or_ge L 5 with q | q
  · exact ⟨fun _ => by omega, fun _ => head_low L q i (by omega)⟩
  · rw [pk_sub (a := L) (b := 5) q, nI_ltI (by omega) (by omega)]
    omega
def Scr (G : GG) (X : CX) (b L : Nat) (scr : Nat → Int32) : Prop := va_X b L scr (xs X) (xs X).heap ∧ b < (xs X).heap.size ∧ ¬ gA G (xs X).heap.size b ∧ L ≤ 2560
section LROWS
variable {G : GG} {X : CX} {own : String} {cc : ByteArray} {nL : Nat} {rm : Room} {c : CC} {lv : LV} {k n pc : Nat} {st : List Value} {b L : Nat} {scr : Nat → Int32}
theorem V.widen {k' n' : Nat} (h1 : k ≤ k') (h2 : n ≤ n') (kk : V G X c lv k' n' pc st) : V G X c lv k n pc st := fun H locs ls hP hS hl => W.widen h1 h2 (kk H locs ls hP hS hl)
theorem r_sld (h : Ok G X own cc nL rm) (hS : Scr G X b L scr) {x : Nat} (hx : x < L) (d : decode cc pc = .ok (.iaload, 1)) (kk : V G X c lv k n (pc + 1) (.int (scr x) :: st)) : V G X c lv k n pc (.int (nI x) :: .ref b :: st) := fun H locs ls hP hs hl => va_sld h.x h.b hS.1 hS.2.1 hS.2.2.1 hs (vp_in_nI hx (by have := hS.2.2.2; omega)) d (by rw [nI_clamp (by have := hS.2.2.2; omega)]; exact kk H locs ls hP hs hl)
theorem r_slen (h : Ok G X own cc nL rm) (hS : Scr G X b L scr) (d : decode cc pc = .ok (.arraylength, 1)) (kk : V G X c lv k n (pc + 1) (.int (nI L) :: st)) : V G X c lv k n pc (.ref b :: st) := fun H locs ls hP hs hl => va_slen h.x h.b hS.1 hS.2.1 hS.2.2.1 hs d (kk H locs ls hP hs hl)
end LROWS
