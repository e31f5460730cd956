/-! STREAMS, the mathematics: (kind, out, seam, place, line number, register, mark) -/
abbrev Stm : Type := Int32 × List Int32 × Nat × Nat × Int32 × Int64 × Option (Nat × Int32)
abbrev sK (t : Stm) : Int32 := t.1
abbrev sO (t : Stm) : List Int32 := t.2.1
abbrev sM (t : Stm) : Nat := t.2.2.1
abbrev sP (t : Stm) : Nat := t.2.2.2.1
abbrev sN (t : Stm) : Int32 := t.2.2.2.2.1
abbrev sG (t : Stm) : Int64 := t.2.2.2.2.2.1
abbrev sX (t : Stm) : Option (Nat × Int32) := t.2.2.2.2.2.2
def isB (x : Int32) : Prop := ∃ k : Nat, k < 256 ∧ x = nI k
def allB (l : List Int32) : Prop := ∀ j : Nat, j < l.length → isB (l.getD j 0)
def okR (g : Int64) : Prop := ∃ m : Nat, m < 4294967296 ∧ g = lN m
theorem isB_ne {x : Int32} (h : isB x) : ¬ x = -1 := by
  obtain ⟨k, hk, rfl⟩ := h
  intro q
  have h1 : (nI k).toInt = (k : Int) := nI_toInt (by omega)
  rw [q] at h1
  have h2 : (-1 : Int32).toInt = -1 := by decide
  omega
theorem hlf_lN {m : Nat} (h : m < 4294967296) : hlf (lN m) = lN (m / 2) := by
  unfold hlf
  rw [wb_shr (k := 1) (by omega) (by decide)]
theorem wb1_lN {m : Nat} (h : m < 4294967296) : wb1 (lN m) = lN (if m % 2 = 0 then m / 2 else (m / 2) ^^^ 2197175160) := by
  have ha : lN m &&& 1 = lN (m % 2) := wb_a1 (by omega)
  unfold wb1
  rw [ha, hlf_lN h]
  by_cases hm : m % 2 = 0
  · rw [hm, if_pos rfl, if_pos (by decide)]
  · rw [show m % 2 = 1 by omega, if_neg (by decide), if_neg (by decide)]
    exact lN_xor _ _
theorem xor_lt {a b : Nat} (ha : a < 4294967296) (hb : b < 4294967296) : a ^^^ b < 4294967296 := Nat.xor_lt_two_pow (n := 32) ha hb
theorem wb1_ok {g : Int64} (h : okR g) : okR (wb1 g) := by
  obtain ⟨m, hm, rfl⟩ := h
  rw [wb1_lN hm]
  refine ⟨_, ?_, rfl⟩
  split
  · omega
  · exact xor_lt (by omega) (by decide)
theorem wbi_ok : ∀ (n : Nat) {g : Int64}, okR g → okR (wbi n g)
  | 0, _, h => h
  | n + 1, _, h => wb1_ok (wbi_ok n h)
theorem nI_toL {k : Nat} (hk : k < 256) : (nI k).toInt64 = lN k := nI_l (by omega)
theorem wb_ok {g : Int64} {x : Int32} (h : okR g) (hx : isB x) : okR (wb g x) := by
  obtain ⟨m, hm, rfl⟩ := h
  obtain ⟨k, hk, rfl⟩ := hx
  unfold wb
  refine wbi_ok 8 ⟨m ^^^ k, xor_lt hm (by omega), ?_⟩
  rw [nI_toL hk, lN_xor]
def okS (t : Stm) : Prop := sP t ≤ (sO t).length ∧ allB (sO t) ∧ okR (sG t) ∧ sM t ≤ (sO t).length ∧ ∀ (p : Nat) (n : Int32), sX t = some (p, n) → p ≤ (sO t).length
def seC (K : Int32) (M : Nat) : Nat := if K = nI 4 ∨ K = nI 7 then M else 0
def mkA (K : Int32) (mk : Option (Nat × Int32)) (mp ml : Int32) : Prop := match mk with
  | some (p, n) => mp = nI p ∧ ml = n
  | none => mp = (if gbU K = true then nI 0 else -1) ∧ ml = nI 0
/-- the stream at the place i of the index: its object, its row OUT behind it -/
def StrAt (G : GG) (c : CC) (i : Nat) (t : Stm) : Prop := okS t ∧ RowAt G c (i + 1) (sO t) ∧ ∃ (rg : Int64) (mp ml : Int32), c i = .inr (3, [.ref (G.1 (i + 1)), .int (sK t), .int (nI (seC (sK t) (sM t))), .int (nI (sP t)), .int (sN t), .long rg, .int mp, .int ml]) ∧ (hasC (sK t) = true → rg = sG t) ∧ (sK t = -1 ∨ mkA (sK t) (sX t) mp ml)
theorem StrAt.mono {G : GG} {c c' : CC} {i : Nat} {t : Stm} (h : StrAt G c i t) (h0 : c' i = c i) (h1 : c' (i + 1) = c (i + 1)) (h2 : c' (i + 2) = c (i + 2)) : StrAt G c' i t := by
  obtain ⟨a, b, rg, mp, ml, d, e, f⟩ := h
  exact ⟨a, b.mono h1 h2, rg, mp, ml, h0.trans d, e, f⟩
theorem StrAt.obj {G : GG} {c : CC} {i : Nat} {t : Stm} (h : StrAt G c i t) : ∃ fs : List Value, c i = .inr (3, fs) := by
  obtain ⟨a, b, rg, mp, ml, d, e, f⟩ := h
  exact ⟨_, d⟩
def pNx (t : Stm) : Stm := if sP t < (sO t).length then (sK t, sO t, sM t, sP t + 1, (if (sO t).getD (sP t) 0 = nI 10 then sN t + nI 1 else sN t), wb (sG t) ((sO t).getD (sP t) 0), sX t) else t
def nxA (t : Stm) : Int32 := if sP t < (sO t).length then (sO t).getD (sP t) 0 else -1
def pPn : Nat → Stm → Stm
  | 0, t => t
  | n + 1, t => pNx (pPn n t)
theorem pNx_K (t : Stm) : sK (pNx t) = sK t := by unfold pNx; split <;> rfl
theorem pNx_O (t : Stm) : sO (pNx t) = sO t := by unfold pNx; split <;> rfl
theorem pNx_M (t : Stm) : sM (pNx t) = sM t := by unfold pNx; split <;> rfl
theorem pNx_X (t : Stm) : sX (pNx t) = sX t := by unfold pNx; split <;> rfl
theorem pNx_P {t : Stm} (h : sP t < (sO t).length) : sP (pNx t) = sP t + 1 := by unfold pNx; rw [if_pos h]
theorem pPn_K (t : Stm) : ∀ n : Nat, sK (pPn n t) = sK t
  | 0 => rfl
  | n + 1 => (pNx_K _).trans (pPn_K t n)
theorem pPn_O (t : Stm) : ∀ n : Nat, sO (pPn n t) = sO t
  | 0 => rfl
  | n + 1 => (pNx_O _).trans (pPn_O t n)
theorem pPn_M (t : Stm) : ∀ n : Nat, sM (pPn n t) = sM t
  | 0 => rfl
  | n + 1 => (pNx_M _).trans (pPn_M t n)
theorem pPn_X (t : Stm) : ∀ n : Nat, sX (pPn n t) = sX t
  | 0 => rfl
  | n + 1 => (pNx_X _).trans (pPn_X t n)
theorem pPn_P (t : Stm) : ∀ n : Nat, sP t + n ≤ (sO t).length → sP (pPn n t) = sP t + n
  | 0, _ => rfl
  | n + 1, h => by
    have e := pPn_P t n (by omega)
    show sP (pNx (pPn n t)) = _
    rw [pNx_P (by rw [e, pPn_O]; omega), e]
    rfl
theorem okS_nx {t : Stm} (h : okS t) : okS (pNx t) := by
  unfold pNx
  by_cases q : sP t < (sO t).length
  · rw [if_pos q]
    exact ⟨q, h.2.1, wb_ok h.2.2.1 (h.2.1 _ q), h.2.2.2.1, h.2.2.2.2⟩
  · rw [if_neg q]
    exact h
theorem StrAt.nx {G : GG} {c' : CC} {i : Nat} {K : Int32} {O : List Int32} {M P : Nat} {N : Int32} {g : Int64} {mk : Option (Nat × Int32)} {rg' : Int64} {N' mp ml : Int32} (hok : okS (K, O, M, P, N, g, mk)) (hlt : P < O.length) (hrow : RowAt G c' (i + 1) O) (h0 : c' i = .inr (3, [.ref (G.1 (i + 1)), .int K, .int (nI (seC K M)), .int (nI (P + 1)), .int N', .long rg', .int mp, .int ml])) (hN : (if O.getD P 0 = nI 10 then N + nI 1 else N) = N') (hrg : hasC K = true → rg' = wb g (O.getD P 0)) (hmk : K = -1 ∨ mkA K mk mp ml) : StrAt G c' i (pNx (K, O, M, P, N, g, mk)) := by
  have e : pNx (K, O, M, P, N, g, mk) = (K, O, M, P + 1, (if O.getD P 0 = nI 10 then N + nI 1 else N), wb g (O.getD P 0), mk) := if_pos hlt
  have o := okS_nx hok
  rw [e] at o ⊢
  exact ⟨o, hrow, rg', mp, ml, by rw [hN]; exact h0, hrg, hmk⟩
/-- how many stand ahead of the first 10 -/
def nl : List Int32 → Nat
  | [] => 0
  | x :: xs => if x = nI 10 then 0 else nl xs + 1
theorem nl_le : ∀ l : List Int32, nl l ≤ l.length
  | [] => Nat.le_refl 0
  | x :: xs => by
    have := nl_le xs
    unfold nl
    split
    · omega
    · simp only [List.length_cons]
      omega
theorem drop_get {l : List Int32} {j : Nat} (h : j < l.length) : l.drop j = l.getD j 0 :: l.drop (j + 1) := by
  rw [List.drop_eq_getElem_cons h, List.getD_eq_getElem?_getD, List.getElem?_eq_getElem h]
  rfl
theorem nl_yes {l : List Int32} {j : Nat} (h : j < l.length) (q : l.getD j 0 = nI 10) : nl (l.drop j) = 0 := by
  rw [drop_get h, nl, if_pos q]
theorem nl_no {l : List Int32} {j : Nat} (h : j < l.length) (q : ¬ l.getD j 0 = nI 10) : nl (l.drop j) = nl (l.drop (j + 1)) + 1 := by
  rw [drop_get h, nl, if_neg q]
theorem nl_end {l : List Int32} {j : Nat} (h : l.length ≤ j) : nl (l.drop j) = 0 := by
  rw [List.drop_eq_nil_of_le h]
  rfl
theorem getD_drop {l : List Int32} {a j : Nat} : (l.drop a).getD j 0 = l.getD (a + j) 0 := by
  rw [List.getD_eq_getElem?_getD, List.getD_eq_getElem?_getD, List.getElem?_drop]
theorem nx_at {t : Stm} {j : Nat} (h : sP t + j < (sO t).length) : nxA (pPn j t) = (sO t).getD (sP t + j) 0 := by
  have e := pPn_P t j (by omega)
  unfold nxA
  rw [e, pPn_O, if_pos h]
def pTk (m : Nat) (t : Stm) : Nat := min m (if sP t < seC (sK t) (sM t) then seC (sK t) (sM t) - sP t else (sO t).length - sP t)
def pMk (t : Stm) : Stm := (sK t, sO t, sM t, sP t, sN t, sG t, some (sP t, sN t))
/-- where 'back' brings a stream -/
def pBp (t : Stm) : Option (Nat × Int32) := match sX t with
  | some q => some q
  | none => if gbU (sK t) = true then some (0, nI 0) else none
theorem pBp_ok {K : Int32} {O : List Int32} {M P : Nat} {N : Int32} {g : Int64} {mk : Option (Nat × Int32)} {p : Nat} {n mp ml : Int32} (h : pBp (K, O, M, P, N, g, mk) = some (p, n)) (hm : mkA K mk mp ml) (ho : okS (K, O, M, P, N, g, mk)) : nI p = mp ∧ n = ml ∧ p ≤ O.length := by
  unfold pBp at h
  cases mk with
  | some q =>
    obtain ⟨a, b⟩ := q
    cases h
    exact ⟨hm.1.symm, hm.2.symm, ho.2.2.2.2 _ _ rfl⟩
  | none =>
    dsimp only at h
    by_cases q : gbU K = true
    · rw [if_pos q] at h
      cases h
      have h1 := hm.1
      rw [if_pos q] at h1
      exact ⟨h1.symm, hm.2.symm, Nat.zero_le _⟩
    · rw [if_neg q] at h
      cases h
def fpK (K : Int32) (A : List Int32) : List Int32 := if isLi K = true then lnT (-1) A A.length else A
def outK (K : Int32) (A B : List Int32) : List Int32 := if K = nI 4 then fpK K A ++ B else if K = nI 5 then fpK K A ++ lnT (atP A (nI A.length - nI 1)) B B.length else if K = nI 7 then fpK K A ++ lnT (-1) B B.length else fpK K A
def pOp (K : Int32) (A B : List Int32) : Stm := (K, outK K A B, (fpK K A).length, 0, nI 0, 4294967295, none)
theorem fpK_len (K : Int32) (A : List Int32) : (fpK K A).length ≤ A.length := by
  unfold fpK
  split
  · exact lnT_len _ _ _
  · exact Nat.le_refl _
theorem allB_nil : allB [] := fun j hj => absurd hj (Nat.not_lt_zero j)
theorem allB_app {a b : List Int32} (ha : allB a) (hb : allB b) : allB (a ++ b) := by
  intro j hj
  rw [List.length_append] at hj
  rw [List.getD_eq_getElem?_getD]
  by_cases q : j < a.length
  · rw [List.getElem?_append_left q, ← List.getD_eq_getElem?_getD]
    exact ha j q
  · rw [List.getElem?_append_right (Nat.le_of_not_lt q), ← List.getD_eq_getElem?_getD]
    exact hb _ (by omega)
theorem allB_one {x : Int32} (h : isB x) : allB [x] := by
  intro j hj
  have : j = 0 := by
    have : j < 1 := hj
    omega
  subst this
  exact h
theorem isB_lin1 {x p : Int32} (h : isB x) (hn : ¬ lin1 x p = -1) : isB (lin1 x p) := by
  unfold lin1 at hn ⊢
  split
  · exact ⟨10, by decide, rfl⟩
  · rename_i q
    rw [if_neg q] at hn
    split
    · rename_i z
      rw [if_pos z] at hn
      exact absurd rfl hn
    · exact h
theorem allB_lnT {p : Int32} {l : List Int32} (h : allB l) : ∀ j : Nat, j ≤ l.length → allB (lnT p l j)
  | 0, _ => allB_nil
  | j + 1, hj => by
    have ih := allB_lnT (p := p) h j (by omega)
    show allB (lnS (lnT p l j) (lin1 (l.getD j 0) (if j = 0 then p else l.getD (j - 1) 0)))
    generalize (if j = 0 then p else l.getD (j - 1) 0) = g
    unfold lnS
    split
    · exact ih
    · rename_i q
      exact allB_app ih (allB_one (isB_lin1 (h j (by omega)) q))
theorem allB_fpK {K : Int32} {A : List Int32} (h : allB A) : allB (fpK K A) := by
  unfold fpK
  split
  · exact allB_lnT h _ (Nat.le_refl _)
  · exact h
theorem allB_outK {K : Int32} {A B : List Int32} (ha : allB A) (hb : allB B) : allB (outK K A B) := by
  unfold outK
  split
  · exact allB_app (allB_fpK ha) hb
  · split
    · exact allB_app (allB_fpK ha) (allB_lnT hb _ (Nat.le_refl _))
    · split
      · exact allB_app (allB_fpK ha) (allB_lnT hb _ (Nat.le_refl _))
      · exact allB_fpK ha
theorem fp_le_out (K : Int32) (A B : List Int32) : (fpK K A).length ≤ (outK K A B).length := by
  unfold outK
  split
  · rw [List.length_append]; omega
  · split
    · rw [List.length_append]; omega
    · split
      · rw [List.length_append]; omega
      · exact Nat.le_refl _
theorem okR_0 : okR 4294967295 := ⟨4294967295, by decide, by decide⟩
theorem okS_op {K : Int32} {A B : List Int32} (ha : allB A) (hb : allB B) : okS (pOp K A B) := ⟨Nat.zero_le _, allB_outK ha hb, okR_0, fp_le_out K A B, fun p n e => by cases e⟩
