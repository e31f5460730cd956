/-! THE TRIAL: what is due of two rows, told by looking ahead; it is what a stream tells by looking behind -/
def dS (as : Bool) (x y : Int32) : List Int32 := if as = true ∧ x = nI 13 then (if y = nI 10 then [] else [nI 10]) else [x]
def dF (as : Bool) (g : Nat → Int32) (m : Nat) : Nat → List Int32
  | 0 => []
  | j + 1 => dF as g m j ++ dS as (g j) (if j + 1 < m then g (j + 1) else -1)
theorem dS_len (as : Bool) (x y : Int32) : (dS as x y).length ≤ 1 := by
  unfold dS
  split
  · split
    · exact Nat.zero_le _
    · exact Nat.le_refl _
  · exact Nat.le_refl _
theorem dF_len (as : Bool) (g : Nat → Int32) (m : Nat) : ∀ j : Nat, (dF as g m j).length ≤ j
  | 0 => Nat.le_refl 0
  | j + 1 => by
    show (dF as g m j ++ dS as (g j) _).length ≤ _
    rw [List.length_append]
    have := dF_len as g m j
    have := dS_len as (g j) (if j + 1 < m then g (j + 1) else -1)
    omega
def lnF (g : Nat → Int32) (p : Int32) : Nat → List Int32
  | 0 => []
  | j + 1 => lnS (lnF g p j) (lin1 (g j) (if j = 0 then p else g (j - 1)))
theorem lnF_T (p : Int32) (l : List Int32) : ∀ j : Nat, lnF (fun i => l.getD i 0) p j = lnT p l j
  | 0 => rfl
  | j + 1 => by
    show lnS (lnF _ p j) _ = lnS (lnT p l j) _
    rw [lnF_T p l j]
theorem lnF_c {g k : Nat → Int32} {p : Int32} : ∀ j : Nat, (∀ i : Nat, i < j → g i = k i) → lnF g p j = lnF k p j
  | 0, _ => rfl
  | j + 1, h => by
    show lnS (lnF g p j) (lin1 (g j) (if j = 0 then p else g (j - 1))) = lnS (lnF k p j) (lin1 (k j) (if j = 0 then p else k (j - 1)))
    rw [lnF_c j (fun i hi => h i (by omega)), h j (by omega)]
    by_cases q : j = 0
    · rw [if_pos q, if_pos q]
    · rw [if_neg q, if_neg q, h (j - 1) (by omega)]
theorem lnS_app (a b : List Int32) (x : Int32) : lnS (a ++ b) x = a ++ lnS b x := by
  unfold lnS
  split
  · rfl
  · rw [List.append_assoc]
theorem lnF_add (g : Nat → Int32) (p : Int32) (a : Nat) : ∀ j : Nat, lnF g p (a + j) = lnF g p a ++ lnF (fun i => g (a + i)) (if a = 0 then p else g (a - 1)) j
  | 0 => (List.append_nil _).symm
  | j + 1 => by
    show lnS (lnF g p (a + j)) (lin1 (g (a + j)) (if a + j = 0 then p else g (a + j - 1))) = lnF g p a ++ lnS (lnF (fun i => g (a + i)) (if a = 0 then p else g (a - 1)) j) (lin1 (g (a + j)) (if j = 0 then (if a = 0 then p else g (a - 1)) else g (a + (j - 1))))
    rw [lnF_add g p a j, lnS_app]
    congr 3
    by_cases q : j = 0
    · subst q
      rw [if_pos rfl]
      rfl
    · rw [if_neg q, if_neg (by omega), show a + j - 1 = a + (j - 1) by omega]
def pnd (g : Nat → Int32) (m j : Nat) : List Int32 := if 0 < j ∧ j < m ∧ g (j - 1) = nI 13 ∧ g j = nI 10 then [nI 10] else []
theorem pnd_no {g : Nat → Int32} {m j : Nat} (h : ¬ (0 < j ∧ j < m ∧ g (j - 1) = nI 13 ∧ g j = nI 10)) : pnd g m j = [] := if_neg h
theorem pnd_yes {g : Nat → Int32} {m j : Nat} (h : 0 < j ∧ j < m ∧ g (j - 1) = nI 13 ∧ g j = nI 10) : pnd g m j = [nI 10] := if_pos h
theorem dS_n {as : Bool} {x y : Int32} (h : ¬ (as = true ∧ x = nI 13)) : dS as x y = [x] := if_neg h
theorem dS_y {as : Bool} {x y : Int32} (h : as = true ∧ x = nI 13) (q : y = nI 10) : dS as x y = [] := (if_pos h).trans (if_pos q)
theorem dS_z {as : Bool} {x y : Int32} (h : as = true ∧ x = nI 13) (q : ¬ y = nI 10) : dS as x y = [nI 10] := (if_pos h).trans (if_neg q)
theorem l1_13 {x p : Int32} (h : x = nI 13) : lin1 x p = nI 10 := if_pos h
theorem l1_m1 {x p : Int32} (h : x = nI 10) (q : p = nI 13) : lin1 x p = -1 := (if_neg (by rw [h]; decide)).trans (if_pos ⟨h, q⟩)
theorem l1_x {x p : Int32} (h : ¬ x = nI 13) (q : ¬ (x = nI 10 ∧ p = nI 13)) : lin1 x p = x := (if_neg h).trans (if_neg q)
theorem lnS_m1 (a : List Int32) : lnS a (-1) = a := if_pos rfl
theorem lnS_x {a : List Int32} {x : Int32} (h : ¬ x = -1) : lnS a x = a ++ [x] := if_neg h
theorem n10_m1 : ¬ nI 10 = (-1 : Int32) := by decide
theorem ln_dF (g : Nat → Int32) (p : Int32) (m : Nat) (hp : ¬ p = nI 13) (hg : ∀ i : Nat, i < m → ¬ g i = -1) : ∀ j : Nat, j ≤ m → lnF g p j = dF true g m j ++ pnd g m j
  | 0, _ => by
    rw [pnd_no (fun z => absurd z.1 (by decide))]
    rfl
  | j + 1, hj => by
    show lnS (lnF g p j) (lin1 (g j) (if j = 0 then p else g (j - 1))) = (dF true g m j ++ dS true (g j) (if j + 1 < m then g (j + 1) else -1)) ++ pnd g m (j + 1)
    rw [ln_dF g p m hp hg j (by omega)]
    by_cases q13 : g j = nI 13
    · have w10 : ¬ g j = nI 10 := fun z => absurd (q13.symm.trans z) (by decide)
      rw [pnd_no (j := j) (fun z => w10 z.2.2.2), List.append_nil, l1_13 q13, lnS_x n10_m1]
      by_cases q : j + 1 < m
      · rw [if_pos q]
        by_cases z : g (j + 1) = nI 10
        · rw [dS_y ⟨rfl, q13⟩ z, pnd_yes ⟨by omega, q, q13, z⟩, List.append_nil]
        · rw [dS_z ⟨rfl, q13⟩ z, pnd_no (fun y => z y.2.2.2), List.append_nil]
      · rw [if_neg q, dS_z ⟨rfl, q13⟩ (by decide), pnd_no (fun y => q y.2.1), List.append_nil]
    · rw [pnd_no (j := j + 1) (fun z => q13 z.2.2.1), List.append_nil, dS_n (fun z => q13 z.2)]
      by_cases q10 : g j = nI 10
      · by_cases z : (if j = 0 then p else g (j - 1)) = nI 13
        · have hj0 : ¬ j = 0 := by
            intro y
            rw [if_pos y] at z
            exact hp z
          rw [l1_m1 q10 z, lnS_m1]
          rw [if_neg hj0] at z
          rw [pnd_yes ⟨by omega, by omega, z, q10⟩, q10]
        · rw [l1_x q13 (fun y => z y.2), pnd_no (fun y => z (by rw [if_neg (show ¬ j = 0 by omega)]; exact y.2.2.1)), List.append_nil, lnS_x (hg j (by omega))]
      · rw [l1_x q13 (fun y => q10 y.1), pnd_no (fun y => q10 y.2.2.2), List.append_nil, lnS_x (hg j (by omega))]
theorem ln_dT (g : Nat → Int32) (p : Int32) (m : Nat) (hp : ¬ p = nI 13) (hg : ∀ i : Nat, i < m → ¬ g i = -1) : dF true g m m = lnF g p m := by
  rw [ln_dF g p m hp hg m (Nat.le_refl m), pnd_no (fun z => absurd z.2.1 (Nat.lt_irrefl m)), List.append_nil]
theorem dF_no {l : List Int32} {g : Nat → Int32} {m : Nat} : ∀ j : Nat, j ≤ l.length → (∀ i : Nat, i < j → g i = l.getD i 0) → dF false g m j = l.take j
  | 0, _, _ => rfl
  | j + 1, hj, h => by
    show dF false g m j ++ dS false (g j) _ = _
    rw [dF_no j (by omega) (fun i hi => h i (by omega)), take_snoc (by omega), h j (by omega), dS_n (fun z => absurd z.1 (by decide))]
theorem getD_l {A B : List Int32} {i : Nat} (h : i < A.length) : (A ++ B).getD i 0 = A.getD i 0 := by
  rw [List.getD_eq_getElem?_getD, List.getElem?_append_left h, ← List.getD_eq_getElem?_getD]
theorem getD_r {A B : List Int32} {i : Nat} (h : A.length ≤ i) : (A ++ B).getD i 0 = B.getD (i - A.length) 0 := by
  rw [List.getD_eq_getElem?_getD, List.getElem?_append_right h, ← List.getD_eq_getElem?_getD]
theorem allB_ne {l : List Int32} (h : allB l) {i : Nat} (hi : i < l.length) : ¬ l.getD i 0 = -1 := isB_ne (h i hi)
theorem m1_13 : ¬ (-1 : Int32) = nI 13 := by decide
/-- what the Trial holds due behind its first step -/
def pD1 (K : Int32) (A B : List Int32) : List Int32 := if K = nI 4 ∨ K = nI 5 then outK K A B else fpK K A
theorem li4 : isLi (nI 4) = false := by decide
theorem li5 : isLi (nI 5) = true := by decide
theorem dF_both {K : Int32} {A B : List Int32} (ha : allB A) (hb : allB B) (hl : A.length < 2147483648) (h : K = nI 4 ∨ K = nI 5) : dF (isLi K) (fun i => (A ++ B).getD (0 + i) 0) (A.length + B.length) (A.length + B.length) = pD1 K A B := by
  have e0 : (fun i => (A ++ B).getD (0 + i) 0) = fun i => (A ++ B).getD i 0 := by
    funext i
    rw [Nat.zero_add]
  rw [e0, pD1, if_pos h]
  have hab := allB_app ha hb
  rcases h with rfl | rfl
  · rw [li4, dF_no (l := A ++ B) _ (by rw [List.length_append]; exact Nat.le_refl _) (fun _ _ => rfl), outK, if_pos rfl, fpK, if_neg (by rw [li4]; decide), ← List.length_append, List.take_length]
  · rw [li5, ln_dT _ (-1) _ m1_13 (fun i hi => allB_ne hab (by rw [List.length_append]; exact hi)), lnF_add, outK, if_neg (show ¬ nI 5 = nI 4 by decide), if_pos rfl, fpK, if_pos li5]
    congr 1
    · rw [← lnF_T]
      exact lnF_c _ (fun i hi => getD_l hi)
    · rw [← lnF_T]
      have e1 : (if A.length = 0 then (-1 : Int32) else (A ++ B).getD (A.length - 1) 0) = atP A (nI A.length - nI 1) := by
        by_cases q : A.length = 0
        · rw [if_pos q, q]
          exact (atP_m1 A).symm
        · rw [if_neg q, pk_sub (by omega), getD_l (by omega), atP_nI (by omega) hl]
      rw [e1]
      refine lnF_c _ (fun i hi => ?_)
      rw [getD_r (by omega), show A.length + i - A.length = i by omega]
theorem dF_first {K : Int32} {A B : List Int32} (ha : allB A) (h : ¬ (K = nI 4 ∨ K = nI 5)) : dF (isLi K) (fun i => (A ++ B).getD (0 + i) 0) A.length A.length = pD1 K A B := by
  have e0 : ∀ i : Nat, i < A.length → (A ++ B).getD (0 + i) 0 = A.getD i 0 := fun i hi => by rw [Nat.zero_add, getD_l hi]
  rw [pD1, if_neg h, fpK]
  by_cases q : isLi K = true
  · rw [if_pos q, q, ln_dT _ (-1) _ m1_13 (fun i hi => by rw [e0 i hi]; exact allB_ne ha hi), ← lnF_T]
    exact lnF_c _ e0
  · rw [if_neg q, Bool.eq_false_iff.mpr q, dF_no (l := A) _ (Nat.le_refl _) e0, List.take_length]
theorem dF_second {K : Int32} {A B : List Int32} (hb : allB B) (h : K = nI 7) : pD1 K A B ++ dF true (fun i => (A ++ B).getD (A.length + i) 0) B.length B.length = outK K A B := by
  subst h
  have e0 : ∀ i : Nat, i < B.length → (A ++ B).getD (A.length + i) 0 = B.getD i 0 := fun i hi => by rw [getD_r (by omega), show A.length + i - A.length = i by omega]
  rw [pD1, if_neg (by decide), outK, if_neg (by decide), if_neg (by decide), if_pos rfl, ln_dT _ (-1) _ m1_13 (fun i hi => by rw [e0 i hi]; exact allB_ne hb hi), ← lnF_T, lnF_c _ e0]
theorem pD1_out {K : Int32} {A B : List Int32} (h : ¬ K = nI 7) : pD1 K A B = outK K A B := by
  unfold pD1
  by_cases q : K = nI 4 ∨ K = nI 5
  · rw [if_pos q]
  · rw [if_neg q, outK, if_neg (fun z => q (Or.inl z)), if_neg (fun z => q (Or.inr z)), if_neg h]
/-- the Trial's own figures stand where t stands -/
def Du (G : GG) (c : CC) (t : Stm) : Prop := ∃ rg : Int64, c 25 = .inr (4, [.ref (G.1 26), .ref (G.1 29), .ref (G.1 31), .int (nI (sP t)), .int (sN t), .long rg]) ∧ (hasC (sK t) = true → rg = sG t)
theorem Du.mono {G : GG} {c c' : CC} {t : Stm} (h : Du G c t) (k : c' 25 = c 25) : Du G c' t := by
  obtain ⟨g, a, b⟩ := h
  exact ⟨g, k.trans a, b⟩
theorem Du.obj {G : GG} {c : CC} {t : Stm} (h : Du G c t) : ∃ fs, c 25 = .inr (4, fs) := by
  obtain ⟨g, a, b⟩ := h
  exact ⟨_, a⟩
/-- the Trial's cells, with what is due -/
def TrD (G : GG) (c : CC) (D : List Int32) : Prop := (∃ (pl ln : Int32) (g : Int64), c 25 = .inr (4, [.ref (G.1 26), .ref (G.1 29), .ref (G.1 31), .int pl, .int ln, .long g])) ∧ (∃ t, StrAt G c 26 t) ∧ RowAt G c 29 D ∧ ∃ L, RowAt G c 31 L
theorem TrD.at {G : GG} {c : CC} {D : List Int32} (h : TrD G c D) : TrAt G c := ⟨h.1, h.2.1, ⟨D, h.2.2.1⟩, h.2.2.2⟩
theorem TrD.of {G : GG} {c : CC} {t u : Stm} {D L : List Int32} (hd : Du G c t) (hs : StrAt G c 26 u) (hr : RowAt G c 29 D) (hp : RowAt G c 31 L) : TrD G c D := by
  obtain ⟨g, a, -⟩ := hd
  exact ⟨⟨_, _, _, a⟩, ⟨_, hs⟩, hr, L, hp⟩
theorem TrAt.obj {G : GG} {c : CC} (h : TrAt G c) : ∃ fs, c 25 = .inr (4, fs) := by
  obtain ⟨⟨a, b, d, e⟩, -⟩ := h
  exact ⟨_, e⟩
theorem TrD.obj {G : GG} {c : CC} {D : List Int32} (h : TrD G c D) : ∃ fs, c 25 = .inr (4, fs) := h.at.obj
theorem nx_add (t : Stm) (a : Nat) : ∀ b : Nat, pPn b (pPn a t) = pPn (a + b) t
  | 0 => rfl
  | b + 1 => by
    show pNx (pPn b (pPn a t)) = pNx (pPn (a + b) t)
    rw [nx_add t a b]
theorem nx_end {t : Stm} (h : sP t = (sO t).length) : nxA t = -1 ∧ pNx t = t := by
  constructor
  · unfold nxA
    rw [if_neg (by omega)]
  · unfold pNx
    rw [if_neg (by omega)]
theorem Du.nx {G : GG} {c' : CC} {K : Int32} {O : List Int32} {M P : Nat} {N N' : Int32} {g rg : Int64} {mk : Option (Nat × Int32)} (h : c' 25 = .inr (4, [.ref (G.1 26), .ref (G.1 29), .ref (G.1 31), .int (nI (P + 1)), .int N', .long rg])) (hp : P < O.length) (hN : (if O.getD P 0 = nI 10 then N + nI 1 else N) = N') (hg : hasC K = true → rg = wb g (O.getD P 0)) : Du G c' (pNx (K, O, M, P, N, g, mk)) := by
  have e : pNx (K, O, M, P, N, g, mk) = (K, O, M, P + 1, (if O.getD P 0 = nI 10 then N + nI 1 else N), wb g (O.getD P 0), mk) := if_pos hp
  rw [e, hN]
  exact ⟨rg, h, hg⟩
theorem pTk_0 {t : Stm} {n : Nat} (hn : 0 < n) (h : pTk n t = 0) (hs : okS t) : sP t = (sO t).length := by
  have h1 := hs.1
  unfold pTk at h
  by_cases q : sP t < seC (sK t) (sM t)
  · rw [if_pos q] at h
    omega
  · rw [if_neg q] at h
    omega
theorem seC_le (K : Int32) (M : Nat) : seC K M ≤ M := by
  unfold seC
  split <;> omega
theorem pTk_le {t : Stm} {n : Nat} (hs : okS t) : sP t + pTk n t ≤ (sO t).length := by
  have h1 := hs.1
  have h2 : sM t ≤ (sO t).length := hs.2.2.2.1
  have h3 := seC_le (sK t) (sM t)
  unfold pTk
  by_cases q : sP t < seC (sK t) (sM t)
  · rw [if_pos q]
    omega
  · rw [if_neg q]
    omega
theorem nI_m1 {n : Nat} (h : n < 2147483648) : ¬ nI n = -1 := by
  intro z
  have h5 : (nI n).toInt = (n : Int) := nI_toInt h
  rw [z] at h5
  have h6 : (-1 : Int32).toInt = -1 := by decide
  omega
theorem Cls.keep {G : GG} {c c' : CC} {σ : St} (h : Cls G c σ) (k : ∀ y : Nat, y < 25 ∨ 33 ≤ y → c' y = c y) (ht : TrAt G c') : Cls G c' σ := by
  obtain ⟨a, ⟨f, b1, b2⟩, ⟨g, d1, d2⟩, e1, ⟨e2, e3⟩, e4, -⟩ := h
  exact ⟨(k 0 (by omega)).trans a, ⟨f, (k 1 (by omega)).trans b1, b2⟩, ⟨g, (k 2 (by omega)).trans d1, d2⟩, fun j hj => ⟨(e1 j hj).1.mono (k _ (by omega)) (k _ (by omega)), (e1 j hj).2⟩, ⟨e2.mono (k _ (by omega)) (k _ (by omega)), e3⟩, fun j hj => ⟨(e4 j hj).1.mono (k _ (by omega)) (k _ (by omega)) (k _ (by omega)), (e4 j hj).2⟩, ht⟩
