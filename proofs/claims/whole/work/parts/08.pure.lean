/-! THE MATHEMATICS: rows of bytes, LINED, checks, streams; and what cells hold them -/
abbrev rmF (f c s lo : Nat) : Room := { frames := f, cells := c, slots := s, locals := lo }
/-- a byte, behind another, LINED: -1 if nothing is left of it -/
def lin1 (x p : Int32) : Int32 := if x = 13 then 10 else if x = 10 ∧ p = 13 then -1 else x
def lnd : Int32 → List Int32 → List Int32
  | _, [] => []
  | p, x :: xs => if lin1 x p = -1 then lnd x xs else lin1 x p :: lnd x xs
/-- a row's place, -1 if there is none -/
def atP (l : List Int32) (x : Int32) : Int32 := if 0 ≤ x ∧ x < nI l.length then l.getD x.toNatClampNeg 0 else -1
theorem atP_nI {l : List Int32} {j : Nat} (h : j < l.length) (hl : l.length < 2147483648) : atP l (nI j) = l.getD j 0 := by
  unfold atP
  rw [if_pos ⟨nI_pos' (by omega), nI_lt h hl⟩, nI_clamp (by omega)]
theorem atP_out {l : List Int32} {j : Nat} (h : l.length ≤ j) (hj : j < 2147483648) : atP l (nI j) = -1 := by
  unfold atP
  rw [if_neg]
  intro q
  exact absurd q.2 (nI_nlt h hj)
theorem atP_m1 (l : List Int32) : atP l (-1) = -1 := by
  unfold atP
  rw [if_neg]
  intro q
  exact absurd q.1 (by decide)
/-- the row at the place i of the index: its object, its array -/
def RowAt (G : GG) (c : CC) (i : Nat) (l : List Int32) : Prop := c i = .inr (2, [.ref (G.1 (i + 1)), .int (nI l.length)]) ∧ l.length ≤ 240 ∧ ∃ f : Nat → Int32, c (i + 1) = .inl (G.2.2.2 0, 240, .inl f) ∧ ∀ j : Nat, j < l.length → f j = l.getD j 0
theorem RowAt.mono {G : GG} {c c' : CC} {i : Nat} {l : List Int32} (h : RowAt G c i l) (h0 : c' i = c i) (h1 : c' (i + 1) = c (i + 1)) : RowAt G c' i l := by
  obtain ⟨a, b, f, d, e⟩ := h
  exact ⟨h0.trans a, b, f, h1.trans d, e⟩
theorem RowAt.le {G : GG} {c : CC} {i : Nat} {l : List Int32} (h : RowAt G c i l) : l.length ≤ 240 := h.2.1
theorem getD_app {l : List Int32} {x : Int32} {j : Nat} (h : j < l.length) : (l ++ [x]).getD j 0 = l.getD j 0 := by
  rw [List.getD_eq_getElem?_getD, List.getD_eq_getElem?_getD, List.getElem?_append_left h]
theorem getD_last {l : List Int32} {x : Int32} : (l ++ [x]).getD l.length 0 = x := by
  rw [List.getD_eq_getElem?_getD, List.getElem?_append_right (Nat.le_refl _), Nat.sub_self]
  rfl
theorem getD_out {l : List Int32} {j : Nat} (h : l.length ≤ j) : l.getD j 0 = 0 := by
  rw [List.getD_eq_getElem?_getD, List.getElem?_eq_none h]
  rfl
theorem take_snoc {l : List Int32} {j : Nat} (h : j < l.length) : l.take (j + 1) = l.take j ++ [l.getD j 0] := by
  rw [List.take_succ, List.getElem?_eq_getElem h, List.getD_eq_getElem?_getD, List.getElem?_eq_getElem h]
  rfl
theorem atP_of_neg {l : List Int32} {x : Int32} (h : x < 0) : atP l x = -1 := by
  unfold atP
  rw [if_neg]
  intro q
  exact absurd (Int32.lt_of_lt_of_le h q.1) (Int32.lt_irrefl)
theorem atP_of_ge {l : List Int32} {x : Int32} (h : nI l.length ≤ x) : atP l x = -1 := by
  unfold atP
  rw [if_neg]
  intro q
  exact absurd (Int32.lt_of_le_of_lt h q.2) (Int32.lt_irrefl)
theorem ix_of {x : Int32} {N : Nat} (h : ¬ x < 0) (h2 : ¬ nI N ≤ x) (hN : N < 2147483648) : ∃ j : Nat, j < N ∧ x = nI j := by
  obtain ⟨j, hj, rfl⟩ := nI_of h
  exact ⟨j, Nat.lt_of_not_le (fun q => h2 (nI_le q hj)), rfl⟩
theorem inc_n (a z : Nat) : nI a + Int32.ofInt (z : Int) = nI (a + z) := by
  rw [← nI_add]
  rfl
theorem inc_1 (a : Nat) : nI a + Int32.ofInt 1 = nI (a + 1) := inc_n a 1
theorem RowAt.push {G : GG} {c' : CC} {i : Nat} {l : List Int32} {x : Int32} {f : Nat → Int32} (h0 : c' i = .inr (2, [.ref (G.1 (i + 1)), .int (nI (l.length + 1))])) (h1 : c' (i + 1) = .inl (G.2.2.2 0, 240, .inl (upd f l.length x))) (hf : ∀ j : Nat, j < l.length → f j = l.getD j 0) (hl : l.length < 240) : RowAt G c' i (l ++ [x]) := by
  refine ⟨by rw [List.length_append]; exact h0, by rw [List.length_append]; exact hl, _, h1, fun j hj => ?_⟩
  rw [List.length_append] at hj
  by_cases hjl : j = l.length
  · subst hjl
    rw [getD_last, pk_us]
  · have : j < l.length := by
      have : j < l.length + 1 := hj
      omega
    rw [getD_app this, pk_un hjl, hf j this]
theorem dropLast_getD {l : List Int32} {j : Nat} (h : j < l.dropLast.length) : l.dropLast.getD j 0 = l.getD j 0 := by
  rw [List.getD_eq_getElem?_getD, List.getD_eq_getElem?_getD, List.getElem?_dropLast, if_pos (by rw [List.length_dropLast] at h; exact h)]
theorem RowAt.pop {G : GG} {c' : CC} {i : Nat} {l : List Int32} {f : Nat → Int32} (h0 : c' i = .inr (2, [.ref (G.1 (i + 1)), .int (nI (l.length - 1))])) (h1 : c' (i + 1) = .inl (G.2.2.2 0, 240, .inl f)) (hf : ∀ j : Nat, j < l.length → f j = l.getD j 0) (hl : l.length ≤ 240) : RowAt G c' i l.dropLast := by
  refine ⟨by rw [List.length_dropLast]; exact h0, by rw [List.length_dropLast]; omega, _, h1, fun j hj => ?_⟩
  rw [dropLast_getD hj]
  exact hf j (by rw [List.length_dropLast] at hj; omega)
theorem V_lv {G : GG} {X : CX} {c : CC} {lv lv' : LV} {k n pc : Nat} {st : List Value} (ks : List Nat) (hl : lv_pick lv ks = lv') (kk : V G X c lv' k n pc st) : V G X c lv k n pc st := fun H locs ls hP hS hL => kk H locs ls hP hS (lv_sub hL ks hl)
def ecn : Int32 → List Int32 → Nat
  | _, [] => 0
  | p, x :: xs => (if lin1 x p = 10 then 1 else 0) + ecn x xs
/-- how many ends of line stand among the first j -/
def ecT (l : List Int32) : Nat → Nat
  | 0 => 0
  | j + 1 => ecT l j + if lin1 (l.getD j 0) (atP l (nI j - 1)) = 10 then 1 else 0
def lnS (acc : List Int32) (x : Int32) : List Int32 := if x = -1 then acc else acc ++ [x]
/-- the first j, LINED, behind p -/
def lnT (p : Int32) (l : List Int32) : Nat → List Int32
  | 0 => []
  | j + 1 => lnS (lnT p l j) (lin1 (l.getD j 0) (if j = 0 then p else l.getD (j - 1) 0))
theorem lnS_len (acc : List Int32) (x : Int32) : (lnS acc x).length ≤ acc.length + 1 := by
  unfold lnS
  split
  · omega
  · rw [List.length_append]
    exact Nat.le_refl _
theorem lnT_len (p : Int32) (l : List Int32) : ∀ j : Nat, (lnT p l j).length ≤ j
  | 0 => Nat.le_refl 0
  | j + 1 => Nat.le_trans (lnS_len _ _) (Nat.succ_le_succ (lnT_len p l j))
theorem lnT_s {p : Int32} {l : List Int32} {j : Nat} {g : Int32} (hg : (if j = 0 then p else l.getD (j - 1) 0) = g) : lnT p l (j + 1) = lnS (lnT p l j) (lin1 (l.getD j 0) g) := by
  rw [← hg]
  rfl
def isTw (k : Int32) : Bool := decide (k = nI 4 ∨ k = nI 5 ∨ k = nI 7)
def hasL (k : Int32) : Bool := decide (k = nI 2 ∨ k = nI 5 ∨ k = nI 6)
def hasC (k : Int32) : Bool := decide (k = nI 3 ∨ k = nI 6)
def isLi (k : Int32) : Bool := hasL k || decide (k = nI 7)
def canM (k : Int32) : Bool := decide (k = nI 0 ∨ k = nI 2 ∨ k = nI 3 ∨ k = nI 6)
def gbU (k : Int32) : Bool := decide (k = nI 0 ∨ k = nI 1 ∨ k = nI 3)
/-- half, without a sign -/
def hlf (g : Int64) : Int64 := (g.toUInt64 >>> ((nI 1 : Int32).toInt64.toUInt64 &&& Int64.toUInt64 63)).toInt64
def wb1 (g : Int64) : Int64 := if (g &&& 1) = 0 then hlf g else hlf g ^^^ 2197175160
def wbi : Nat → Int64 → Int64
  | 0, g => g
  | n + 1, g => wb1 (wbi n g)
/-- the check's register behind one byte more -/
def wb (g : Int64) (x : Int32) : Int64 := wbi 8 (g ^^^ x.toInt64)
theorem lg0 {x y : Int64} : lg_cmp x y = 0 ↔ x = y := by
  unfold lg_cmp
  constructor
  · intro h
    split at h
    · exact absurd h (by decide)
    · split at h
      · assumption
      · exact absurd h (by decide)
  · intro h
    subst h
    rw [if_neg (Int64.lt_irrefl), if_pos rfl]
