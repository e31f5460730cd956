/-! THE SYSTEM'S STATE: sources, part, streams; what each call answers and makes of it; what cells hold it -/
abbrev St : Type := (Nat → List Int32) × List Int32 × (Nat → Stm)
def stS (σ : St) (j : Nat) (l : List Int32) : St := (va_up σ.1 j l, σ.2)
def stP (σ : St) (l : List Int32) : St := (σ.1, l, σ.2.2)
def stT (σ : St) (j : Nat) (t : Stm) : St := (σ.1, σ.2.1, va_up σ.2.2 j t)
abbrev eIO : String := "java/lang/IndexOutOfBoundsException"
abbrev eIA : String := "java/lang/IllegalArgumentException"
abbrev eIS : String := "java/lang/IllegalStateException"
abbrev eNE : String := "java/util/NoSuchElementException"
abbrev eUO : String := "java/lang/UnsupportedOperationException"
abbrev eAE : String := "java/lang/ArithmeticException"
def ixB (x : Int32) : Bool := decide (0 ≤ x ∧ x < nI 4)
def ixN (x : Int32) : Nat := x.toNatClampNeg
def byB (y : Int32) : Bool := decide (0 ≤ y ∧ y ≤ nI 255)
def btB (n lo hi : Int32) : Bool := decide (lo ≤ n ∧ n ≤ hi)
def plB (l : List Int32) (y : Int32) : Bool := decide (0 ≤ y ∧ y < nI l.length)
theorem ixN_nI {j : Nat} (h : j < 4) : ixN (nI j) = j := nI_clamp (by omega)
theorem ixB_yes {j : Nat} (h : j < 4) : ixB (nI j) = true := decide_eq_true ⟨nI_pos' (by omega), nI_lt h (by decide)⟩
theorem i_lt {a b : Int32} (h : ¬ a ≤ b) : b < a := Int32.not_le.mp h
theorem i_le {a b : Int32} (h : ¬ a < b) : b ≤ a := Int32.not_lt.mp h
theorem i_nle {a b : Int32} (h : a < b) : ¬ b ≤ a := Int32.not_le.mpr h
theorem i_nlt {a b : Int32} (h : a ≤ b) : ¬ b < a := Int32.not_lt.mpr h
theorem ixB_neg {x : Int32} (h : x < 0) : ixB x = false := decide_eq_false (fun q => i_nle h q.1)
theorem ixB_big {x : Int32} (h : ¬ x < nI 4) : ixB x = false := decide_eq_false (fun q => h q.2)
theorem ix4 {x : Int32} (h : ¬ x < 0) (h2 : x < nI 4) : ∃ j : Nat, j < 4 ∧ x = nI j := ix_of h (i_nle h2) (by decide)
theorem byB_B {y : Int32} (h : byB y = true) : isB y := by
  have q := of_decide_eq_true h
  obtain ⟨j, hj, rfl⟩ := ix_of (N := 256) (i_nlt q.1) (fun z => i_nle (Int32.lt_of_le_of_lt q.2 (show nI 255 < nI 256 by decide)) z) (by decide)
  exact ⟨j, hj, rfl⟩
/-- an answer that is a throw: the k-th of the names, by its number -/
def pxE {β : Type} (r : Nat × β) (names : List String) : String → Prop := fun E => ∃ k : Nat, names[k]? = some E ∧ r.1 = k + 1
theorem pxE.mk {β : Type} {r : Nat × β} {names : List String} {E : String} (k : Nat) (h : r.1 = k + 1) (hn : names[k]? = some E) : pxE r names E := ⟨k, hn, h⟩
def f_type (σ : St) (x y : Int32) : Nat × Int32 × St :=
  if ixB x = true then (if byB y = true then (if (σ.1 (ixN x)).length < 120 then (0, nI ((σ.1 (ixN x)).length + 1), stS σ (ixN x) (σ.1 (ixN x) ++ [y])) else (3, 0, σ)) else (2, 0, σ)) else (1, 0, σ)
def f_typeMany (σ : St) (x y z : Int32) : Nat × Int32 × St :=
  if ixB x = true then (if byB y = true then (if btB z (nI 0) (nI 60) = true then (if (σ.1 (ixN x)).length + ixN z ≤ 120 then (0, nI ((σ.1 (ixN x)).length + ixN z), stS σ (ixN x) (σ.1 (ixN x) ++ List.replicate (ixN z) y)) else (3, 0, σ)) else (2, 0, σ)) else (2, 0, σ)) else (1, 0, σ)
def f_cut (σ : St) (x : Int32) : Nat × Int32 × St :=
  if ixB x = true then (if 0 < (σ.1 (ixN x)).length then (0, (σ.1 (ixN x)).getD ((σ.1 (ixN x)).length - 1) 0, stS σ (ixN x) (σ.1 (ixN x)).dropLast) else (2, 0, σ)) else (1, 0, σ)
def f_clear (σ : St) (x : Int32) : Nat × Int32 × St := if ixB x = true then (0, nI (σ.1 (ixN x)).length, stS σ (ixN x) []) else (1, 0, σ)
def f_length (σ : St) (x : Int32) : Nat × Int32 × St := if ixB x = true then (0, nI (σ.1 (ixN x)).length, σ) else (1, 0, σ)
def f_byteAt (σ : St) (x y : Int32) : Nat × Int32 × St :=
  if ixB x = true then (if plB (σ.1 (ixN x)) y = true then (0, (σ.1 (ixN x)).getD (ixN y) 0, σ) else (1, 0, σ)) else (1, 0, σ)
def f_ends (σ : St) (x : Int32) : Nat × Int32 × St := if ixB x = true then (0, nI (ecT (σ.1 (ixN x)) (σ.1 (ixN x)).length), σ) else (1, 0, σ)
def f_open (σ : St) (x k a b : Int32) : Nat × Int32 × St :=
  if ixB x = true then (if ixB a = true then (if ixB b = true then (if btB k (nI 0) (nI 7) = true then (0, nI (if isTw k = true then (σ.1 (ixN a)).length + (σ.1 (ixN b)).length else (σ.1 (ixN a)).length), stT σ (ixN x) (pOp k (σ.1 (ixN a)) (σ.1 (ixN b)))) else (2, 0, σ)) else (1, 0, σ)) else (1, 0, σ)) else (1, 0, σ)
def f_kind (σ : St) (x : Int32) : Nat × Int32 × St := if ixB x = true then (0, sK (σ.2.2 (ixN x)), σ) else (1, 0, σ)
/-- no such stream: 1; not open: c -/
def opn {β : Type} (σ : St) (x : Int32) (c : Nat) (z : β) (f : Nat → Stm → Nat × β × St) : Nat × β × St :=
  if ixB x = true then (if sK (σ.2.2 (ixN x)) = -1 then (c, z, σ) else f (ixN x) (σ.2.2 (ixN x))) else (1, z, σ)
def f_read (σ : St) (x : Int32) : Nat × Int32 × St := opn σ x 2 0 (fun j t => (0, nxA t, stT σ j (pNx t)))
def f_readPart (σ : St) (x m : Int32) : Nat × Int32 × St :=
  if ixB x = true then (if btB m (nI 1) (nI 64) = true then opn σ x 3 0 (fun j t => (0, (if pTk (ixN m) t = 0 then -1 else nI (pTk (ixN m) t)), stT (stP σ (if pTk (ixN m) t = 0 then σ.2.1 else ((sO t).drop (sP t)).take (pTk (ixN m) t))) j (pPn (pTk (ixN m) t) t))) else (2, 0, σ)) else (1, 0, σ)
def f_partAt (σ : St) (y : Int32) : Nat × Int32 × St := if plB σ.2.1 y = true then (0, σ.2.1.getD (ixN y) 0, σ) else (1, 0, σ)
def f_skip (σ : St) (x m : Int32) : Nat × Int32 × St :=
  if ixB x = true then (if btB m (nI 0) (nI 200) = true then opn σ x 3 0 (fun j t => (0, nI (min (ixN m) ((sO t).length - sP t)), stT σ j (pPn (min (ixN m) ((sO t).length - sP t)) t))) else (2, 0, σ)) else (1, 0, σ)
def f_readLine (σ : St) (x y : Int32) : Nat × Int32 × St :=
  if ixB x = true then (if ixB y = true then opn σ x 2 0 (fun j t => if (sO t).length - sP t = 0 then (0, -1, σ) else if nl ((sO t).drop (sP t)) ≤ 120 then (0, nI (nl ((sO t).drop (sP t))), stT (stS σ (ixN y) (((sO t).drop (sP t)).take (nl ((sO t).drop (sP t))))) j (pNx (pPn (nl ((sO t).drop (sP t))) t))) else (3, 0, σ)) else (1, 0, σ)) else (1, 0, σ)
def f_pour (σ : St) (x y : Int32) : Nat × Int32 × St :=
  if ixB x = true then (if ixB y = true then opn σ x 2 0 (fun j t => if (sO t).length - sP t ≤ 120 then (0, nI ((sO t).length - sP t), stT (stS σ (ixN y) (((sO t).drop (sP t)).take ((sO t).length - sP t))) j (pPn ((sO t).length - sP t) t)) else (3, 0, σ)) else (1, 0, σ)) else (1, 0, σ)
def alk : Nat → Nat → Stm → Stm → Nat × Stm × Stm
  | 0, s, a, b => (s, a, pNx b)
  | n + 1, s, a, b => if nxA a = nxA b then alk n (s + 1) (pNx a) (pNx b) else (s, pNx a, pNx b)
def f_alike (σ : St) (x y : Int32) : Nat × Int32 × St :=
  if ixB x = true then (if ixB y = true then (if x = y then (2, 0, σ) else if sK (σ.2.2 (ixN x)) = -1 then (3, 0, σ) else if sK (σ.2.2 (ixN y)) = -1 then (3, 0, σ) else
    (0, nI (alk ((sO (σ.2.2 (ixN x))).length - sP (σ.2.2 (ixN x))) 0 (σ.2.2 (ixN x)) (σ.2.2 (ixN y))).1, stT (stT σ (ixN x) (alk ((sO (σ.2.2 (ixN x))).length - sP (σ.2.2 (ixN x))) 0 (σ.2.2 (ixN x)) (σ.2.2 (ixN y))).2.1) (ixN y) (alk ((sO (σ.2.2 (ixN x))).length - sP (σ.2.2 (ixN x))) 0 (σ.2.2 (ixN x)) (σ.2.2 (ixN y))).2.2)) else (1, 0, σ)) else (1, 0, σ)
def f_canMark (σ : St) (x : Int32) : Nat × Int32 × St := opn σ x 2 0 (fun _ t => (0, (if canM (sK t) = true then 1 else 0), σ))
def shL (t : Stm) : Int32 := if hasL (sK t) = true then sN t else -1
def f_mark (σ : St) (x : Int32) : Nat × Int32 × St := opn σ x 2 0 (fun j t => if canM (sK t) = true then (0, shL t, stT σ j (pMk t)) else (2, 0, σ))
def pBk (t : Stm) (q : Nat × Int32) : Stm := (sK t, sO t, sM t, q.1, q.2, sG t, sX t)
def f_back (σ : St) (x : Int32) : Nat × Int32 × St := opn σ x 2 0 (fun j t => match pBp t with
  | some q => (0, shL (pBk t q), stT σ j (pBk t q))
  | none => (2, 0, σ))
def f_left (σ : St) (x : Int32) : Nat × Int32 × St := opn σ x 2 0 (fun _ t => if gbU (sK t) = true then (0, nI ((sO t).length - sP t), σ) else (2, 0, σ))
def f_line (σ : St) (x : Int32) : Nat × Int32 × St := opn σ x 2 0 (fun _ t => if hasL (sK t) = true then (0, sN t, σ) else (2, 0, σ))
def pSl (t : Stm) (n : Int32) : Stm := (sK t, sO t, sM t, sP t, n, sG t, sX t)
def f_setLine (σ : St) (x n : Int32) : Nat × Int32 × St := opn σ x 2 0 (fun j t => if hasL (sK t) = true then (0, sN t, stT σ j (pSl t n)) else (2, 0, σ))
def f_check (σ : St) (x : Int32) : Nat × Int64 × St := opn σ x 2 0 (fun _ t => if hasC (sK t) = true then (0, 4294967295 - sG t, σ) else (2, 0, σ))
def pCa (t : Stm) : Stm := (sK t, sO t, sM t, sP t, sN t, 4294967295, sX t)
def f_checkAnew (σ : St) (x : Int32) : Nat × Int64 × St := opn σ x 2 0 (fun j t => if hasC (sK t) = true then (0, 4294967295 - sG t, stT σ j (pCa t)) else (2, 0, σ))
def crT (l : List Int32) : Nat → Int64
  | 0 => 4294967295
  | j + 1 => wb (crT l j) (l.getD j 0)
def f_checkOf (σ : St) (x : Int32) : Nat × Int64 × St := if ixB x = true then (0, 4294967295 - crT (σ.1 (ixN x)) (σ.1 (ixN x)).length, σ) else (1, 0, σ)
def f_share (σ : St) (x : Int32) : Nat × UInt32 × St :=
  if ixB x = true then (if 0 < (σ.1 (ixN x)).length then (0, FP.fdiv (FP.i2f (nI (ecT (σ.1 (ixN x)) (σ.1 (ixN x)).length))) (FP.i2f (nI (σ.1 (ixN x)).length)), σ) else (2, 0, σ)) else (1, 0, σ)
def mlS (T : Nat → Stm) : Nat → Int64
  | 0 => 0
  | j + 1 => if hasL (sK (T j)) = true then mlS T j + (sN (T j)).toInt64 else mlS T j
def mlC (T : Nat → Stm) : Nat → Nat
  | 0 => 0
  | j + 1 => if hasL (sK (T j)) = true then mlC T j + 1 else mlC T j
def f_meanLine (σ : St) : Nat × UInt64 × St := if mlC σ.2.2 4 = 0 then (1, 0, σ) else (0, FP.ddiv (FP.l2d (mlS σ.2.2 4)) (FP.i2d (nI (mlC σ.2.2 4))), σ)
def ckL (s : Int64) (l : List Int32) : Nat → Int64
  | 0 => 31 * s + (nI l.length).toInt64
  | j + 1 => 31 * ckL s l j + (l.getD j 0).toInt64
def ckR (s : Int64) (l : List Int32) : Int64 := ckL s l l.length
def ckS (s : Int64) (S : Nat → List Int32) : Nat → Int64
  | 0 => s
  | j + 1 => ckR (ckS s S j) (S j)
def ckK (s : Int64) (t : Stm) : Int64 :=
  let a := 31 * s + (sK t).toInt64
  let b := if hasL (sK t) = true then 31 * a + (sN t).toInt64 else a
  if hasC (sK t) = true then 31 * b + (4294967295 - sG t) else b
def ckT (s : Int64) (T : Nat → Stm) : Nat → Int64
  | 0 => s
  | j + 1 => ckK (ckT s T j) (T j)
def f_checksum (σ : St) : Int64 := ckT (ckR (ckS 7 σ.1 4) σ.2.1) σ.2.2 4
/-- the Trial's cells -/
def TrAt (G : GG) (c : CC) : Prop := (∃ (pl ln : Int32) (g : Int64), c 25 = .inr (4, [.ref (G.1 26), .ref (G.1 29), .ref (G.1 31), .int pl, .int ln, .long g])) ∧ (∃ t, StrAt G c 26 t) ∧ (∃ L, RowAt G c 29 L) ∧ ∃ L, RowAt G c 31 L
def okL (n : Nat) (l : List Int32) : Prop := l.length ≤ n ∧ allB l
def okK (k : Int32) : Prop := k = -1 ∨ ∃ j : Nat, j < 8 ∧ k = nI j
/-- the class's cells hold the state -/
def Cls (G : GG) (c : CC) (σ : St) : Prop :=
  c 0 = .inr (5, [.ref (G.1 1), .ref (G.1 2), .ref (G.1 11), .ref (G.1 25)]) ∧ (∃ f : Nat → Option Nat, c 1 = .inl (G.2.2.2 4, 4, .inr (.inr (.inr (.inr f)))) ∧ ∀ j : Nat, j < 4 → f j = some (G.1 (3 + 2 * j))) ∧ (∃ f : Nat → Option Nat, c 2 = .inl (G.2.2.2 5, 4, .inr (.inr (.inr (.inr f)))) ∧ ∀ j : Nat, j < 4 → f j = some (G.1 (13 + 3 * j))) ∧
  (∀ j : Nat, j < 4 → RowAt G c (3 + 2 * j) (σ.1 j) ∧ okL 120 (σ.1 j)) ∧ (RowAt G c 11 σ.2.1 ∧ okL 64 σ.2.1) ∧ (∀ j : Nat, j < 4 → StrAt G c (13 + 3 * j) (σ.2.2 j) ∧ okK (sK (σ.2.2 j))) ∧ TrAt G c
theorem Cls.o {G : GG} {c : CC} {σ : St} (h : Cls G c σ) : c 0 = .inr (5, [.ref (G.1 1), .ref (G.1 2), .ref (G.1 11), .ref (G.1 25)]) := h.1
theorem Cls.row {G : GG} {c : CC} {σ : St} (h : Cls G c σ) {j : Nat} (hj : j < 4) : RowAt G c (3 + 2 * j) (σ.1 j) := (h.2.2.2.1 j hj).1
theorem Cls.rl {G : GG} {c : CC} {σ : St} (h : Cls G c σ) {j : Nat} (hj : j < 4) : okL 120 (σ.1 j) := (h.2.2.2.1 j hj).2
theorem Cls.part {G : GG} {c : CC} {σ : St} (h : Cls G c σ) : RowAt G c 11 σ.2.1 := h.2.2.2.2.1.1
theorem Cls.pl {G : GG} {c : CC} {σ : St} (h : Cls G c σ) : okL 64 σ.2.1 := h.2.2.2.2.1.2
theorem Cls.str {G : GG} {c : CC} {σ : St} (h : Cls G c σ) {j : Nat} (hj : j < 4) : StrAt G c (13 + 3 * j) (σ.2.2 j) := (h.2.2.2.2.2.1 j hj).1
theorem Cls.sk {G : GG} {c : CC} {σ : St} (h : Cls G c σ) {j : Nat} (hj : j < 4) : okK (sK (σ.2.2 j)) := (h.2.2.2.2.2.1 j hj).2
theorem TrAt.mono {G : GG} {c c' : CC} (h : TrAt G c) (k : ∀ y : Nat, 25 ≤ y → y < 33 → c' y = c y) : TrAt G c' := by
  obtain ⟨⟨a, b, d, e⟩, ⟨t, ht⟩, ⟨L, hL⟩, L2, hL2⟩ := h
  exact ⟨⟨a, b, d, (k 25 (by omega) (by omega)).trans e⟩, ⟨t, ht.mono (k 26 (by omega) (by omega)) (k 27 (by omega) (by omega)) (k 28 (by omega) (by omega))⟩, ⟨L, hL.mono (k 29 (by omega) (by omega)) (k 30 (by omega) (by omega))⟩, L2, hL2.mono (k 31 (by omega) (by omega)) (k 32 (by omega) (by omega))⟩
theorem Cls.upd {G : GG} {c c' : CC} {σ σ' : St} (h : Cls G c σ) (k0 : ∀ y : Nat, y < 3 → c' y = c y) (k1 : ∀ y : Nat, 25 ≤ y → y < 33 → c' y = c y) (hS : ∀ j : Nat, j < 4 → RowAt G c' (3 + 2 * j) (σ'.1 j) ∧ okL 120 (σ'.1 j)) (hP : RowAt G c' 11 σ'.2.1 ∧ okL 64 σ'.2.1) (hT : ∀ j : Nat, j < 4 → StrAt G c' (13 + 3 * j) (σ'.2.2 j) ∧ okK (sK (σ'.2.2 j))) : Cls G c' σ' := by
  obtain ⟨a, ⟨f, b1, b2⟩, ⟨g, d1, d2⟩, -, -, -, e⟩ := h
  exact ⟨(k0 0 (by omega)).trans a, ⟨f, (k0 1 (by omega)).trans b1, b2⟩, ⟨g, (k0 2 (by omega)).trans d1, d2⟩, hS, hP, hT, e.mono k1⟩
theorem Cls.setRow {G : GG} {c c' : CC} {σ : St} (h : Cls G c σ) {j : Nat} (hj : j < 4) {l : List Int32} (k : ∀ y : Nat, y ≠ 3 + 2 * j → y ≠ 3 + 2 * j + 1 → c' y = c y) (hr : RowAt G c' (3 + 2 * j) l) (hl : okL 120 l) : Cls G c' (stS σ j l) := by
  refine h.upd (fun y hy => k y (by omega) (by omega)) (fun y h1 h2 => k y (by omega) (by omega)) (fun i hi => ?_) ⟨h.part.mono (k _ (by omega) (by omega)) (k _ (by omega) (by omega)), h.pl⟩ (fun i hi => ⟨(h.str hi).mono (k _ (by omega) (by omega)) (k _ (by omega) (by omega)) (k _ (by omega) (by omega)), h.sk hi⟩)
  by_cases q : i = j
  · subst q
    show RowAt G c' (3 + 2 * i) (va_up σ.1 i l i) ∧ _
    rw [show (stS σ i l).1 i = l from va_up_self _ _ _, va_up_self]
    exact ⟨hr, hl⟩
  · rw [show (stS σ j l).1 i = σ.1 i from va_up_ne _ _ q]
    exact ⟨(h.row hi).mono (k _ (by omega) (by omega)) (k _ (by omega) (by omega)), h.rl hi⟩
theorem Cls.setStr {G : GG} {c c' : CC} {σ : St} (h : Cls G c σ) {j : Nat} (hj : j < 4) {t : Stm} (k : ∀ y : Nat, y ≠ 13 + 3 * j → y ≠ 13 + 3 * j + 1 → y ≠ 13 + 3 * j + 2 → c' y = c y) (hr : StrAt G c' (13 + 3 * j) t) (hl : okK (sK t)) : Cls G c' (stT σ j t) := by
  refine h.upd (fun y hy => k y (by omega) (by omega) (by omega)) (fun y h1 h2 => k y (by omega) (by omega) (by omega)) (fun i hi => ⟨(h.row hi).mono (k _ (by omega) (by omega) (by omega)) (k _ (by omega) (by omega) (by omega)), h.rl hi⟩) ⟨h.part.mono (k _ (by omega) (by omega) (by omega)) (k _ (by omega) (by omega) (by omega)), h.pl⟩ (fun i hi => ?_)
  by_cases q : i = j
  · subst q
    rw [show (stT σ i t).2.2 i = t from va_up_self _ _ _]
    exact ⟨hr, hl⟩
  · rw [show (stT σ j t).2.2 i = σ.2.2 i from va_up_ne _ _ q]
    exact ⟨(h.str hi).mono (k _ (by omega) (by omega) (by omega)) (k _ (by omega) (by omega) (by omega)) (k _ (by omega) (by omega) (by omega)), h.sk hi⟩
theorem Cls.setPart {G : GG} {c c' : CC} {σ : St} (h : Cls G c σ) {l : List Int32} (k : ∀ y : Nat, y ≠ 11 → y ≠ 12 → c' y = c y) (hr : RowAt G c' 11 l) (hl : okL 64 l) : Cls G c' (stP σ l) :=
  h.upd (fun y hy => k y (by omega) (by omega)) (fun y h1 h2 => k y (by omega) (by omega)) (fun i hi => ⟨(h.row hi).mono (k _ (by omega) (by omega)) (k _ (by omega) (by omega)), h.rl hi⟩) ⟨hr, hl⟩ (fun i hi => ⟨(h.str hi).mono (k _ (by omega) (by omega)) (k _ (by omega) (by omega)) (k _ (by omega) (by omega)), h.sk hi⟩)
/-- cells that are made of two: the one at the places in 'a', the other elsewhere -/
def mixC (p : Nat → Bool) (a b : CC) : CC := fun y => if p y = true then a y else b y
theorem Cls.eq {G : GG} {c : CC} {σ τ : St} (h : Cls G c σ) (e : σ = τ) : Cls G c τ := e ▸ h
theorem btB_nat {n : Int32} {lo hi : Nat} (h : btB n (nI lo) (nI hi) = true) (hh : hi < 2147483647) (hl : lo ≤ hi) : ∃ m : Nat, lo ≤ m ∧ m ≤ hi ∧ n = nI m := by
  have q := of_decide_eq_true h
  have h0 : ¬ n < 0 := i_nlt (Int32.le_trans (nI_pos' (n := lo) (by omega)) q.1)
  obtain ⟨j, hj, rfl⟩ := nI_of h0
  exact ⟨j, (nI_leI (by omega) hj).mp q.1, (nI_leI hj (by omega)).mp q.2, rfl⟩
theorem ixN_n {m : Nat} (h : m < 2147483648) : ixN (nI m) = m := nI_clamp h
theorem plB_yes {l : List Int32} {j : Nat} (h : j < l.length) (hl : l.length < 2147483648) : plB l (nI j) = true := decide_eq_true ⟨nI_pos' (by omega), nI_lt h hl⟩
theorem replicate_snoc {y : Int32} {n : Nat} : List.replicate n y ++ [y] = List.replicate (n + 1) y := by
  rw [List.replicate_succ']
theorem allB_rep {y : Int32} (h : isB y) : ∀ n : Nat, allB (List.replicate n y)
  | 0 => allB_nil
  | n + 1 => by
    rw [← replicate_snoc]
    exact allB_app (allB_rep h n) (allB_one h)
theorem allB_drop {l : List Int32} (h : allB l) (n : Nat) : allB (l.drop n) := by
  intro j hj
  rw [getD_drop]
  rw [List.length_drop] at hj
  exact h _ (by omega)
theorem allB_take {l : List Int32} (h : allB l) (n : Nat) : allB (l.take n) := by
  intro j hj
  rw [List.length_take] at hj
  rw [List.getD_eq_getElem?_getD, List.getElem?_take_of_lt (by omega), ← List.getD_eq_getElem?_getD]
  exact h j (by omega)
theorem allB_init {l : List Int32} (h : allB l) : allB l.dropLast := by
  intro j hj
  rw [dropLast_getD hj]
  exact h j (by rw [List.length_dropLast] at hj; omega)
def fQ {β : Type} (G : GG) (c : CC) (R : Nat × β × St) (r : β) (c' : CC) : Prop := R.1 = 0 ∧ R.2.1 = r ∧ Cls G c' R.2.2 ∧ ∀ y : Nat, 33 ≤ y → c' y = c y
theorem fQ.of {β : Type} {G : GG} {c c' : CC} {R : Nat × β × St} {r r' : β} {σ' : St} (e : R = (0, r', σ')) (hr : r' = r) (hc : Cls G c' σ') (hk : ∀ y : Nat, 33 ≤ y → c' y = c y) : fQ G c R r c' := by
  subst e
  exact ⟨rfl, hr, hc, hk⟩
theorem Cls.setRS {G : GG} {c c' : CC} {σ : St} (h : Cls G c σ) {j i : Nat} (hj : j < 4) (hi : i < 4) {t : Stm} {l : List Int32} (k : ∀ y : Nat, y ≠ 13 + 3 * j → y ≠ 3 + 2 * i → y ≠ 3 + 2 * i + 1 → c' y = c y) (hr : RowAt G c' (3 + 2 * i) l) (hl : okL 120 l) (hs : StrAt G c' (13 + 3 * j) t) (ht : okK (sK t)) : Cls G c' (stT (stS σ i l) j t) := by
  refine h.upd (fun y hy => k y (by omega) (by omega) (by omega)) (fun y h1 h2 => k y (by omega) (by omega) (by omega)) (fun a ha => ?_) ⟨h.part.mono (k _ (by omega) (by omega) (by omega)) (k _ (by omega) (by omega) (by omega)), h.pl⟩ (fun a ha => ?_)
  · by_cases q : a = i
    · subst q
      rw [show (stT (stS σ a l) j t).1 a = l from va_up_self _ _ _]
      exact ⟨hr, hl⟩
    · rw [show (stT (stS σ i l) j t).1 a = σ.1 a from va_up_ne _ _ q]
      exact ⟨(h.row ha).mono (k _ (by omega) (by omega) (by omega)) (k _ (by omega) (by omega) (by omega)), h.rl ha⟩
  · by_cases q : a = j
    · subst q
      rw [show (stT (stS σ i l) a t).2.2 a = t from va_up_self _ _ _]
      exact ⟨hs, ht⟩
    · rw [show (stT (stS σ i l) j t).2.2 a = σ.2.2 a from va_up_ne _ _ q]
      exact ⟨(h.str ha).mono (k _ (by omega) (by omega) (by omega)) (k _ (by omega) (by omega) (by omega)) (k _ (by omega) (by omega) (by omega)), h.sk ha⟩
theorem Cls.setPS {G : GG} {c c' : CC} {σ : St} (h : Cls G c σ) {j : Nat} (hj : j < 4) {t : Stm} {l : List Int32} (k : ∀ y : Nat, y ≠ 13 + 3 * j → y ≠ 11 → y ≠ 11 + 1 → c' y = c y) (hr : RowAt G c' 11 l) (hl : okL 64 l) (hs : StrAt G c' (13 + 3 * j) t) (ht : okK (sK t)) : Cls G c' (stT (stP σ l) j t) := by
  refine h.upd (fun y hy => k y (by omega) (by omega) (by omega)) (fun y h1 h2 => k y (by omega) (by omega) (by omega)) (fun a ha => ⟨(h.row ha).mono (k _ (by omega) (by omega) (by omega)) (k _ (by omega) (by omega) (by omega)), h.rl ha⟩) ⟨hr, hl⟩ (fun a ha => ?_)
  by_cases q : a = j
  · subst q
    rw [show (stT (stP σ l) a t).2.2 a = t from va_up_self _ _ _]
    exact ⟨hs, ht⟩
  · rw [show (stT (stP σ l) j t).2.2 a = σ.2.2 a from va_up_ne _ _ q]
    exact ⟨(h.str ha).mono (k _ (by omega) (by omega) (by omega)) (k _ (by omega) (by omega) (by omega)) (k _ (by omega) (by omega) (by omega)), h.sk ha⟩
theorem nI_ne {j i : Nat} (hj : j < 4) (hi : i < 4) (q : ¬ j = i) : ¬ nI j = nI i := fun z => q ((nI_eq (by omega) (by omega)).mp z)
theorem okK_ne {K : Int32} (h : okK K) (q : ¬ K = -1) : ∃ j : Nat, j < 8 ∧ K = nI j := h.resolve_left q
theorem okL_take {t : Stm} {n m : Nat} (h : okS t) (hm : m ≤ n) : okL n (((sO t).drop (sP t)).take m) := ⟨by rw [List.length_take]; omega, allB_take (allB_drop h.2.1 _) _⟩
theorem pBp_none {K : Int32} {O : List Int32} {M P : Nat} {N : Int32} {g : Int64} {mk : Option (Nat × Int32)} {mp ml : Int32} (hm : mkA K mk mp ml) (ho : okS (K, O, M, P, N, g, mk)) (hl : O.length ≤ 240) : (mp = -1 → pBp (K, O, M, P, N, g, mk) = none) ∧ (¬ mp = -1 → ∃ q, pBp (K, O, M, P, N, g, mk) = some q) := by
  cases mk with
  | some q =>
    obtain ⟨p, n⟩ := q
    have h1 := hm.1
    have h2 : p ≤ O.length := ho.2.2.2.2 p n rfl
    refine ⟨fun z => ?_, fun _ => ⟨(p, n), rfl⟩⟩
    rw [h1] at z
    have h3 : (nI p).toInt = (p : Int) := nI_toInt (by omega)
    rw [z] at h3
    have h4 : (-1 : Int32).toInt = -1 := by decide
    omega
  | none =>
    have h1 := hm.1
    unfold pBp
    dsimp only
    by_cases q : gbU K = true
    · rw [if_pos q] at h1 ⊢
      exact ⟨fun z => absurd (h1.symm.trans z) (by decide), fun _ => ⟨_, rfl⟩⟩
    · rw [if_neg q] at h1 ⊢
      exact ⟨fun _ => rfl, fun z => absurd h1 z⟩
theorem alk_s (n s : Nat) (a b : Stm) : alk (n + 1) s a b = if nxA a = nxA b then alk n (s + 1) (pNx a) (pNx b) else (s, pNx a, pNx b) := rfl
theorem alk_le : ∀ (n s : Nat) (a b : Stm), (alk n s a b).1 ≤ s + n
  | 0, s, _, _ => Nat.le_refl s
  | n + 1, s, a, b => by
    rw [alk_s]
    split
    · have := alk_le n (s + 1) (pNx a) (pNx b)
      omega
    · exact Nat.le_add_right s _
theorem alk_K : ∀ (n s : Nat) (a b : Stm), sK (alk n s a b).2.1 = sK a ∧ sK (alk n s a b).2.2 = sK b
  | 0, _, _, b => ⟨rfl, pNx_K b⟩
  | n + 1, s, a, b => by
    rw [alk_s]
    split
    · have := alk_K n (s + 1) (pNx a) (pNx b)
      exact ⟨this.1.trans (pNx_K a), this.2.trans (pNx_K b)⟩
    · exact ⟨pNx_K a, pNx_K b⟩
theorem Cls.set2 {G : GG} {c c' : CC} {σ : St} (h : Cls G c σ) {j i : Nat} (hj : j < 4) (hi : i < 4) (hji : ¬ j = i) {t u : Stm} (k : ∀ y : Nat, y ≠ 13 + 3 * j → y ≠ 13 + 3 * i → c' y = c y) (hs : StrAt G c' (13 + 3 * j) t) (ht : okK (sK t)) (hu : StrAt G c' (13 + 3 * i) u) (hk : okK (sK u)) : Cls G c' (stT (stT σ j t) i u) := by
  refine h.upd (fun y hy => k y (by omega) (by omega)) (fun y h1 h2 => k y (by omega) (by omega)) (fun a ha => ⟨(h.row ha).mono (k _ (by omega) (by omega)) (k _ (by omega) (by omega)), h.rl ha⟩) ⟨h.part.mono (k _ (by omega) (by omega)) (k _ (by omega) (by omega)), h.pl⟩ (fun a ha => ?_)
  by_cases q : a = i
  · subst q
    rw [show (stT (stT σ j t) a u).2.2 a = u from va_up_self _ _ _]
    exact ⟨hu, hk⟩
  · rw [show (stT (stT σ j t) i u).2.2 a = (va_up σ.2.2 j t) a from va_up_ne _ _ q]
    by_cases z : a = j
    · subst z
      rw [va_up_self]
      exact ⟨hs, ht⟩
    · rw [va_up_ne _ _ z]
      exact ⟨(h.str ha).mono (k _ (by omega) (by omega)) (k _ (by omega) (by omega)) (k _ (by omega) (by omega)), h.sk ha⟩
theorem okL_ite {n : Nat} {p : Prop} [Decidable p] {a b : List Int32} (ha : okL n a) (hb : okL n b) : okL n (if p then a else b) := by
  split
  · exact ha
  · exact hb
