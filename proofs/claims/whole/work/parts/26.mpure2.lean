/-! THE MODEL'S CELLS, two: one stream or one source in hand -/
theorem va_up_up {α : Type} (f : Nat → α) (k : Nat) (a b : α) : va_up (va_up f k a) k b = va_up f k b := by
  funext i
  by_cases q : i = k
  · subst q
    rw [va_up_self, va_up_self]
  · rw [va_up_ne _ _ q, va_up_ne _ _ q, va_up_ne _ _ q]
theorem va_up_id {α : Type} (f : Nat → α) (k : Nat) : va_up f k (f k) = f := by
  funext i
  by_cases q : i = k
  · subst q
    rw [va_up_self]
  · rw [va_up_ne _ _ q]
theorem stT_stT (σ : St) (j : Nat) (a b : Stm) : stT (stT σ j a) j b = stT σ j b := by
  show (σ.1, σ.2.1, va_up (va_up σ.2.2 j a) j b) = (σ.1, σ.2.1, va_up σ.2.2 j b)
  rw [va_up_up]
theorem stS_stS (σ : St) (j : Nat) (a b : List Int32) : stS (stS σ j a) j b = stS σ j b := by
  show (va_up (va_up σ.1 j a) j b, σ.2) = (va_up σ.1 j b, σ.2)
  rw [va_up_up]
theorem stT_at (σ : St) (j : Nat) (a : Stm) : (stT σ j a).2.2 j = a := va_up_self _ _ _
theorem stS_at (σ : St) (j : Nat) (a : List Int32) : (stS σ j a).1 j = a := va_up_self _ _ _
theorem stT_id (σ : St) (j : Nat) : stT σ j (σ.2.2 j) = σ := by
  show (σ.1, σ.2.1, va_up σ.2.2 j (σ.2.2 j)) = σ
  rw [va_up_id]
theorem stS_id (σ : St) (j : Nat) : stS σ j (σ.1 j) = σ := by
  show (va_up σ.1 j (σ.1 j), σ.2) = σ
  rw [va_up_id]
theorem Mdl.inT {G : GG} {c : CC} {σ : St} {th : Int32} (h : Mdl G c σ th) (j : Nat) : Mdl G c (stT σ j (σ.2.2 j)) th := h.eq (stT_id σ j).symm
theorem Mdl.inS {G : GG} {c : CC} {σ : St} {th : Int32} (h : Mdl G c σ th) (j : Nat) : Mdl G c (stS σ j (σ.1 j)) th := h.eq (stS_id σ j).symm
theorem btB_3 {x : Int32} : btB x (nI 0) (nI 3) = ixB x := by
  unfold btB ixB
  refine decide_eq_decide.mpr ⟨fun h => ⟨h.1, Int32.lt_of_le_of_lt h.2 (by decide)⟩, fun h => ⟨h.1, ?_⟩⟩
  obtain ⟨j, hj, rfl⟩ := ix4 (i_nlt h.1) h.2
  exact (nI_leI (by omega) (by omega)).mpr (by omega)
theorem mx_0 {m : Nat} (h : m < 4294967296) (u : ¬ lg_cmp (lN (m % 2)) 1 = 0) : lN (m / 2) = wb1 (lN m) := by
  rw [wb1_lN h]
  have : m % 2 = 0 := by
    refine Classical.byContradiction (fun z => u (lg0.mpr ?_))
    rw [show m % 2 = 1 by omega]
    rfl
  rw [if_pos this]
theorem mx_1 {m : Nat} (h : m < 4294967296) (u : lg_cmp (lN (m % 2)) 1 = 0) : lN (m / 2) ^^^ 2197175160 = wb1 (lN m) := by
  rw [wb1_lN h]
  have z := lg0.mp u
  have : ¬ m % 2 = 0 := by
    intro y
    rw [y] at z
    exact absurd z (by decide)
  rw [if_neg this]
  exact lN_xor _ _
/-- what goes into an OUT of a source -/
def gI (b : Bool) (p : Int32) (l : List Int32) : List Int32 := if b = true then lnT p l l.length else l
theorem gI_len (b : Bool) (p : Int32) (l : List Int32) : (gI b p l).length ≤ l.length := by
  unfold gI
  split
  · exact lnT_len _ _ _
  · exact Nat.le_refl _
def gJ (b : Bool) (p : Int32) (l : List Int32) (j : Nat) : List Int32 := if b = true then lnT p l j else l.take j
theorem gJ_len (b : Bool) (p : Int32) (l : List Int32) (j : Nat) : (gJ b p l j).length ≤ j := by
  unfold gJ
  split
  · exact lnT_len _ _ _
  · rw [List.length_take]
    exact Nat.min_le_left _ _
theorem gJ_I (b : Bool) (p : Int32) (l : List Int32) : gJ b p l l.length = gI b p l := by
  unfold gJ gI
  rw [List.take_length]
theorem gJ_0 (b : Bool) (p : Int32) (l : List Int32) : gJ b p l 0 = [] := by
  unfold gJ
  split <;> rfl
theorem lnT_s' (p : Int32) (l : List Int32) (j : Nat) : lnT p l (j + 1) = lnS (lnT p l j) (lin1 (l.getD j 0) (if j = 0 then p else l.getD (j - 1) 0)) := rfl
theorem gJ_no {b : Bool} {p : Int32} {l : List Int32} {j : Nat} (hb : ¬ b = true) (hj : j < l.length) : gJ b p l (j + 1) = gJ b p l j ++ [l.getD j 0] := by
  unfold gJ
  rw [if_neg hb, if_neg hb, take_snoc hj]
theorem gJ_13 {b : Bool} {p : Int32} {l : List Int32} {j : Nat} (hb : b = true) (h : l.getD j 0 = nI 13) : gJ b p l (j + 1) = gJ b p l j ++ [nI 10] := by
  unfold gJ
  rw [if_pos hb, if_pos hb, lnT_s', l1_13 h, lnS_x n10_m1]
theorem gJ_x {b : Bool} {p q : Int32} {l : List Int32} {j : Nat} (hb : b = true) (hq : q = if j = 0 then p else l.getD (j - 1) 0) (h : ¬ l.getD j 0 = nI 13) (h2 : ¬ (l.getD j 0 = nI 10 ∧ q = nI 13)) (h3 : ¬ l.getD j 0 = -1) : gJ b p l (j + 1) = gJ b p l j ++ [l.getD j 0] := by
  unfold gJ
  rw [if_pos hb, if_pos hb, lnT_s', ← hq, l1_x h h2, lnS_x h3]
theorem gJ_m {b : Bool} {p q : Int32} {l : List Int32} {j : Nat} (hb : b = true) (hq : q = if j = 0 then p else l.getD (j - 1) 0) (h : l.getD j 0 = nI 10) (h2 : q = nI 13) : gJ b p l (j + 1) = gJ b p l j := by
  unfold gJ
  rw [if_pos hb, if_pos hb, lnT_s', ← hq, l1_m1 h h2, lnS_m1]
theorem ec_yes {l : List Int32} {j : Nat} (h : lin1 (l.getD j 0) (atP l (nI j - 1)) = 10) : ecT l (j + 1) = ecT l j + 1 := by
  show ecT l j + (if lin1 (l.getD j 0) (atP l (nI j - 1)) = 10 then 1 else 0) = _
  rw [if_pos h]
theorem ec_no {l : List Int32} {j : Nat} (h : ¬ lin1 (l.getD j 0) (atP l (nI j - 1)) = 10) : ecT l (j + 1) = ecT l j := by
  show ecT l j + (if lin1 (l.getD j 0) (atP l (nI j - 1)) = 10 then 1 else 0) = _
  rw [if_neg h]
  rfl
theorem ecT_le (l : List Int32) : ∀ j : Nat, ecT l j ≤ j
  | 0 => Nat.le_refl 0
  | j + 1 => by
    have := ecT_le l j
    show ecT l j + (if _ then 1 else 0) ≤ _
    split <;> omega
theorem ec_13 {x p : Int32} (h : x = nI 13) : lin1 x p = 10 := l1_13 h
theorem ec_10 {x p : Int32} (h : x = nI 10) (q : ¬ p = nI 13) : lin1 x p = 10 := by
  rw [l1_x (by rw [h]; decide) (fun z => q z.2), h]
  rfl
theorem ec_2 {x p : Int32} (h : x = nI 10) (q : p = nI 13) : ¬ lin1 x p = 10 := by
  rw [l1_m1 h q]
  decide
theorem ec_n {x p : Int32} (h : ¬ x = nI 13) (h2 : ¬ x = nI 10) : ¬ lin1 x p = 10 := by
  rw [l1_x h (fun z => h2 z.1)]
  exact h2
theorem prev_0 {l : List Int32} : atP l (nI 0 - 1) = -1 := atP_m1 l
theorem prev_s {l : List Int32} {j : Nat} (h0 : 0 < j) (h : j < l.length) (hl : l.length < 2147483648) : atP l (nI j - 1) = l.getD (j - 1) 0 := by
  rw [show (1 : Int32) = nI 1 from rfl, pk_sub (by omega), atP_nI (by omega) hl]
theorem nI_add0 (x : Int32) : x + nI 0 = x := Int32.add_zero x
theorem Mdl.uK {G : GG} {c c' : CC} {σ : St} {th : Int32} {j : Nat} {t : Stm} (hm : Mdl G c (stT σ j t) th) (hj : j < 4) {K : Int32} {f : Nat → Int32} (hq : q37 (stT σ j t) f) (h : c' 37 = .inl (G.2.2.2 0, 4, .inl (upd f j (K)))) (hk : ∀ y : Nat, y ≠ 37 → c' y = c y) : Mdl G c' (stT σ j (tK t K)) th := (hm.setK hj hq h hk).eq (by rw [stT_at, stT_stT])
theorem Mdl.uM {G : GG} {c c' : CC} {σ : St} {th : Int32} {j : Nat} {t : Stm} (hm : Mdl G c (stT σ j t) th) (hj : j < 4) {M : Nat} {f : Nat → Int32} (hq : q40 (stT σ j t) f) (h : c' 40 = .inl (G.2.2.2 0, 4, .inl (upd f j (nI M)))) (hk : ∀ y : Nat, y ≠ 40 → c' y = c y) : Mdl G c' (stT σ j (tM t M)) th := (hm.setM hj hq h hk).eq (by rw [stT_at, stT_stT])
theorem Mdl.uP {G : GG} {c c' : CC} {σ : St} {th : Int32} {j : Nat} {t : Stm} (hm : Mdl G c (stT σ j t) th) (hj : j < 4) {p : Nat} {f : Nat → Int32} (hq : q41 (stT σ j t) f) (h : c' 41 = .inl (G.2.2.2 0, 4, .inl (upd f j (nI p)))) (hk : ∀ y : Nat, y ≠ 41 → c' y = c y) : Mdl G c' (stT σ j (tP t p)) th := (hm.setP hj hq h hk).eq (by rw [stT_at, stT_stT])
theorem Mdl.uN {G : GG} {c c' : CC} {σ : St} {th : Int32} {j : Nat} {t : Stm} (hm : Mdl G c (stT σ j t) th) (hj : j < 4) {n : Int32} {f : Nat → Int32} (hq : q42 (stT σ j t) f) (h : c' 42 = .inl (G.2.2.2 0, 4, .inl (upd f j (n)))) (hk : ∀ y : Nat, y ≠ 42 → c' y = c y) : Mdl G c' (stT σ j (tN t n)) th := (hm.setN hj hq h hk).eq (by rw [stT_at, stT_stT])
theorem Mdl.uG {G : GG} {c c' : CC} {σ : St} {th : Int32} {j : Nat} {t : Stm} (hm : Mdl G c (stT σ j t) th) (hj : j < 4) {g : Int64} {f : Nat → Int64} (hq : q43 (stT σ j t) f) (h : c' 43 = .inl (G.2.2.2 1, 4, .inr (.inl (vp_updL f j (g))))) (hk : ∀ y : Nat, y ≠ 43 → c' y = c y) : Mdl G c' (stT σ j (tG t g)) th := (hm.setG hj hq h hk).eq (by rw [stT_at, stT_stT])
theorem Mdl.uO {G : GG} {c c' : CC} {σ : St} {th : Int32} {j : Nat} {t : Stm} (hm : Mdl G c (stT σ j t) th) (hj : j < 4) {f : Nat → Int32} (hq : q39 (stT σ j t) f) (h : c' 39 = .inl (G.2.2.2 0, 4, .inl (upd f j (nI 0)))) (hk : ∀ y : Nat, y ≠ 39 → c' y = c y) : Mdl G c' (stT σ j (tO t [])) th := (hm.clrO hj hq h hk).eq (by rw [stT_at, stT_stT])
theorem Mdl.uZ {G : GG} {c c' : CC} {σ : St} {th : Int32} {j : Nat} {t : Stm} (hm : Mdl G c (stT σ j t) th) (hj : j < 4) {f : Nat → Int32} (hq : q44 (stT σ j t) f) (h : c' 44 = .inl (G.2.2.2 2, 4, .inl (upd f j 0))) (hk : ∀ y : Nat, y ≠ 44 → c' y = c y) : Mdl G c' (stT σ j (tX t none)) th := (hm.clrX hj hq h hk).eq (by rw [stT_at, stT_stT])
theorem Mdl.uX {G : GG} {c c' : CC} {σ : St} {th : Int32} {j : Nat} {t : Stm} (hm : Mdl G c (stT σ j t) th) (hj : j < 4) {p : Nat} {n : Int32} {f g h : Nat → Int32} (hf : q44 (stT σ j t) f) (h44 : c' 44 = .inl (G.2.2.2 2, 4, .inl (upd f j 1))) (hg : q45 (stT σ j t) g) (h45 : c' 45 = .inl (G.2.2.2 0, 4, .inl (upd g j (nI p)))) (hh : q46 (stT σ j t) h) (h46 : c' 46 = .inl (G.2.2.2 0, 4, .inl (upd h j n))) (hk : ∀ y : Nat, y ≠ 44 → y ≠ 45 → y ≠ 46 → c' y = c y) : Mdl G c' (stT σ j (tX t (some (p, n)))) th := (hm.setX hj hf h44 hg h45 hh h46 hk).eq (by rw [stT_at, stT_stT])
theorem Mdl.uC {G : GG} {c c' : CC} {σ : St} {th : Int32} {j : Nat} {t : Stm} (hm : Mdl G c (stT σ j t) th) (hj : j < 4) {x : Int32} (hl : (sO t).length < 240) {f g : Nat → Int32} (hf : q38 (stT σ j t) f) (h38 : c' 38 = .inl (G.2.2.2 0, 960, .inl (upd f (240 * j + (sO t).length) x))) (hg : q39 (stT σ j t) g) (h39 : c' 39 = .inl (G.2.2.2 0, 4, .inl (upd g j (nI ((sO t).length + 1))))) (hk : ∀ y : Nat, y ≠ 38 → y ≠ 39 → c' y = c y) : Mdl G c' (stT σ j (tO t (sO t ++ [x]))) th := by
  have e := stT_at σ j t
  have h1 := hm.comes hj (x := x) (c' := c') (by rw [e]; exact hl) hf (by rw [e]; exact h38) hg (by rw [e]; exact h39) hk
  rw [e, stT_stT] at h1
  exact h1
theorem Mdl.uS {G : GG} {c c' : CC} {σ : St} {th : Int32} {j : Nat} {l : List Int32} (hm : Mdl G c (stS σ j l) th) (hj : j < 4) {x : Int32} (hl : l.length < 120) {f g : Nat → Int32} (hf : q34 (stS σ j l) f) (h34 : c' 34 = .inl (G.2.2.2 0, 480, .inl (upd f (120 * j + l.length) x))) (hg : q35 (stS σ j l) g) (h35 : c' 35 = .inl (G.2.2.2 0, 4, .inl (upd g j (nI (l.length + 1))))) (hk : ∀ y : Nat, y ≠ 34 → y ≠ 35 → c' y = c y) : Mdl G c' (stS σ j (l ++ [x])) th := by
  have e := stS_at σ j l
  have h1 := hm.adds hj (x := x) (c' := c') (by rw [e]; exact hl) hf (by rw [e]; exact h34) hg (by rw [e]; exact h35) hk
  rw [e, stS_stS] at h1
  exact h1
theorem okR_x {g : Int64} {x : Int32} (hg : okR g) (hx : isB x) : okR (g ^^^ x.toInt64) := by
  obtain ⟨m, hm, rfl⟩ := hg
  obtain ⟨k, hk, rfl⟩ := hx
  rw [nI_l (by omega), lN_xor]
  exact ⟨_, xor_lt hm (by omega), rfl⟩
