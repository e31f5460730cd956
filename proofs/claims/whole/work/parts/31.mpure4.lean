/-! THE MODEL'S CALLS, their mathematics -/
theorem bk_tw {t : Stm} (hM : ∀ q : Nat × Int32, sX t = some q → canM (sK t) = true) (h : isTw (sK t) = true) : pBp t = none := by
  have h3 := of_decide_eq_true h
  have hn : sX t = none := by
    cases hx : sX t with
    | none => rfl
    | some q =>
      have := hM q hx
      rcases h3 with e | e | e <;> (rw [e] at this; exact absurd this (by decide))
  unfold pBp
  rw [hn]
  dsimp only
  rw [if_neg]
  rcases h3 with e | e | e <;> (rw [e]; decide)
theorem bk_ln {t : Stm} (h : hasL (sK t) = true) (hn : sX t = none) : pBp t = none := by
  have h3 := of_decide_eq_true h
  unfold pBp
  rw [hn]
  dsimp only
  rw [if_neg]
  rcases h3 with e | e | e <;> (rw [e]; decide)
theorem bk_none {t : Stm} (ho : okK (sK t)) (h1 : ¬ (sK t = -1 ∨ isTw (sK t) = true)) (h2 : ¬ (hasL (sK t) = true ∧ sX t = none)) (hn : sX t = none) : pBp t = some (0, nI 0) := by
  obtain ⟨i, hi, e⟩ := ho.resolve_left (fun z => h1 (Or.inl z))
  unfold pBp
  rw [hn]
  dsimp only
  rw [if_pos]
  rw [e] at h1 h2 ⊢
  have : i = 0 ∨ i = 1 ∨ i = 2 ∨ i = 3 ∨ i = 4 ∨ i = 5 ∨ i = 6 ∨ i = 7 := by omega
  rcases this with rfl | rfl | rfl | rfl | rfl | rfl | rfl | rfl
  · decide
  · decide
  · exact absurd ⟨by decide, hn⟩ h2
  · decide
  · exact absurd (Or.inr (by decide)) h1
  · exact absurd (Or.inr (by decide)) h1
  · exact absurd ⟨by decide, hn⟩ h2
  · exact absurd (Or.inr (by decide)) h1
theorem bk_some {t : Stm} {q : Nat × Int32} (h : sX t = some q) : pBp t = some q := by
  unfold pBp
  rw [h]
theorem f_back_no {σ : St} {j : Nat} (hj : j < 4) (h : sK (σ.2.2 j) = -1 ∨ pBp (σ.2.2 j) = none) : f_back σ (nI j) = (2, 0, σ) := by
  rcases h with h | h <;> simp [f_back, opn, ixB_yes hj, ixN_nI hj, h]
theorem f_back_ok {σ : St} {j : Nat} (hj : j < 4) (hop : ¬ sK (σ.2.2 j) = -1) {q : Nat × Int32} (h : pBp (σ.2.2 j) = some q) : f_back σ (nI j) = (0, shL (pBk (σ.2.2 j) q), stT σ j (pBk (σ.2.2 j) q)) := by
  simp [f_back, opn, ixB_yes hj, ixN_nI hj, h, hop]
theorem li_of {K : Int32} (h : hasL K = true) : isLi K = true := by
  unfold isLi
  rw [h]
  rfl
theorem li_7 {K : Int32} (h : K = nI 7) : isLi K = true := by
  rw [h]
  decide
theorem li_no {K : Int32} (h : ¬ hasL K = true) (h7 : ¬ K = nI 7) : ¬ isLi K = true := by
  unfold isLi
  rw [(Bool.not_eq_true _).mp h, decide_eq_false h7]
  decide
theorem l_ext {a b : List Int32} (h : a.length = b.length) (k : ∀ i : Nat, i < a.length → a.getD i 0 = b.getD i 0) : a = b := by
  refine List.ext_getElem h (fun i h1 h2 => ?_)
  have := k i h1
  rw [List.getD_eq_getElem?_getD, List.getD_eq_getElem?_getD, List.getElem?_eq_getElem h1, List.getElem?_eq_getElem h2] at this
  exact this
theorem set_get {l : List Int32} {k i : Nat} {v : Int32} (hk : k < l.length) : (l.set k v).getD i 0 = if i = k then v else l.getD i 0 := by
  rw [List.getD_eq_getElem?_getD, List.getElem?_set]
  by_cases q : k = i
  · subst q
    rw [if_pos rfl, if_pos rfl, if_pos hk]
    rfl
  · rw [if_neg q, if_neg (fun z => q z.symm), List.getD_eq_getElem?_getD]
theorem i64_as (a b c : Int64) : a + b - c = a + (b - c) := by
  rw [Int64.sub_eq_add_neg, Int64.sub_eq_add_neg, Int64.add_assoc]
theorem okS_pn {t : Stm} (h : okS t) : ∀ n : Nat, okS (pPn n t)
  | 0 => h
  | n + 1 => okS_nx (okS_pn h n)
theorem seC_j {K : Int32} {M : Nat} (h : K = nI 4 ∨ K = nI 7) : seC K M = M := by
  unfold seC
  rw [if_pos h]
theorem seC_n {K : Int32} {M : Nat} (h4 : ¬ K = nI 4) (h7 : ¬ K = nI 7) : seC K M = 0 := by
  unfold seC
  rw [if_neg (fun z => z.elim h4 h7)]
theorem stT_comm (σ : St) {j i : Nat} (h : ¬ j = i) (a b : Stm) : stT (stT σ j a) i b = stT (stT σ i b) j a := by
  show (σ.1, σ.2.1, va_up (va_up σ.2.2 j a) i b) = (σ.1, σ.2.1, va_up (va_up σ.2.2 i b) j a)
  congr 2
  funext k
  by_cases q : k = i
  · subst q
    rw [va_up_self, va_up_ne _ _ (fun z => h z.symm), va_up_self]
  · rw [va_up_ne _ _ q]
    by_cases z : k = j
    · subst z
      rw [va_up_self, va_up_self]
    · rw [va_up_ne _ _ z, va_up_ne _ _ z, va_up_ne _ _ q]
theorem nI_eq_iff {j i : Nat} (hj : j < 4) (hi : i < 4) : nI j = nI i ↔ j = i := nI_eq (by omega) (by omega)
