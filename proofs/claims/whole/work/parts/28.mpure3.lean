/-! THE MODEL'S CALLS: what their tests mean -/
theorem btB_by (y : Int32) : btB y (nI 0) (nI 255) = byB y := rfl
theorem btB_pl {l : List Int32} (y : Int32) (hl : l.length < 2147483647) : btB y (nI 0) (nI l.length - nI 1) = plB l y := by
  unfold btB plB
  refine decide_eq_decide.mpr ⟨fun h => ⟨h.1, ?_⟩, fun h => ⟨h.1, ?_⟩⟩
  · by_cases q : l.length = 0
    · have h2 := h.2
      rw [q] at h2
      exact absurd (Int32.le_trans h.1 h2) (by decide)
    · have h2 := h.2
      rw [pk_sub (by omega)] at h2
      exact Int32.lt_of_le_of_lt h2 (nI_lt (by omega) (by omega))
  · obtain ⟨j, hj, rfl⟩ := ix_of (i_nlt h.1) (i_nle h.2) (by omega)
    rw [pk_sub (by omega)]
    exact (nI_leI (by omega) (by omega)).mpr (by omega)
theorem plB_nat {l : List Int32} {y : Int32} (h : plB l y = true) (hl : l.length < 2147483648) : ∃ k : Nat, k < l.length ∧ y = nI k := by
  have q := of_decide_eq_true h
  exact ix_of (i_nlt q.1) (i_nle q.2) hl
theorem okM.nx {σ : St} (h : okM σ) (j n : Nat) : okM (stT σ j (pPn n (σ.2.2 j))) := h.set (fun z q e => by rw [pPn_X] at e; rw [pPn_K]; exact z q e)
theorem lin1_p {x p q : Int32} (hp : ¬ p = nI 13) (hq : ¬ q = nI 13) : lin1 x p = lin1 x q := by
  by_cases h : x = nI 13
  · rw [l1_13 h, l1_13 h]
  · rw [l1_x h (fun z => hp z.2), l1_x h (fun z => hq z.2)]
theorem lnT_p {p q : Int32} {l : List Int32} (hp : ¬ p = nI 13) (hq : ¬ q = nI 13) : ∀ j : Nat, lnT p l j = lnT q l j
  | 0 => rfl
  | j + 1 => by
    rw [lnT_s', lnT_s', lnT_p hp hq j]
    by_cases z : j = 0
    · rw [if_pos z, if_pos z, lin1_p hp hq]
    · rw [if_neg z, if_neg z]
theorem gI_out {K : Int32} {A : List Int32} : fpK K A = gI (isLi K) 0 A := by
  unfold fpK gI
  by_cases q : isLi K = true
  · rw [if_pos q, if_pos q]
    exact lnT_p (by decide) (by decide) _
  · rw [if_neg q, if_neg q]
/-- the OUT that 'open' lays -/
theorem gI_two {K : Int32} {A B : List Int32} {z : Int32} (hl : A.length < 2147483648) (h : isTw K = true) (hz : z = if K = nI 5 then (if A.length = 0 then 0 else A.getD (A.length - 1) 0) else 0) : fpK K A ++ gI (isLi K) z B = outK K A B := by
  have h3 := of_decide_eq_true h
  unfold outK
  rcases h3 with rfl | rfl | rfl
  · rw [if_pos rfl, gI, if_neg (by decide)]
  · rw [if_neg (by decide), if_pos rfl, gI, if_pos (by decide)]
    congr 1
    rw [hz, if_pos rfl]
    by_cases q : A.length = 0
    · rw [if_pos q, q]
      exact lnT_p (by decide) (by rw [show atP A (nI 0 - nI 1) = -1 from atP_m1 A]; decide) _
    · rw [if_neg q, pk_sub (by omega), atP_nI (by omega) hl]
  · rw [if_neg (by decide), if_neg (by decide), if_pos rfl, gI, if_pos (by decide)]
    congr 1
    rw [hz, if_neg (by decide)]
    exact lnT_p (by decide) (by decide) _
theorem out_one {K : Int32} {A B : List Int32} (h : ¬ isTw K = true) : fpK K A = outK K A B := by
  have h4 : ¬ K = nI 4 := fun z => h (decide_eq_true (Or.inl z))
  have h5 : ¬ K = nI 5 := fun z => h (decide_eq_true (Or.inr (Or.inl z)))
  have h7 : ¬ K = nI 7 := fun z => h (decide_eq_true (Or.inr (Or.inr z)))
  unfold outK
  rw [if_neg h4, if_neg h5, if_neg h7]
