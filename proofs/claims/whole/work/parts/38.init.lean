/-! CONSTRUCTORS -/
theorem nw_X3_9 : NWc RX3 9 RX0 TX0 2 2 := ⟨rfl, C_X3_9, gm 60 (by decide +kernel), gm 32 (by decide +kernel), in_X0⟩
theorem nw_X3_15 : NWc RX3 15 RX1 TX1 8 3 := ⟨rfl, C_X3_15, gm 80 (by decide +kernel), gm 34 (by decide +kernel), in_X1⟩
theorem nw_X3_26 : NWc RX3 26 RX2 TX2 6 4 := ⟨rfl, C_X3_26, gm 74 (by decide +kernel), gm 33 (by decide +kernel), in_X2⟩
theorem nw_X2_9 : NWc RX2 9 RX1 TX1 8 3 := ⟨rfl, C_X2_9, gm 80 (by decide +kernel), gm 34 (by decide +kernel), in_X1⟩
theorem nw_X2_18 : NWc RX2 18 RX0 TX0 2 2 := ⟨rfl, C_X2_18, gm 60 (by decide +kernel), gm 32 (by decide +kernel), in_X0⟩
theorem nw_X1_9 : NWc RX1 9 RX0 TX0 2 2 := ⟨rfl, C_X1_9, gm 60 (by decide +kernel), gm 32 (by decide +kernel), in_X0⟩
theorem nw_L_8 : NWc RL 8 RX3 TX3 4 5 := ⟨rfl, C_L_8, gm 49 (by decide +kernel), gm 31 (by decide +kernel), in_X3⟩
theorem nw_L_111 : NWc RL 111 RX4 TX4 15 6 := ⟨rfl, C_L_111, gm 781 (by decide +kernel), gm 35 (by decide +kernel), in_X4⟩
theorem aw_int : Cond.arrayClass (newarray.typeOf .int) ∈ gws := gm 72 (by decide +kernel)
theorem aw_long : Cond.arrayClass (newarray.typeOf .long) ∈ gws := gm 832 (by decide +kernel)
theorem aw_boolean : Cond.arrayClass (newarray.typeOf .boolean) ∈ gws := gm 833 (by decide +kernel)
theorem aw_double : Cond.arrayClass (newarray.typeOf .double) ∈ gws := gm 1029 (by decide +kernel)
set_option maxRecDepth 100000 in
set_option maxHeartbeats 4000000 in
theorem c_X0_init {G : GG} {l : Launch} (u : va_W) (h0 : Nat) (v : va_W) : ML G l yX0_init (.code yX0_init cX0_init 1 none :: gws) (rmF 1 1 240 14) [.ref h0] (u ++ (h0, .inr (2, [.null, .int 0])) :: v) (fun w1 => ∃ b0 : Nat, w1 = u ++ (h0, .inr (2, [.ref b0, .int 0])) :: (v ++ [(b0, .inl (G.2.2.2 0, 240, .inl (fun _ => 0)))])) := by
  refine ML.of (by decide) rfl (Nat.le_of_ble_eq_true rfl) (fun X A hX h hin hret hDw => ?_)
  subst hX
  refine q_aload_n h 0 rfl rfl dX0_init_0 ?_
  refine q_obj h k_X0_3 ⟨by decide, by decide⟩ dX0_init_1 ?_
  refine q_aload_n h 0 rfl rfl dX0_init_4 ?_
  refine q_sipush h (v := nI 240) (by decide) dX0_init_5 ?_
  refine q_newa h aw_int (t0 := 0) (c0 := G.2.2.2 0) rfl (N := 240) (a0 := (240, .inl (fun _ => 0))) (fun _ => rfl) (by decide) (by decide) (Nat.le_of_ble_eq_true rfl) ⟨Nat.le_of_ble_eq_true rfl, Nat.le_of_ble_eq_true rfl⟩ dX0_init_8 (fun q1 => ?_)
  refine VL.eq (ws' := u ++ (h0, .inr (2, [.null, .int 0])) :: (v ++ [(q1, .inl (G.2.2.2 0, 240, .inl (fun _ => 0)))])) (by simp) ?_
  refine q_putF h hin F_X0_9 ft_X0 u.length (mid_get _ _ _) (u ++ (h0, .inr (2, [.ref q1, .int 0])) :: (v ++ [(q1, .inl (G.2.2.2 0, 240, .inl (fun _ => 0)))])) (mid_set _ _ _ _) rfl rfl rfl rfl (Nat.le_of_ble_eq_true rfl) dX0_init_10 ?_
  exact fun H locs ls hP hD hS hl => hret H locs ls _ _ _ _ (Nat.le_of_ble_eq_true rfl) (Nat.le_of_ble_eq_true rfl) dX0_init_13 ⟨_, rfl⟩ hP hD hS
set_option maxRecDepth 100000 in
set_option maxHeartbeats 4000000 in
theorem c_X1_init {G : GG} {l : Launch} (u : va_W) (h0 : Nat) (v : va_W) : ML G l yX1_init (.code yX1_init cX1_init 1 none :: gws) (rmF 2 2 242 48) [.ref h0] (u ++ (h0, .inr (3, [.null, .int 0, .int 0, .int 0, .int 0, .long 0, .int 0, .int 0])) :: v) (fun w1 => ∃ b0 b1 : Nat, w1 = u ++ (h0, .inr (3, [.ref b0, .int (-1), .int 0, .int 0, .int 0, .long 0, .int 0, .int 0])) :: (v ++ [(b0, .inr (2, [.ref b1, .int 0])), (b1, .inl (G.2.2.2 0, 240, .inl (fun _ => 0)))])) := by
  refine ML.of (by decide) rfl (Nat.le_of_ble_eq_true rfl) (fun X A hX h hin hret hDw => ?_)
  subst hX
  refine q_aload_n h 0 rfl rfl dX1_init_0 ?_
  refine q_obj h k_X1_3 ⟨by decide, by decide⟩ dX1_init_1 ?_
  refine q_aload_n h 0 rfl rfl dX1_init_4 ?_
  refine q_new h nw_X1_9 ft_X0 [.null, .int 0] (fun j hj => by rcases (show j = 0 ∨ j = 1 by omega) with rfl | rfl <;> rfl) ⟨Nat.le_of_ble_eq_true rfl, Nat.le_of_ble_eq_true rfl⟩ dX1_init_5 (fun q1 => ?_)
  refine VL.eq (ws' := u ++ (h0, .inr (3, [.null, .int 0, .int 0, .int 0, .int 0, .long 0, .int 0, .int 0])) :: (v ++ [(q1, .inr (2, [.null, .int 0]))])) (by simp) ?_
  refine q_dup h rfl dX1_init_8 ?_
  refine VL.eq (ws' := (u ++ (h0, .inr (3, [.null, .int 0, .int 0, .int 0, .int 0, .long 0, .int 0, .int 0])) :: v) ++ (q1, .inr (2, [.null, .int 0])) :: []) (by simp) ?_
  refine q_initN h k_X1_11 rfl (c_X0_init (l := xl X) (G := G) (u ++ (h0, .inr (3, [.null, .int 0, .int 0, .int 0, .int 0, .long 0, .int 0, .int 0])) :: v) q1 []) (Nat.le_of_ble_eq_true rfl) ⟨by decide, by decide, Nat.le_of_ble_eq_true rfl, Nat.le_of_ble_eq_true rfl⟩ dX1_init_9 (fun w3 p2 => ?_)
  obtain ⟨a4, rfl⟩ := p2
  refine VL.eq (ws' := u ++ (h0, .inr (3, [.null, .int 0, .int 0, .int 0, .int 0, .long 0, .int 0, .int 0])) :: (v ++ [(q1, .inr (2, [.ref a4, .int 0])), (a4, .inl (G.2.2.2 0, 240, .inl (fun _ => 0)))])) (by simp) ?_
  refine q_putF h hin F_X1_12 ft_X1 u.length (mid_get _ _ _) (u ++ (h0, .inr (3, [.ref q1, .int 0, .int 0, .int 0, .int 0, .long 0, .int 0, .int 0])) :: (v ++ [(q1, .inr (2, [.ref a4, .int 0])), (a4, .inl (G.2.2.2 0, 240, .inl (fun _ => 0)))])) (mid_set _ _ _ _) rfl rfl rfl rfl (Nat.le_of_ble_eq_true rfl) dX1_init_12 ?_
  refine q_aload_n h 0 rfl rfl dX1_init_15 ?_
  refine q_iconst h (v := -1) (by decide) dX1_init_16 ?_
  refine q_put h F_X1_18 ft_X1 u.length (mid_get _ _ _) (u ++ (h0, .inr (3, [.ref q1, .int (-1), .int 0, .int 0, .int 0, .long 0, .int 0, .int 0])) :: (v ++ [(q1, .inr (2, [.ref a4, .int 0])), (a4, .inl (G.2.2.2 0, 240, .inl (fun _ => 0)))])) (mid_set _ _ _ _) rfl rfl rfl (Nat.le_of_ble_eq_true rfl) dX1_init_17 ?_
  exact fun H locs ls hP hD hS hl => hret H locs ls _ _ _ _ (Nat.le_of_ble_eq_true rfl) (Nat.le_of_ble_eq_true rfl) dX1_init_20 ⟨_, _, rfl⟩ hP hD hS
set_option maxRecDepth 100000 in
set_option maxHeartbeats 4000000 in
theorem c_X2_init {G : GG} {l : Launch} (u : va_W) (h0 : Nat) (v : va_W) : ML G l yX2_init (.code yX2_init cX2_init 1 none :: gws) (rmF 3 7 734 102) [.ref h0] (u ++ (h0, .inr (4, [.null, .null, .null, .int 0, .int 0, .long 0])) :: v) (fun w1 => ∃ b0 b1 b2 b3 b4 b5 b6 : Nat, w1 = u ++ (h0, .inr (4, [.ref b0, .ref b3, .ref b5, .int 0, .int 0, .long 0])) :: (v ++ [(b0, .inr (3, [.ref b1, .int (-1), .int 0, .int 0, .int 0, .long 0, .int 0, .int 0])), (b1, .inr (2, [.ref b2, .int 0])), (b2, .inl (G.2.2.2 0, 240, .inl (fun _ => 0))), (b3, .inr (2, [.ref b4, .int 0])), (b4, .inl (G.2.2.2 0, 240, .inl (fun _ => 0))), (b5, .inr (2, [.ref b6, .int 0])), (b6, .inl (G.2.2.2 0, 240, .inl (fun _ => 0)))])) := by
  refine ML.of (by decide) rfl (Nat.le_of_ble_eq_true rfl) (fun X A hX h hin hret hDw => ?_)
  subst hX
  refine q_aload_n h 0 rfl rfl dX2_init_0 ?_
  refine q_obj h k_X2_3 ⟨by decide, by decide⟩ dX2_init_1 ?_
  refine q_aload_n h 0 rfl rfl dX2_init_4 ?_
  refine q_new h nw_X2_9 ft_X1 [.null, .int 0, .int 0, .int 0, .int 0, .long 0, .int 0, .int 0] (fun j hj => by rcases (show j = 0 ∨ j = 1 ∨ j = 2 ∨ j = 3 ∨ j = 4 ∨ j = 5 ∨ j = 6 ∨ j = 7 by omega) with rfl | rfl | rfl | rfl | rfl | rfl | rfl | rfl <;> rfl) ⟨Nat.le_of_ble_eq_true rfl, Nat.le_of_ble_eq_true rfl⟩ dX2_init_5 (fun q1 => ?_)
  refine VL.eq (ws' := u ++ (h0, .inr (4, [.null, .null, .null, .int 0, .int 0, .long 0])) :: (v ++ [(q1, .inr (3, [.null, .int 0, .int 0, .int 0, .int 0, .long 0, .int 0, .int 0]))])) (by simp) ?_
  refine q_dup h rfl dX2_init_8 ?_
  refine VL.eq (ws' := (u ++ (h0, .inr (4, [.null, .null, .null, .int 0, .int 0, .long 0])) :: v) ++ (q1, .inr (3, [.null, .int 0, .int 0, .int 0, .int 0, .long 0, .int 0, .int 0])) :: []) (by simp) ?_
  refine q_initN h k_X2_11 rfl (c_X1_init (l := xl X) (G := G) (u ++ (h0, .inr (4, [.null, .null, .null, .int 0, .int 0, .long 0])) :: v) q1 []) (Nat.le_of_ble_eq_true rfl) ⟨by decide, by decide, Nat.le_of_ble_eq_true rfl, Nat.le_of_ble_eq_true rfl⟩ dX2_init_9 (fun w3 p2 => ?_)
  obtain ⟨a4, a5, rfl⟩ := p2
  refine VL.eq (ws' := u ++ (h0, .inr (4, [.null, .null, .null, .int 0, .int 0, .long 0])) :: (v ++ [(q1, .inr (3, [.ref a4, .int (-1), .int 0, .int 0, .int 0, .long 0, .int 0, .int 0])), (a4, .inr (2, [.ref a5, .int 0])), (a5, .inl (G.2.2.2 0, 240, .inl (fun _ => 0)))])) (by simp) ?_
  refine q_putF h hin F_X2_12 ft_X2 u.length (mid_get _ _ _) (u ++ (h0, .inr (4, [.ref q1, .null, .null, .int 0, .int 0, .long 0])) :: (v ++ [(q1, .inr (3, [.ref a4, .int (-1), .int 0, .int 0, .int 0, .long 0, .int 0, .int 0])), (a4, .inr (2, [.ref a5, .int 0])), (a5, .inl (G.2.2.2 0, 240, .inl (fun _ => 0)))])) (mid_set _ _ _ _) rfl rfl rfl rfl (Nat.le_of_ble_eq_true rfl) dX2_init_12 ?_
  refine q_aload_n h 0 rfl rfl dX2_init_15 ?_
  refine q_new h nw_X2_18 ft_X0 [.null, .int 0] (fun j hj => by rcases (show j = 0 ∨ j = 1 by omega) with rfl | rfl <;> rfl) ⟨Nat.le_of_ble_eq_true rfl, Nat.le_of_ble_eq_true rfl⟩ dX2_init_16 (fun q6 => ?_)
  refine VL.eq (ws' := u ++ (h0, .inr (4, [.ref q1, .null, .null, .int 0, .int 0, .long 0])) :: (v ++ [(q1, .inr (3, [.ref a4, .int (-1), .int 0, .int 0, .int 0, .long 0, .int 0, .int 0])), (a4, .inr (2, [.ref a5, .int 0])), (a5, .inl (G.2.2.2 0, 240, .inl (fun _ => 0))), (q6, .inr (2, [.null, .int 0]))])) (by simp) ?_
  refine q_dup h rfl dX2_init_19 ?_
  refine VL.eq (ws' := (u ++ (h0, .inr (4, [.ref q1, .null, .null, .int 0, .int 0, .long 0])) :: (v ++ [(q1, .inr (3, [.ref a4, .int (-1), .int 0, .int 0, .int 0, .long 0, .int 0, .int 0])), (a4, .inr (2, [.ref a5, .int 0])), (a5, .inl (G.2.2.2 0, 240, .inl (fun _ => 0)))])) ++ (q6, .inr (2, [.null, .int 0])) :: []) (by simp) ?_
  refine q_initN h k_X2_20 rfl (c_X0_init (l := xl X) (G := G) (u ++ (h0, .inr (4, [.ref q1, .null, .null, .int 0, .int 0, .long 0])) :: (v ++ [(q1, .inr (3, [.ref a4, .int (-1), .int 0, .int 0, .int 0, .long 0, .int 0, .int 0])), (a4, .inr (2, [.ref a5, .int 0])), (a5, .inl (G.2.2.2 0, 240, .inl (fun _ => 0)))])) q6 []) (Nat.le_of_ble_eq_true rfl) ⟨by decide, by decide, Nat.le_of_ble_eq_true rfl, Nat.le_of_ble_eq_true rfl⟩ dX2_init_20 (fun w8 p7 => ?_)
  obtain ⟨a9, rfl⟩ := p7
  refine VL.eq (ws' := u ++ (h0, .inr (4, [.ref q1, .null, .null, .int 0, .int 0, .long 0])) :: (v ++ [(q1, .inr (3, [.ref a4, .int (-1), .int 0, .int 0, .int 0, .long 0, .int 0, .int 0])), (a4, .inr (2, [.ref a5, .int 0])), (a5, .inl (G.2.2.2 0, 240, .inl (fun _ => 0))), (q6, .inr (2, [.ref a9, .int 0])), (a9, .inl (G.2.2.2 0, 240, .inl (fun _ => 0)))])) (by simp) ?_
  refine q_putF h hin F_X2_21 ft_X2 u.length (mid_get _ _ _) (u ++ (h0, .inr (4, [.ref q1, .ref q6, .null, .int 0, .int 0, .long 0])) :: (v ++ [(q1, .inr (3, [.ref a4, .int (-1), .int 0, .int 0, .int 0, .long 0, .int 0, .int 0])), (a4, .inr (2, [.ref a5, .int 0])), (a5, .inl (G.2.2.2 0, 240, .inl (fun _ => 0))), (q6, .inr (2, [.ref a9, .int 0])), (a9, .inl (G.2.2.2 0, 240, .inl (fun _ => 0)))])) (mid_set _ _ _ _) rfl rfl rfl rfl (Nat.le_of_ble_eq_true rfl) dX2_init_23 ?_
  refine q_aload_n h 0 rfl rfl dX2_init_26 ?_
  refine q_new h nw_X2_18 ft_X0 [.null, .int 0] (fun j hj => by rcases (show j = 0 ∨ j = 1 by omega) with rfl | rfl <;> rfl) ⟨Nat.le_of_ble_eq_true rfl, Nat.le_of_ble_eq_true rfl⟩ dX2_init_27 (fun q10 => ?_)
  refine VL.eq (ws' := u ++ (h0, .inr (4, [.ref q1, .ref q6, .null, .int 0, .int 0, .long 0])) :: (v ++ [(q1, .inr (3, [.ref a4, .int (-1), .int 0, .int 0, .int 0, .long 0, .int 0, .int 0])), (a4, .inr (2, [.ref a5, .int 0])), (a5, .inl (G.2.2.2 0, 240, .inl (fun _ => 0))), (q6, .inr (2, [.ref a9, .int 0])), (a9, .inl (G.2.2.2 0, 240, .inl (fun _ => 0))), (q10, .inr (2, [.null, .int 0]))])) (by simp) ?_
  refine q_dup h rfl dX2_init_30 ?_
  refine VL.eq (ws' := (u ++ (h0, .inr (4, [.ref q1, .ref q6, .null, .int 0, .int 0, .long 0])) :: (v ++ [(q1, .inr (3, [.ref a4, .int (-1), .int 0, .int 0, .int 0, .long 0, .int 0, .int 0])), (a4, .inr (2, [.ref a5, .int 0])), (a5, .inl (G.2.2.2 0, 240, .inl (fun _ => 0))), (q6, .inr (2, [.ref a9, .int 0])), (a9, .inl (G.2.2.2 0, 240, .inl (fun _ => 0)))])) ++ (q10, .inr (2, [.null, .int 0])) :: []) (by simp) ?_
  refine q_initN h k_X2_20 rfl (c_X0_init (l := xl X) (G := G) (u ++ (h0, .inr (4, [.ref q1, .ref q6, .null, .int 0, .int 0, .long 0])) :: (v ++ [(q1, .inr (3, [.ref a4, .int (-1), .int 0, .int 0, .int 0, .long 0, .int 0, .int 0])), (a4, .inr (2, [.ref a5, .int 0])), (a5, .inl (G.2.2.2 0, 240, .inl (fun _ => 0))), (q6, .inr (2, [.ref a9, .int 0])), (a9, .inl (G.2.2.2 0, 240, .inl (fun _ => 0)))])) q10 []) (Nat.le_of_ble_eq_true rfl) ⟨by decide, by decide, Nat.le_of_ble_eq_true rfl, Nat.le_of_ble_eq_true rfl⟩ dX2_init_31 (fun w12 p11 => ?_)
  obtain ⟨a13, rfl⟩ := p11
  refine VL.eq (ws' := u ++ (h0, .inr (4, [.ref q1, .ref q6, .null, .int 0, .int 0, .long 0])) :: (v ++ [(q1, .inr (3, [.ref a4, .int (-1), .int 0, .int 0, .int 0, .long 0, .int 0, .int 0])), (a4, .inr (2, [.ref a5, .int 0])), (a5, .inl (G.2.2.2 0, 240, .inl (fun _ => 0))), (q6, .inr (2, [.ref a9, .int 0])), (a9, .inl (G.2.2.2 0, 240, .inl (fun _ => 0))), (q10, .inr (2, [.ref a13, .int 0])), (a13, .inl (G.2.2.2 0, 240, .inl (fun _ => 0)))])) (by simp) ?_
  refine q_putF h hin F_X2_25 ft_X2 u.length (mid_get _ _ _) (u ++ (h0, .inr (4, [.ref q1, .ref q6, .ref q10, .int 0, .int 0, .long 0])) :: (v ++ [(q1, .inr (3, [.ref a4, .int (-1), .int 0, .int 0, .int 0, .long 0, .int 0, .int 0])), (a4, .inr (2, [.ref a5, .int 0])), (a5, .inl (G.2.2.2 0, 240, .inl (fun _ => 0))), (q6, .inr (2, [.ref a9, .int 0])), (a9, .inl (G.2.2.2 0, 240, .inl (fun _ => 0))), (q10, .inr (2, [.ref a13, .int 0])), (a13, .inl (G.2.2.2 0, 240, .inl (fun _ => 0)))])) (mid_set _ _ _ _) rfl rfl rfl rfl (Nat.le_of_ble_eq_true rfl) dX2_init_34 ?_
  exact fun H locs ls hP hD hS hl => hret H locs ls _ _ _ _ (Nat.le_of_ble_eq_true rfl) (Nat.le_of_ble_eq_true rfl) dX2_init_37 ⟨_, _, _, _, _, _, _, rfl⟩ hP hD hS
