/-! THE LAW: the cells at the start of its loop -/
def cI (G : GG) : CC := fun i => ([.inr (5, [.ref (G.1 1), .ref (G.1 2), .ref (G.1 11), .ref (G.1 25)]), .inl (G.2.2.2 4, 4, .inr (.inr (.inr (.inr (va_up (va_up (va_up (va_up (fun _ => none) 0 (some (G.1 3))) 1 (some (G.1 5))) 2 (some (G.1 7))) 3 (some (G.1 9))))))), .inl (G.2.2.2 5, 4, .inr (.inr (.inr (.inr (va_up (va_up (va_up (va_up (fun _ => none) 0 (some (G.1 13))) 1 (some (G.1 16))) 2 (some (G.1 19))) 3 (some (G.1 22))))))), .inr (2, [.ref (G.1 4), .int 0]), .inl (G.2.2.2 0, 240, .inl (fun _ => 0)), .inr (2, [.ref (G.1 6), .int 0]), .inl (G.2.2.2 0, 240, .inl (fun _ => 0)), .inr (2, [.ref (G.1 8), .int 0]), .inl (G.2.2.2 0, 240, .inl (fun _ => 0)), .inr (2, [.ref (G.1 10), .int 0]), .inl (G.2.2.2 0, 240, .inl (fun _ => 0)), .inr (2, [.ref (G.1 12), .int 0]), .inl (G.2.2.2 0, 240, .inl (fun _ => 0)), .inr (3, [.ref (G.1 14), .int (-1), .int 0, .int 0, .int 0, .long 0, .int 0, .int 0]), .inr (2, [.ref (G.1 15), .int 0]), .inl (G.2.2.2 0, 240, .inl (fun _ => 0)), .inr (3, [.ref (G.1 17), .int (-1), .int 0, .int 0, .int 0, .long 0, .int 0, .int 0]), .inr (2, [.ref (G.1 18), .int 0]), .inl (G.2.2.2 0, 240, .inl (fun _ => 0)), .inr (3, [.ref (G.1 20), .int (-1), .int 0, .int 0, .int 0, .long 0, .int 0, .int 0]), .inr (2, [.ref (G.1 21), .int 0]), .inl (G.2.2.2 0, 240, .inl (fun _ => 0)), .inr (3, [.ref (G.1 23), .int (-1), .int 0, .int 0, .int 0, .long 0, .int 0, .int 0]), .inr (2, [.ref (G.1 24), .int 0]), .inl (G.2.2.2 0, 240, .inl (fun _ => 0)), .inr (4, [.ref (G.1 26), .ref (G.1 29), .ref (G.1 31), .int 0, .int 0, .long 0]), .inr (3, [.ref (G.1 27), .int (-1), .int 0, .int 0, .int 0, .long 0, .int 0, .int 0]), .inr (2, [.ref (G.1 28), .int 0]), .inl (G.2.2.2 0, 240, .inl (fun _ => 0)), .inr (2, [.ref (G.1 30), .int 0]), .inl (G.2.2.2 0, 240, .inl (fun _ => 0)), .inr (2, [.ref (G.1 32), .int 0]), .inl (G.2.2.2 0, 240, .inl (fun _ => 0)), .inr (6, [.int 0, .ref (G.1 34), .ref (G.1 35), .ref (G.1 36), .int 0, .ref (G.1 37), .ref (G.1 38), .ref (G.1 39), .ref (G.1 40), .ref (G.1 41), .ref (G.1 42), .ref (G.1 43), .ref (G.1 44), .ref (G.1 45), .ref (G.1 46)]), .inl (G.2.2.2 0, 480, .inl (fun _ => 0)), .inl (G.2.2.2 0, 4, .inl (fun _ => 0)), .inl (G.2.2.2 0, 64, .inl (fun _ => 0)), .inl (G.2.2.2 0, 4, .inl (upd (upd (upd (upd (fun _ => 0) 0 (-1)) 1 (-1)) 2 (-1)) 3 (-1))), .inl (G.2.2.2 0, 960, .inl (fun _ => 0)), .inl (G.2.2.2 0, 4, .inl (fun _ => 0)), .inl (G.2.2.2 0, 4, .inl (fun _ => 0)), .inl (G.2.2.2 0, 4, .inl (fun _ => 0)), .inl (G.2.2.2 0, 4, .inl (fun _ => 0)), .inl (G.2.2.2 1, 4, .inr (.inl (fun _ => 0))), .inl (G.2.2.2 2, 4, .inl (fun _ => 0)), .inl (G.2.2.2 0, 4, .inl (fun _ => 0)), .inl (G.2.2.2 0, 4, .inl (fun _ => 0)), .inl (G.2.2.2 1, 1, .inr (.inl (fun _ => 0))), .inl (G.2.2.2 3, 1, .inr (.inr (.inr (.inl (fun _ => 0)))))] : List va_E).getD i (.inr (0, []))
def sI : Stm := (-1, [], 0, 0, 0, 0, none)
def σI : St := (fun _ => [], [], fun _ => sI)
theorem row_I {G : GG} {c : CC} {i : Nat} (h0 : c i = .inr (2, [.ref (G.1 (i + 1)), .int 0])) (h1 : c (i + 1) = .inl (G.2.2.2 0, 240, .inl (fun _ => 0))) : RowAt G c i [] := ⟨h0, Nat.zero_le _, _, h1, fun j hj => absurd hj (Nat.not_lt_zero _)⟩
theorem okS_I : okS sI := ⟨Nat.le_refl _, fun j hj => absurd hj (Nat.not_lt_zero _), ⟨0, by decide, rfl⟩, Nat.le_refl _, fun p n z => nomatch z⟩
theorem str_I {G : GG} {c : CC} {i : Nat} (h0 : c i = .inr (3, [.ref (G.1 (i + 1)), .int (-1), .int 0, .int 0, .int 0, .long 0, .int 0, .int 0])) (h1 : c (i + 1) = .inr (2, [.ref (G.1 (i + 1 + 1)), .int 0])) (h2 : c (i + 1 + 1) = .inl (G.2.2.2 0, 240, .inl (fun _ => 0))) : StrAt G c i sI := by
  refine ⟨okS_I, row_I h1 h2, 0, 0, 0, ?_, fun z => absurd z (by decide), Or.inl rfl⟩
  rw [h0, show nI (seC (sK sI) (sM sI)) = 0 by decide +kernel, show nI (sP sI) = 0 by decide +kernel]
  rfl
theorem Cls_I (G : GG) : Cls G (cI G) σI := by
  refine ⟨rfl, ⟨_, rfl, fun j hj => ?_⟩, ⟨_, rfl, fun j hj => ?_⟩, fun j hj => ⟨?_, Nat.zero_le _, fun k hk => absurd hk (Nat.not_lt_zero _)⟩, ⟨row_I rfl rfl, Nat.zero_le _, fun k hk => absurd hk (Nat.not_lt_zero _)⟩, fun j hj => ⟨?_, Or.inl rfl⟩, ⟨0, 0, 0, rfl⟩, ⟨sI, str_I rfl rfl rfl⟩, ⟨[], row_I rfl rfl⟩, [], row_I rfl rfl⟩
  · match j, hj with
    | 0, _ => rfl
    | 1, _ => rfl
    | 2, _ => rfl
    | 3, _ => rfl
    | j + 4, hj => exact absurd hj (by omega)
  · match j, hj with
    | 0, _ => rfl
    | 1, _ => rfl
    | 2, _ => rfl
    | 3, _ => rfl
    | j + 4, hj => exact absurd hj (by omega)
  · match j, hj with
    | 0, _ => exact row_I rfl rfl
    | 1, _ => exact row_I rfl rfl
    | 2, _ => exact row_I rfl rfl
    | 3, _ => exact row_I rfl rfl
    | j + 4, hj => exact absurd hj (by omega)
  · match j, hj with
    | 0, _ => exact str_I rfl rfl rfl
    | 1, _ => exact str_I rfl rfl rfl
    | 2, _ => exact str_I rfl rfl rfl
    | 3, _ => exact str_I rfl rfl rfl
    | j + 4, hj => exact absurd hj (by omega)
theorem Mdl_I (G : GG) : Mdl G (cI G) σI 0 := by
  refine ⟨rfl, ⟨_, rfl, fun i hi k hk => absurd hk (Nat.not_lt_zero _)⟩, ⟨_, rfl, fun i hi => ?_⟩, ⟨_, rfl, fun k hk => absurd hk (Nat.not_lt_zero _)⟩, ⟨_, rfl, fun i hi => ?_⟩, ⟨_, rfl, fun i hi k hk => absurd hk (Nat.not_lt_zero _)⟩, ⟨_, rfl, fun i hi => ?_⟩, ⟨_, rfl, fun i hi => ?_⟩, ⟨_, rfl, fun i hi => ?_⟩, ⟨_, rfl, fun i hi => ?_⟩, ⟨_, rfl, fun i hi => ?_⟩, ⟨_, rfl, fun i hi => ?_⟩, ⟨_, rfl, fun i hi p n z => nomatch z⟩, ⟨_, rfl, fun i hi p n z => nomatch z⟩, ⟨fun i hi => Nat.zero_le _, Nat.zero_le _, fun i hi => Nat.zero_le _⟩⟩
  · rfl
  · match i, hi with
    | 0, _ => rfl
    | 1, _ => rfl
    | 2, _ => rfl
    | 3, _ => rfl
    | i + 4, hi => exact absurd hi (by omega)
  · rfl
  · rfl
  · rfl
  · rfl
  · rfl
  · rfl
theorem LI_I (G : GG) : LI G (cI G) σI := ⟨Cls_I G, ⟨0, Mdl_I G⟩, (fun j hj q z => nomatch z), ⟨_, rfl⟩, ⟨_, rfl⟩⟩
