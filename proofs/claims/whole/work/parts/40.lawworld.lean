/-! THE LAW: the world out of the premises; what its loop keeps -/
theorem in_J0 : ∀ w ∈ u_ws RJ0 TJ0 2, w ∈ gws := gml _ [418, 420] (by decide +kernel) (by decide +kernel)
theorem in_Jx : ∀ w ∈ u_ws RJx00060 TJx00060 6, w ∈ gws := gml _ [384, 386, 388, 390, 392, 394] (by decide +kernel) (by decide +kernel)
theorem K_prim {A : Array Value} {s : State} {ty : FieldType} (h : (Cond.arrayClass ty).before A s = true) : ∃ cA : ClassId, ArrOfT s cA ty ∧ s.vm.findClass ("[" ++ ty.toString) = some cA := by
  obtain ⟨cA, kA, comp, h1, h2, h3⟩ := Cond.arrayClass_spec h
  exact ⟨cA, fun n z => ⟨fun k h => (by cases h), kA, h2, comp, h3⟩, h1⟩
theorem K_ref {A : Array Value} {s : State} {C : String} (h : (Cond.arrayOver (.object C)).before A s = true) : ∃ cA : ClassId, ArrOfT s cA (.object C) ∧ va_RA s cA (.object C) := by
  obtain ⟨comp, cA, kA, f1, _, f2, f3, f4⟩ := Cond.arrayOver_spec h
  exact ⟨cA, fun n z => ⟨fun k h => (by cases h), kA, f2, comp, f3⟩, kA, comp, f2, f3, f1, f4⟩
theorem tb_mem {w : Cond} (i : Nat) (h : lw_tbl[i]? = some w) : w ∈ lw_tbl := List.mem_of_getElem? h
theorem world_K {A : Array Value} {s : State} (hts : ∀ w ∈ lw_tbl, w.before A s = true) : ∃ G : GG, va_K (gD G) vwCl (gl_tys G) s := by
  have hg : ∀ w ∈ gws, w.before A s = true := fun w h => hts w (gws_sub h)
  obtain ⟨c0, i0, k0⟩ := u_known (C := RJ0) (T := TJ0) (N := 2) (n := 4) hg in_J0 (hts (.instantiable RJ0 4) (tb_mem 416 (by decide +kernel)))
  obtain ⟨c1, i1, k1⟩ := u_known (C := RJx00060) (T := TJx00060) (N := 6) (n := 6) hg in_Jx (hts (.instantiable RJx00060 6) (tb_mem 343 (by decide +kernel)))
  obtain ⟨c2, i2, k2⟩ := u_known (C := RX0) (T := TX0) (N := 2) (n := 2) hg in_X0 (hts (.instantiable RX0 2) (tb_mem 60 (by decide +kernel)))
  obtain ⟨c3, i3, k3⟩ := u_known (C := RX1) (T := TX1) (N := 8) (n := 8) hg in_X1 (hts (.instantiable RX1 8) (tb_mem 80 (by decide +kernel)))
  obtain ⟨c4, i4, k4⟩ := u_known (C := RX2) (T := TX2) (N := 6) (n := 6) hg in_X2 (hts (.instantiable RX2 6) (tb_mem 74 (by decide +kernel)))
  obtain ⟨c5, i5, k5⟩ := u_known (C := RX3) (T := TX3) (N := 4) (n := 4) hg in_X3 (hts (.instantiable RX3 4) (tb_mem 49 (by decide +kernel)))
  obtain ⟨c6, i6, k6⟩ := u_known (C := RX4) (T := TX4) (N := 15) (n := 15) hg in_X4 (hts (.instantiable RX4 15) (tb_mem 781 (by decide +kernel)))
  obtain ⟨a0, z0, y0⟩ := K_prim (hts (.arrayClass .int) (tb_mem 72 (by decide +kernel)))
  obtain ⟨a1, z1, y1⟩ := K_prim (hts (.arrayClass .long) (tb_mem 832 (by decide +kernel)))
  obtain ⟨a2, z2, y2⟩ := K_prim (hts (.arrayClass .boolean) (tb_mem 833 (by decide +kernel)))
  obtain ⟨a3, z3, y3⟩ := K_prim (hts (.arrayClass .double) (tb_mem 1029 (by decide +kernel)))
  obtain ⟨a4, z4, y4⟩ := K_ref (hts (.arrayOver (.object RX0)) (tb_mem 57 (by decide +kernel)))
  obtain ⟨a5, z5, y5⟩ := K_ref (hts (.arrayOver (.object RX1)) (tb_mem 59 (by decide +kernel)))
  refine ⟨(fun _ => 0, fun k => match k with | 0 => c0 | 1 => c1 | 2 => c2 | 3 => c3 | 4 => c4 | 5 => c5 | _ => c6, fun k => match k with | 0 => i0 | 1 => i1 | 2 => i2 | 3 => i3 | 4 => i4 | 5 => i5 | _ => i6, fun k => match k with | 0 => a0 | 1 => a1 | 2 => a2 | 3 => a3 | 4 => a4 | _ => a5), fun k q hq => ?_, fun k q hq => ?_⟩
  · match k, hq with
    | 0, hq => cases hq; exact k0
    | 1, hq => cases hq; exact k1
    | 2, hq => cases hq; exact k2
    | 3, hq => cases hq; exact k3
    | 4, hq => cases hq; exact k4
    | 5, hq => cases hq; exact k5
    | 6, hq => cases hq; exact k6
    | k + 7, hq => simp [vwCl] at hq
  · match k, hq with
    | 0, hq => cases hq; exact ⟨z0, y0⟩
    | 1, hq => cases hq; exact ⟨z1, y1⟩
    | 2, hq => cases hq; exact ⟨z2, y2⟩
    | 3, hq => cases hq; exact ⟨z3, y3⟩
    | 4, hq => cases hq; exact ⟨z4, y4⟩
    | 5, hq => cases hq; exact ⟨z5, y5⟩
    | k + 6, hq => simp [gl_tys] at hq
theorem nwW_in : ∀ w ∈ nwW, w ∈ lw_tbl := by
  have h : nwW = ([61, 75, 81, 86, 119, 139, 209, 241, 258, 270, 271, 279, 280, 285, 324, 693, 89, 90, 94, 95, 97, 99, 434, 450, 469, 505, 600, 764, 401, 403, 405] : List Nat).filterMap (fun i => lw_tbl[i]?) := by decide +kernel
  intro w hw
  rw [h] at hw
  obtain ⟨i, -, hi⟩ := List.mem_filterMap.mp hw
  exact List.mem_of_getElem? hi
theorem nwW_ot : ∀ w ∈ nwW, w.onTables = true := by decide +kernel
theorem world_N {A : Array Value} {s : State} (hts : ∀ w ∈ lw_tbl, w.before A s = true) : ∀ w ∈ nwW, va_Nw w s := fun w hw => va_Nw.of (nwW_ot w hw) (hts w (nwW_in w hw))
theorem stW_in : ∀ x ∈ stW, Cond.stringRef RX3 x.1 x.2 ∈ lw_tbl := by
  have h : stW.map (fun x => Cond.stringRef RX3 x.1 x.2) = ([441, 457, 476, 494, 512, 548, 571, 607, 665, 687, 779] : List Nat).filterMap (fun i => lw_tbl[i]?) := by decide +kernel
  intro x hx
  have hm : Cond.stringRef RX3 x.1 x.2 ∈ stW.map (fun x => Cond.stringRef RX3 x.1 x.2) := List.mem_map.mpr ⟨x, hx, rfl⟩
  rw [h] at hm
  obtain ⟨i, -, hi⟩ := List.mem_filterMap.mp hm
  exact List.mem_of_getElem? hi
theorem stW_ex : ∀ x ∈ stW, Cond.exactly (.string RX3 x.1) "java/lang/String" ∈ flatC (Jvm.Cond.and given_1 narrow_1) := by decide +kernel
theorem ncW_in : ∀ x ∈ ncW, Cond.not (.castable x.1 x.2) ∈ flatC (Jvm.Cond.and given_1 narrow_1) := by decide +kernel
theorem world_C {A : Array Value} {s : State} (hgv : (Jvm.Cond.and given_1 narrow_1).before A s = true) : ∀ x ∈ ncW, va_Nc x.1 x.2 s := fun x hx => va_Nc.of (flat_of_before _ hgv _ (ncW_in x hx))
theorem world_S {A : Array Value} {s : State} (hts : ∀ w ∈ lw_tbl, w.before A s = true) (hgv : (Jvm.Cond.and given_1 narrow_1).before A s = true) : ∀ x ∈ stW, ∃ a, vk_R RX3 x.1 x.2 a s := by
  intro x hx
  obtain ⟨a, c, cell, k, e, -⟩ := Cond.exactly_spec (flat_of_before _ hgv _ (stW_ex x hx))
  exact ⟨a, vk_R.of (hts _ (stW_in x hx)) e⟩
theorem us_in : Cond.isRef (.static Bundle.tN "UNASSIGNED_STACK" Bundle.steD) ∈ flatC (Jvm.Cond.and given_1 narrow_1) ∧ Cond.isRef (.static Bundle.tN "SUPPRESSED_SENTINEL" Bundle.listD) ∈ flatC (Jvm.Cond.and given_1 narrow_1) := by decide +kernel
theorem world_Z {G : GG} {A : Array Value} {s : State} (hts : ∀ w ∈ lw_tbl, w.before A s = true) (hgv : (Jvm.Cond.and given_1 narrow_1).before A s = true) (hge : ∀ i : Nat, i < 49 → s.heap.size ≤ G.1 i) : WdZ G s.heap.size s s.heap := by
  have hA : ∀ a : Nat, a < s.heap.size → ¬ gA G s.heap.size a := by
    intro a ha z
    rcases z with ⟨i, hi, e⟩ | z
    · have := hge i hi
      omega
    · omega
  have hin : (Cond.initialized Bundle.tN).before A s = true := hts _ (tb_mem 36 (by decide +kernel))
  exact ⟨vx_Zqof (hts _ (tb_mem 360 (by decide +kernel))) hin (flat_of_before _ hgv _ us_in.1) hA, vx_Zqof (hts _ (tb_mem 362 (by decide +kernel))) hin (flat_of_before _ hgv _ us_in.2) hA⟩
theorem world_O {A : Array Value} {s : State} (hts : ∀ w ∈ lw_tbl, w.before A s = true) : va_AO RX0 s ∧ va_AO RX1 s := ⟨va_AO.of (hts (.arrayOver (.object RX0)) (tb_mem 57 (by decide +kernel))), va_AO.of (hts (.arrayOver (.object RX1)) (tb_mem 59 (by decide +kernel)))⟩
theorem no_traces {l : Launch} (h : l.flags = flags0) : l.stackTraces = false := by
  unfold Launch.stackTraces
  rw [h]
  decide +kernel
