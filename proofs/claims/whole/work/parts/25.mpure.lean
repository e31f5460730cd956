/-! THE MODEL'S CELLS -/
def AI (G : GG) (c : CC) (i N : Nat) (P : (Nat → Int32) → Prop) : Prop := ∃ f : Nat → Int32, c i = .inl (G.2.2.2 0, N, .inl f) ∧ P f
def AZ (G : GG) (c : CC) (i N : Nat) (P : (Nat → Int32) → Prop) : Prop := ∃ f : Nat → Int32, c i = .inl (G.2.2.2 2, N, .inl f) ∧ P f
def AL (G : GG) (c : CC) (i N : Nat) (P : (Nat → Int64) → Prop) : Prop := ∃ f : Nat → Int64, c i = .inl (G.2.2.2 1, N, .inr (.inl f)) ∧ P f
theorem AI.mono {G : GG} {c c' : CC} {i N : Nat} {P Q : (Nat → Int32) → Prop} (h : AI G c i N P) (k : c' i = c i) (q : ∀ f, P f → Q f) : AI G c' i N Q := by
  obtain ⟨f, a, b⟩ := h
  exact ⟨f, k.trans a, q f b⟩
theorem AZ.mono {G : GG} {c c' : CC} {i N : Nat} {P Q : (Nat → Int32) → Prop} (h : AZ G c i N P) (k : c' i = c i) (q : ∀ f, P f → Q f) : AZ G c' i N Q := by
  obtain ⟨f, a, b⟩ := h
  exact ⟨f, k.trans a, q f b⟩
theorem AL.mono {G : GG} {c c' : CC} {i N : Nat} {P Q : (Nat → Int64) → Prop} (h : AL G c i N P) (k : c' i = c i) (q : ∀ f, P f → Q f) : AL G c' i N Q := by
  obtain ⟨f, a, b⟩ := h
  exact ⟨f, k.trans a, q f b⟩
def p34 (f : Nat → Int32) (i : Nat) (s : List Int32) : Prop := ∀ k : Nat, k < s.length → f (120 * i + k) = s.getD k 0
def q34 (σ : St) (f : Nat → Int32) : Prop := ∀ i : Nat, i < 4 → p34 f i (σ.1 i)
def p35 (f : Nat → Int32) (i : Nat) (s : List Int32) : Prop := f i = nI s.length
def q35 (σ : St) (f : Nat → Int32) : Prop := ∀ i : Nat, i < 4 → p35 f i (σ.1 i)
def q36 (σ : St) (f : Nat → Int32) : Prop := ∀ k : Nat, k < σ.2.1.length → f k = σ.2.1.getD k 0
def p37 (f : Nat → Int32) (i : Nat) (t : Stm) : Prop := f i = sK t
def q37 (σ : St) (f : Nat → Int32) : Prop := ∀ i : Nat, i < 4 → p37 f i (σ.2.2 i)
def p38 (f : Nat → Int32) (i : Nat) (t : Stm) : Prop := ∀ k : Nat, k < (sO t).length → f (240 * i + k) = (sO t).getD k 0
def q38 (σ : St) (f : Nat → Int32) : Prop := ∀ i : Nat, i < 4 → p38 f i (σ.2.2 i)
def p39 (f : Nat → Int32) (i : Nat) (t : Stm) : Prop := f i = nI (sO t).length
def q39 (σ : St) (f : Nat → Int32) : Prop := ∀ i : Nat, i < 4 → p39 f i (σ.2.2 i)
def p40 (f : Nat → Int32) (i : Nat) (t : Stm) : Prop := f i = nI (sM t)
def q40 (σ : St) (f : Nat → Int32) : Prop := ∀ i : Nat, i < 4 → p40 f i (σ.2.2 i)
def p41 (f : Nat → Int32) (i : Nat) (t : Stm) : Prop := f i = nI (sP t)
def q41 (σ : St) (f : Nat → Int32) : Prop := ∀ i : Nat, i < 4 → p41 f i (σ.2.2 i)
def p42 (f : Nat → Int32) (i : Nat) (t : Stm) : Prop := f i = sN t
def q42 (σ : St) (f : Nat → Int32) : Prop := ∀ i : Nat, i < 4 → p42 f i (σ.2.2 i)
def p43 (f : Nat → Int64) (i : Nat) (t : Stm) : Prop := f i = sG t
def q43 (σ : St) (f : Nat → Int64) : Prop := ∀ i : Nat, i < 4 → p43 f i (σ.2.2 i)
def p44 (f : Nat → Int32) (i : Nat) (t : Stm) : Prop := f i = if (sX t).isSome = true then 1 else 0
def q44 (σ : St) (f : Nat → Int32) : Prop := ∀ i : Nat, i < 4 → p44 f i (σ.2.2 i)
def p45 (f : Nat → Int32) (i : Nat) (t : Stm) : Prop := ∀ (p : Nat) (n : Int32), sX t = some (p, n) → f i = nI p
def q45 (σ : St) (f : Nat → Int32) : Prop := ∀ i : Nat, i < 4 → p45 f i (σ.2.2 i)
def p46 (f : Nat → Int32) (i : Nat) (t : Stm) : Prop := ∀ (p : Nat) (n : Int32), sX t = some (p, n) → f i = n
def q46 (σ : St) (f : Nat → Int32) : Prop := ∀ i : Nat, i < 4 → p46 f i (σ.2.2 i)
def qB (σ : St) : Prop := (∀ i : Nat, i < 4 → (σ.1 i).length ≤ 120) ∧ σ.2.1.length ≤ 64 ∧ ∀ i : Nat, i < 4 → (sO (σ.2.2 i)).length ≤ 240
def mdF (G : GG) (th : Int32) (pt : Nat) : List Value := [.int th, .ref (G.1 34), .ref (G.1 35), .ref (G.1 36), .int (nI pt), .ref (G.1 37), .ref (G.1 38), .ref (G.1 39), .ref (G.1 40), .ref (G.1 41), .ref (G.1 42), .ref (G.1 43), .ref (G.1 44), .ref (G.1 45), .ref (G.1 46)]
/-- the model's cells hold the state, and what was thrown -/
def Mdl (G : GG) (c : CC) (σ : St) (th : Int32) : Prop := c 33 = .inr (6, mdF G th σ.2.1.length) ∧ AI G c 34 480 (q34 σ) ∧ AI G c 35 4 (q35 σ) ∧ AI G c 36 64 (q36 σ) ∧ AI G c 37 4 (q37 σ) ∧ AI G c 38 960 (q38 σ) ∧ AI G c 39 4 (q39 σ) ∧ AI G c 40 4 (q40 σ) ∧ AI G c 41 4 (q41 σ) ∧ AI G c 42 4 (q42 σ) ∧ AL G c 43 4 (q43 σ) ∧ AZ G c 44 4 (q44 σ) ∧ AI G c 45 4 (q45 σ) ∧ AI G c 46 4 (q46 σ) ∧ qB σ
theorem Mdl.o {G : GG} {c : CC} {σ : St} {th : Int32} (h : Mdl G c σ th) : c 33 = .inr (6, mdF G th σ.2.1.length) := h.1
theorem Mdl.a34 {G : GG} {c : CC} {σ : St} {th : Int32} (h : Mdl G c σ th) : AI G c 34 480 (q34 σ) := h.2.1
theorem Mdl.a35 {G : GG} {c : CC} {σ : St} {th : Int32} (h : Mdl G c σ th) : AI G c 35 4 (q35 σ) := h.2.2.1
theorem Mdl.a36 {G : GG} {c : CC} {σ : St} {th : Int32} (h : Mdl G c σ th) : AI G c 36 64 (q36 σ) := h.2.2.2.1
theorem Mdl.a37 {G : GG} {c : CC} {σ : St} {th : Int32} (h : Mdl G c σ th) : AI G c 37 4 (q37 σ) := h.2.2.2.2.1
theorem Mdl.a38 {G : GG} {c : CC} {σ : St} {th : Int32} (h : Mdl G c σ th) : AI G c 38 960 (q38 σ) := h.2.2.2.2.2.1
theorem Mdl.a39 {G : GG} {c : CC} {σ : St} {th : Int32} (h : Mdl G c σ th) : AI G c 39 4 (q39 σ) := h.2.2.2.2.2.2.1
theorem Mdl.a40 {G : GG} {c : CC} {σ : St} {th : Int32} (h : Mdl G c σ th) : AI G c 40 4 (q40 σ) := h.2.2.2.2.2.2.2.1
theorem Mdl.a41 {G : GG} {c : CC} {σ : St} {th : Int32} (h : Mdl G c σ th) : AI G c 41 4 (q41 σ) := h.2.2.2.2.2.2.2.2.1
theorem Mdl.a42 {G : GG} {c : CC} {σ : St} {th : Int32} (h : Mdl G c σ th) : AI G c 42 4 (q42 σ) := h.2.2.2.2.2.2.2.2.2.1
theorem Mdl.a43 {G : GG} {c : CC} {σ : St} {th : Int32} (h : Mdl G c σ th) : AL G c 43 4 (q43 σ) := h.2.2.2.2.2.2.2.2.2.2.1
theorem Mdl.a44 {G : GG} {c : CC} {σ : St} {th : Int32} (h : Mdl G c σ th) : AZ G c 44 4 (q44 σ) := h.2.2.2.2.2.2.2.2.2.2.2.1
theorem Mdl.a45 {G : GG} {c : CC} {σ : St} {th : Int32} (h : Mdl G c σ th) : AI G c 45 4 (q45 σ) := h.2.2.2.2.2.2.2.2.2.2.2.2.1
theorem Mdl.a46 {G : GG} {c : CC} {σ : St} {th : Int32} (h : Mdl G c σ th) : AI G c 46 4 (q46 σ) := h.2.2.2.2.2.2.2.2.2.2.2.2.2.1
theorem Mdl.b {G : GG} {c : CC} {σ : St} {th : Int32} (h : Mdl G c σ th) : qB σ := h.2.2.2.2.2.2.2.2.2.2.2.2.2.2
theorem vb_all {α : Type} {P : Nat → α → Prop} {T : Nat → α} {j : Nat} {t' : α} (h : ∀ i : Nat, i < 4 → P i (T i)) (h' : P j (T j) → P j t') : ∀ i : Nat, i < 4 → P i (va_up T j t' i) := by
  intro i hi
  by_cases q : i = j
  · subst q
    rw [va_up_self]
    exact h' (h i hi)
  · rw [va_up_ne _ _ q]
    exact h i hi
theorem vb_new {α : Type} {P Q : Nat → α → Prop} {T : Nat → α} {j : Nat} {t' : α} (h : ∀ i : Nat, i < 4 → P i (T i)) (hq : ∀ (i : Nat) (s : α), i < 4 → ¬ i = j → s = T i → P i s → Q i s) (h' : Q j t') : ∀ i : Nat, i < 4 → Q i (va_up T j t' i) := by
  intro i hi
  by_cases q : i = j
  · subst q
    rw [va_up_self]
    exact h'
  · rw [va_up_ne _ _ q]
    exact hq i _ hi q rfl (h i hi)
theorem up_ne {f : Nat → Int32} {k j : Nat} {x : Int32} (h : ¬ j = k) : upd f k x j = f j := pk_un h
theorem up_eq {f : Nat → Int32} {k : Nat} {x : Int32} : upd f k x k = x := pk_us
theorem upL_ne {f : Nat → Int64} {k j : Nat} {x : Int64} (h : ¬ j = k) : vp_updL f k x j = f j := if_neg h
theorem upL_eq {f : Nat → Int64} {k : Nat} {x : Int64} : vp_updL f k x k = x := if_pos rfl
def tK (t : Stm) (K : Int32) : Stm := (K, sO t, sM t, sP t, sN t, sG t, sX t)
def tO (t : Stm) (O : List Int32) : Stm := (sK t, O, sM t, sP t, sN t, sG t, sX t)
def tM (t : Stm) (M : Nat) : Stm := (sK t, sO t, M, sP t, sN t, sG t, sX t)
def tP (t : Stm) (P : Nat) : Stm := (sK t, sO t, sM t, P, sN t, sG t, sX t)
def tN (t : Stm) (N : Int32) : Stm := (sK t, sO t, sM t, sP t, N, sG t, sX t)
def tG (t : Stm) (g : Int64) : Stm := (sK t, sO t, sM t, sP t, sN t, g, sX t)
def tX (t : Stm) (x : Option (Nat × Int32)) : Stm := (sK t, sO t, sM t, sP t, sN t, sG t, x)
theorem Mdl.setK {G : GG} {c c' : CC} {σ : St} {th : Int32} (hm : Mdl G c σ th) {j : Nat} (hj : j < 4) {K : Int32} {f37 : Nat → Int32} (hq37 : q37 σ f37) (h37 : c' 37 = .inl (G.2.2.2 0, 4, .inl (upd f37 j (K)))) (hk : ∀ y : Nat, y ≠ 37 → c' y = c y) : Mdl G c' (stT σ j (tK (σ.2.2 j) K)) th :=
  ⟨(hk 33 (by omega)).trans hm.o, hm.a34.mono (hk 34 (by omega)) (fun _ h => h), hm.a35.mono (hk 35 (by omega)) (fun _ h => h), hm.a36.mono (hk 36 (by omega)) (fun _ h => h), ⟨_, h37, vb_new (P := p37 f37) hq37 (fun i s _ q _ (h : f37 i = _) => (up_ne q).trans h) (show upd f37 j _ j = _ from up_eq)⟩, hm.a38.mono (hk 38 (by omega)) (fun f h => vb_all (P := p38 f) h (fun z => z)), hm.a39.mono (hk 39 (by omega)) (fun f h => vb_all (P := p39 f) h (fun z => z)), hm.a40.mono (hk 40 (by omega)) (fun f h => vb_all (P := p40 f) h (fun z => z)), hm.a41.mono (hk 41 (by omega)) (fun f h => vb_all (P := p41 f) h (fun z => z)), hm.a42.mono (hk 42 (by omega)) (fun f h => vb_all (P := p42 f) h (fun z => z)), hm.a43.mono (hk 43 (by omega)) (fun f h => vb_all (P := p43 f) h (fun z => z)), hm.a44.mono (hk 44 (by omega)) (fun f h => vb_all (P := p44 f) h (fun z => z)), hm.a45.mono (hk 45 (by omega)) (fun f h => vb_all (P := p45 f) h (fun z => z)), hm.a46.mono (hk 46 (by omega)) (fun f h => vb_all (P := p46 f) h (fun z => z)), ⟨hm.b.1, hm.b.2.1, vb_all (P := fun _ t => (sO t).length ≤ 240) hm.b.2.2 (fun z => z)⟩⟩
theorem Mdl.setM {G : GG} {c c' : CC} {σ : St} {th : Int32} (hm : Mdl G c σ th) {j : Nat} (hj : j < 4) {M : Nat} {f40 : Nat → Int32} (hq40 : q40 σ f40) (h40 : c' 40 = .inl (G.2.2.2 0, 4, .inl (upd f40 j (nI M)))) (hk : ∀ y : Nat, y ≠ 40 → c' y = c y) : Mdl G c' (stT σ j (tM (σ.2.2 j) M)) th :=
  ⟨(hk 33 (by omega)).trans hm.o, hm.a34.mono (hk 34 (by omega)) (fun _ h => h), hm.a35.mono (hk 35 (by omega)) (fun _ h => h), hm.a36.mono (hk 36 (by omega)) (fun _ h => h), hm.a37.mono (hk 37 (by omega)) (fun f h => vb_all (P := p37 f) h (fun z => z)), hm.a38.mono (hk 38 (by omega)) (fun f h => vb_all (P := p38 f) h (fun z => z)), hm.a39.mono (hk 39 (by omega)) (fun f h => vb_all (P := p39 f) h (fun z => z)), ⟨_, h40, vb_new (P := p40 f40) hq40 (fun i s _ q _ (h : f40 i = _) => (up_ne q).trans h) (show upd f40 j _ j = _ from up_eq)⟩, hm.a41.mono (hk 41 (by omega)) (fun f h => vb_all (P := p41 f) h (fun z => z)), hm.a42.mono (hk 42 (by omega)) (fun f h => vb_all (P := p42 f) h (fun z => z)), hm.a43.mono (hk 43 (by omega)) (fun f h => vb_all (P := p43 f) h (fun z => z)), hm.a44.mono (hk 44 (by omega)) (fun f h => vb_all (P := p44 f) h (fun z => z)), hm.a45.mono (hk 45 (by omega)) (fun f h => vb_all (P := p45 f) h (fun z => z)), hm.a46.mono (hk 46 (by omega)) (fun f h => vb_all (P := p46 f) h (fun z => z)), ⟨hm.b.1, hm.b.2.1, vb_all (P := fun _ t => (sO t).length ≤ 240) hm.b.2.2 (fun z => z)⟩⟩
theorem Mdl.setP {G : GG} {c c' : CC} {σ : St} {th : Int32} (hm : Mdl G c σ th) {j : Nat} (hj : j < 4) {p : Nat} {f41 : Nat → Int32} (hq41 : q41 σ f41) (h41 : c' 41 = .inl (G.2.2.2 0, 4, .inl (upd f41 j (nI p)))) (hk : ∀ y : Nat, y ≠ 41 → c' y = c y) : Mdl G c' (stT σ j (tP (σ.2.2 j) p)) th :=
  ⟨(hk 33 (by omega)).trans hm.o, hm.a34.mono (hk 34 (by omega)) (fun _ h => h), hm.a35.mono (hk 35 (by omega)) (fun _ h => h), hm.a36.mono (hk 36 (by omega)) (fun _ h => h), hm.a37.mono (hk 37 (by omega)) (fun f h => vb_all (P := p37 f) h (fun z => z)), hm.a38.mono (hk 38 (by omega)) (fun f h => vb_all (P := p38 f) h (fun z => z)), hm.a39.mono (hk 39 (by omega)) (fun f h => vb_all (P := p39 f) h (fun z => z)), hm.a40.mono (hk 40 (by omega)) (fun f h => vb_all (P := p40 f) h (fun z => z)), ⟨_, h41, vb_new (P := p41 f41) hq41 (fun i s _ q _ (h : f41 i = _) => (up_ne q).trans h) (show upd f41 j _ j = _ from up_eq)⟩, hm.a42.mono (hk 42 (by omega)) (fun f h => vb_all (P := p42 f) h (fun z => z)), hm.a43.mono (hk 43 (by omega)) (fun f h => vb_all (P := p43 f) h (fun z => z)), hm.a44.mono (hk 44 (by omega)) (fun f h => vb_all (P := p44 f) h (fun z => z)), hm.a45.mono (hk 45 (by omega)) (fun f h => vb_all (P := p45 f) h (fun z => z)), hm.a46.mono (hk 46 (by omega)) (fun f h => vb_all (P := p46 f) h (fun z => z)), ⟨hm.b.1, hm.b.2.1, vb_all (P := fun _ t => (sO t).length ≤ 240) hm.b.2.2 (fun z => z)⟩⟩
theorem Mdl.setN {G : GG} {c c' : CC} {σ : St} {th : Int32} (hm : Mdl G c σ th) {j : Nat} (hj : j < 4) {n : Int32} {f42 : Nat → Int32} (hq42 : q42 σ f42) (h42 : c' 42 = .inl (G.2.2.2 0, 4, .inl (upd f42 j (n)))) (hk : ∀ y : Nat, y ≠ 42 → c' y = c y) : Mdl G c' (stT σ j (tN (σ.2.2 j) n)) th :=
  ⟨(hk 33 (by omega)).trans hm.o, hm.a34.mono (hk 34 (by omega)) (fun _ h => h), hm.a35.mono (hk 35 (by omega)) (fun _ h => h), hm.a36.mono (hk 36 (by omega)) (fun _ h => h), hm.a37.mono (hk 37 (by omega)) (fun f h => vb_all (P := p37 f) h (fun z => z)), hm.a38.mono (hk 38 (by omega)) (fun f h => vb_all (P := p38 f) h (fun z => z)), hm.a39.mono (hk 39 (by omega)) (fun f h => vb_all (P := p39 f) h (fun z => z)), hm.a40.mono (hk 40 (by omega)) (fun f h => vb_all (P := p40 f) h (fun z => z)), hm.a41.mono (hk 41 (by omega)) (fun f h => vb_all (P := p41 f) h (fun z => z)), ⟨_, h42, vb_new (P := p42 f42) hq42 (fun i s _ q _ (h : f42 i = _) => (up_ne q).trans h) (show upd f42 j _ j = _ from up_eq)⟩, hm.a43.mono (hk 43 (by omega)) (fun f h => vb_all (P := p43 f) h (fun z => z)), hm.a44.mono (hk 44 (by omega)) (fun f h => vb_all (P := p44 f) h (fun z => z)), hm.a45.mono (hk 45 (by omega)) (fun f h => vb_all (P := p45 f) h (fun z => z)), hm.a46.mono (hk 46 (by omega)) (fun f h => vb_all (P := p46 f) h (fun z => z)), ⟨hm.b.1, hm.b.2.1, vb_all (P := fun _ t => (sO t).length ≤ 240) hm.b.2.2 (fun z => z)⟩⟩
theorem Mdl.setG {G : GG} {c c' : CC} {σ : St} {th : Int32} (hm : Mdl G c σ th) {j : Nat} (hj : j < 4) {g : Int64} {f43 : Nat → Int64} (hq43 : q43 σ f43) (h43 : c' 43 = .inl (G.2.2.2 1, 4, .inr (.inl (vp_updL f43 j (g))))) (hk : ∀ y : Nat, y ≠ 43 → c' y = c y) : Mdl G c' (stT σ j (tG (σ.2.2 j) g)) th :=
  ⟨(hk 33 (by omega)).trans hm.o, hm.a34.mono (hk 34 (by omega)) (fun _ h => h), hm.a35.mono (hk 35 (by omega)) (fun _ h => h), hm.a36.mono (hk 36 (by omega)) (fun _ h => h), hm.a37.mono (hk 37 (by omega)) (fun f h => vb_all (P := p37 f) h (fun z => z)), hm.a38.mono (hk 38 (by omega)) (fun f h => vb_all (P := p38 f) h (fun z => z)), hm.a39.mono (hk 39 (by omega)) (fun f h => vb_all (P := p39 f) h (fun z => z)), hm.a40.mono (hk 40 (by omega)) (fun f h => vb_all (P := p40 f) h (fun z => z)), hm.a41.mono (hk 41 (by omega)) (fun f h => vb_all (P := p41 f) h (fun z => z)), hm.a42.mono (hk 42 (by omega)) (fun f h => vb_all (P := p42 f) h (fun z => z)), ⟨_, h43, vb_new (P := p43 f43) hq43 (fun i s _ q _ (h : f43 i = _) => (upL_ne q).trans h) (show vp_updL f43 j _ j = _ from upL_eq)⟩, hm.a44.mono (hk 44 (by omega)) (fun f h => vb_all (P := p44 f) h (fun z => z)), hm.a45.mono (hk 45 (by omega)) (fun f h => vb_all (P := p45 f) h (fun z => z)), hm.a46.mono (hk 46 (by omega)) (fun f h => vb_all (P := p46 f) h (fun z => z)), ⟨hm.b.1, hm.b.2.1, vb_all (P := fun _ t => (sO t).length ≤ 240) hm.b.2.2 (fun z => z)⟩⟩
theorem Mdl.clrO {G : GG} {c c' : CC} {σ : St} {th : Int32} (hm : Mdl G c σ th) {j : Nat} (hj : j < 4) {f39 : Nat → Int32} (hq39 : q39 σ f39) (h39 : c' 39 = .inl (G.2.2.2 0, 4, .inl (upd f39 j (nI 0)))) (hk : ∀ y : Nat, y ≠ 39 → c' y = c y) : Mdl G c' (stT σ j (tO (σ.2.2 j) [])) th :=
  ⟨(hk 33 (by omega)).trans hm.o, hm.a34.mono (hk 34 (by omega)) (fun _ h => h), hm.a35.mono (hk 35 (by omega)) (fun _ h => h), hm.a36.mono (hk 36 (by omega)) (fun _ h => h), hm.a37.mono (hk 37 (by omega)) (fun f h => vb_all (P := p37 f) h (fun z => z)), hm.a38.mono (hk 38 (by omega)) (fun f h => vb_all (P := p38 f) h (fun _ k z => absurd z (Nat.not_lt_zero k))), ⟨_, h39, vb_new (P := p39 f39) hq39 (fun i s _ q _ (h : f39 i = _) => (up_ne q).trans h) (show upd f39 j _ j = _ from up_eq)⟩, hm.a40.mono (hk 40 (by omega)) (fun f h => vb_all (P := p40 f) h (fun z => z)), hm.a41.mono (hk 41 (by omega)) (fun f h => vb_all (P := p41 f) h (fun z => z)), hm.a42.mono (hk 42 (by omega)) (fun f h => vb_all (P := p42 f) h (fun z => z)), hm.a43.mono (hk 43 (by omega)) (fun f h => vb_all (P := p43 f) h (fun z => z)), hm.a44.mono (hk 44 (by omega)) (fun f h => vb_all (P := p44 f) h (fun z => z)), hm.a45.mono (hk 45 (by omega)) (fun f h => vb_all (P := p45 f) h (fun z => z)), hm.a46.mono (hk 46 (by omega)) (fun f h => vb_all (P := p46 f) h (fun z => z)), ⟨hm.b.1, hm.b.2.1, vb_all (P := fun _ t => (sO t).length ≤ 240) hm.b.2.2 (fun _ => Nat.zero_le _)⟩⟩
theorem p38_push {G : GG} {c : CC} {σ : St} {th : Int32} (hm : Mdl G c σ th) {f : Nat → Int32} (hq : q38 σ f) {j : Nat} (hj : j < 4) {x : Int32} (hl : (sO (σ.2.2 j)).length < 240) : q38 (stT σ j (tO (σ.2.2 j) (sO (σ.2.2 j) ++ [x]))) (upd f (240 * j + (sO (σ.2.2 j)).length) x) := by
  refine vb_new (P := fun i t => p38 f i t) (Q := fun i t => p38 (upd f (240 * j + (sO (σ.2.2 j)).length) x) i t) hq (fun i s hi q e h k hk => ?_) (fun k hk => ?_)
  · have := hm.b.2.2 i hi
    rw [← e] at this
    rw [up_ne (by omega)]
    exact h k hk
  · have hk : k < (sO (σ.2.2 j) ++ [x]).length := hk
    rw [List.length_append] at hk
    have hk : k < (sO (σ.2.2 j)).length + 1 := hk
    show upd f _ x (240 * j + k) = (sO (σ.2.2 j) ++ [x]).getD k 0
    by_cases q : k = (sO (σ.2.2 j)).length
    · subst q
      rw [up_eq, getD_last]
    · rw [up_ne (by omega), getD_app (by omega)]
      exact hq j hj k (by omega)
theorem p34_push {G : GG} {c : CC} {σ : St} {th : Int32} (hm : Mdl G c σ th) {f : Nat → Int32} (hq : q34 σ f) {j : Nat} (hj : j < 4) {x : Int32} (hl : (σ.1 j).length < 120) : q34 (stS σ j (σ.1 j ++ [x])) (upd f (120 * j + (σ.1 j).length) x) := by
  refine vb_new (P := fun i t => p34 f i t) (Q := fun i t => p34 (upd f (120 * j + (σ.1 j).length) x) i t) hq (fun i s hi q e h k hk => ?_) (fun k hk => ?_)
  · have := hm.b.1 i hi
    rw [← e] at this
    rw [up_ne (by omega)]
    exact h k hk
  · rw [List.length_append] at hk
    have hk : k < (σ.1 j).length + 1 := hk
    by_cases q : k = (σ.1 j).length
    · subst q
      rw [up_eq, getD_last]
    · rw [up_ne (by omega), getD_app (by omega)]
      exact hq j hj k (by omega)
theorem Mdl.comes {G : GG} {c c' : CC} {σ : St} {th : Int32} (hm : Mdl G c σ th) {j : Nat} (hj : j < 4) {x : Int32} (hl : (sO (σ.2.2 j)).length < 240) {f38 : Nat → Int32} (hq38 : q38 σ f38) (h38 : c' 38 = .inl (G.2.2.2 0, 960, .inl (upd f38 (240 * j + (sO (σ.2.2 j)).length) x))) {f39 : Nat → Int32} (hq39 : q39 σ f39) (h39 : c' 39 = .inl (G.2.2.2 0, 4, .inl (upd f39 j (nI ((sO (σ.2.2 j)).length + 1))))) (hk : ∀ y : Nat, y ≠ 38 → y ≠ 39 → c' y = c y) : Mdl G c' (stT σ j (tO (σ.2.2 j) (sO (σ.2.2 j) ++ [x]))) th :=
  ⟨(hk 33 (by omega) (by omega)).trans hm.o, hm.a34.mono (hk 34 (by omega) (by omega)) (fun _ h => h), hm.a35.mono (hk 35 (by omega) (by omega)) (fun _ h => h), hm.a36.mono (hk 36 (by omega) (by omega)) (fun _ h => h), hm.a37.mono (hk 37 (by omega) (by omega)) (fun f h => vb_all (P := p37 f) h (fun z => z)), ⟨_, h38, p38_push hm hq38 hj hl⟩, ⟨_, h39, vb_new (P := p39 f39) hq39 (fun i s _ q _ (h : f39 i = _) => (up_ne q).trans h) (show upd f39 j _ j = nI (sO (σ.2.2 j) ++ [x]).length by rw [up_eq, List.length_append]; rfl)⟩, hm.a40.mono (hk 40 (by omega) (by omega)) (fun f h => vb_all (P := p40 f) h (fun z => z)), hm.a41.mono (hk 41 (by omega) (by omega)) (fun f h => vb_all (P := p41 f) h (fun z => z)), hm.a42.mono (hk 42 (by omega) (by omega)) (fun f h => vb_all (P := p42 f) h (fun z => z)), hm.a43.mono (hk 43 (by omega) (by omega)) (fun f h => vb_all (P := p43 f) h (fun z => z)), hm.a44.mono (hk 44 (by omega) (by omega)) (fun f h => vb_all (P := p44 f) h (fun z => z)), hm.a45.mono (hk 45 (by omega) (by omega)) (fun f h => vb_all (P := p45 f) h (fun z => z)), hm.a46.mono (hk 46 (by omega) (by omega)) (fun f h => vb_all (P := p46 f) h (fun z => z)), ⟨hm.b.1, hm.b.2.1, vb_all (P := fun _ t => (sO t).length ≤ 240) hm.b.2.2 (fun _ => by show (sO (σ.2.2 j) ++ [x]).length ≤ 240; rw [List.length_append]; exact hl)⟩⟩
theorem Mdl.adds {G : GG} {c c' : CC} {σ : St} {th : Int32} (hm : Mdl G c σ th) {j : Nat} (hj : j < 4) {x : Int32} (hl : (σ.1 j).length < 120) {f34 : Nat → Int32} (hq34 : q34 σ f34) (h34 : c' 34 = .inl (G.2.2.2 0, 480, .inl (upd f34 (120 * j + (σ.1 j).length) x))) {f35 : Nat → Int32} (hq35 : q35 σ f35) (h35 : c' 35 = .inl (G.2.2.2 0, 4, .inl (upd f35 j (nI ((σ.1 j).length + 1))))) (hk : ∀ y : Nat, y ≠ 34 → y ≠ 35 → c' y = c y) : Mdl G c' (stS σ j (σ.1 j ++ [x])) th :=
  ⟨(hk 33 (by omega) (by omega)).trans hm.o, ⟨_, h34, p34_push hm hq34 hj hl⟩, ⟨_, h35, vb_new (P := p35 f35) hq35 (fun i s _ q _ (h : f35 i = _) => (up_ne q).trans h) (show upd f35 j _ j = nI (σ.1 j ++ [x]).length by rw [up_eq, List.length_append]; rfl)⟩, hm.a36.mono (hk 36 (by omega) (by omega)) (fun _ h => h), hm.a37.mono (hk 37 (by omega) (by omega)) (fun _ h => h), hm.a38.mono (hk 38 (by omega) (by omega)) (fun _ h => h), hm.a39.mono (hk 39 (by omega) (by omega)) (fun _ h => h), hm.a40.mono (hk 40 (by omega) (by omega)) (fun _ h => h), hm.a41.mono (hk 41 (by omega) (by omega)) (fun _ h => h), hm.a42.mono (hk 42 (by omega) (by omega)) (fun _ h => h), hm.a43.mono (hk 43 (by omega) (by omega)) (fun _ h => h), hm.a44.mono (hk 44 (by omega) (by omega)) (fun _ h => h), hm.a45.mono (hk 45 (by omega) (by omega)) (fun _ h => h), hm.a46.mono (hk 46 (by omega) (by omega)) (fun _ h => h), ⟨vb_all (P := fun _ (t : List Int32) => t.length ≤ 120) hm.b.1 (fun _ => by rw [List.length_append]; exact hl), hm.b.2⟩⟩
theorem Mdl.cutS {G : GG} {c c' : CC} {σ : St} {th : Int32} (hm : Mdl G c σ th) {j : Nat} (hj : j < 4) {n : Nat} (hn : n ≤ (σ.1 j).length) {f35 : Nat → Int32} (hq35 : q35 σ f35) (h35 : c' 35 = .inl (G.2.2.2 0, 4, .inl (upd f35 j (nI n)))) (hk : ∀ y : Nat, y ≠ 35 → c' y = c y) : Mdl G c' (stS σ j ((σ.1 j).take n)) th :=
  ⟨(hk 33 (by omega)).trans hm.o, hm.a34.mono (hk 34 (by omega)) (fun f h => vb_all (P := p34 f) h (fun z k hk => by rw [List.length_take] at hk; rw [List.getD_eq_getElem?_getD, List.getElem?_take_of_lt (by omega), ← List.getD_eq_getElem?_getD]; exact z k (by omega))), ⟨_, h35, vb_new (P := p35 f35) hq35 (fun i s _ q _ (h : f35 i = _) => (up_ne q).trans h) (show upd f35 j _ j = nI ((σ.1 j).take n).length by rw [up_eq, List.length_take, Nat.min_eq_left hn])⟩, hm.a36.mono (hk 36 (by omega)) (fun _ h => h), hm.a37.mono (hk 37 (by omega)) (fun _ h => h), hm.a38.mono (hk 38 (by omega)) (fun _ h => h), hm.a39.mono (hk 39 (by omega)) (fun _ h => h), hm.a40.mono (hk 40 (by omega)) (fun _ h => h), hm.a41.mono (hk 41 (by omega)) (fun _ h => h), hm.a42.mono (hk 42 (by omega)) (fun _ h => h), hm.a43.mono (hk 43 (by omega)) (fun _ h => h), hm.a44.mono (hk 44 (by omega)) (fun _ h => h), hm.a45.mono (hk 45 (by omega)) (fun _ h => h), hm.a46.mono (hk 46 (by omega)) (fun _ h => h), ⟨vb_all (P := fun _ (t : List Int32) => t.length ≤ 120) hm.b.1 (fun z => Nat.le_trans (by rw [List.length_take]; exact Nat.min_le_right _ _) z), hm.b.2⟩⟩
theorem Mdl.setX {G : GG} {c c' : CC} {σ : St} {th : Int32} (hm : Mdl G c σ th) {j : Nat} (hj : j < 4) {p : Nat} {n : Int32} {f44 : Nat → Int32} (hq44 : q44 σ f44) (h44 : c' 44 = .inl (G.2.2.2 2, 4, .inl (upd f44 j 1))) {f45 : Nat → Int32} (hq45 : q45 σ f45) (h45 : c' 45 = .inl (G.2.2.2 0, 4, .inl (upd f45 j (nI p)))) {f46 : Nat → Int32} (hq46 : q46 σ f46) (h46 : c' 46 = .inl (G.2.2.2 0, 4, .inl (upd f46 j n))) (hk : ∀ y : Nat, y ≠ 44 → y ≠ 45 → y ≠ 46 → c' y = c y) : Mdl G c' (stT σ j (tX (σ.2.2 j) (some (p, n)))) th :=
  ⟨(hk 33 (by omega) (by omega) (by omega)).trans hm.o, hm.a34.mono (hk 34 (by omega) (by omega) (by omega)) (fun _ h => h), hm.a35.mono (hk 35 (by omega) (by omega) (by omega)) (fun _ h => h), hm.a36.mono (hk 36 (by omega) (by omega) (by omega)) (fun _ h => h), hm.a37.mono (hk 37 (by omega) (by omega) (by omega)) (fun f h => vb_all (P := p37 f) h (fun z => z)), hm.a38.mono (hk 38 (by omega) (by omega) (by omega)) (fun f h => vb_all (P := p38 f) h (fun z => z)), hm.a39.mono (hk 39 (by omega) (by omega) (by omega)) (fun f h => vb_all (P := p39 f) h (fun z => z)), hm.a40.mono (hk 40 (by omega) (by omega) (by omega)) (fun f h => vb_all (P := p40 f) h (fun z => z)), hm.a41.mono (hk 41 (by omega) (by omega) (by omega)) (fun f h => vb_all (P := p41 f) h (fun z => z)), hm.a42.mono (hk 42 (by omega) (by omega) (by omega)) (fun f h => vb_all (P := p42 f) h (fun z => z)), hm.a43.mono (hk 43 (by omega) (by omega) (by omega)) (fun f h => vb_all (P := p43 f) h (fun z => z)), ⟨_, h44, vb_new (P := p44 f44) hq44 (fun i s _ q _ (h : f44 i = _) => (up_ne q).trans h) (show upd f44 j _ j = _ from up_eq)⟩, ⟨_, h45, vb_new (P := p45 f45) hq45 (fun i s _ q _ h a b e => (up_ne q).trans (h a b e)) (fun a b e => by cases e; exact up_eq)⟩, ⟨_, h46, vb_new (P := p46 f46) hq46 (fun i s _ q _ h a b e => (up_ne q).trans (h a b e)) (fun a b e => by cases e; exact up_eq)⟩, ⟨hm.b.1, hm.b.2.1, vb_all (P := fun _ t => (sO t).length ≤ 240) hm.b.2.2 (fun z => z)⟩⟩
theorem Mdl.clrX {G : GG} {c c' : CC} {σ : St} {th : Int32} (hm : Mdl G c σ th) {j : Nat} (hj : j < 4) {f44 : Nat → Int32} (hq44 : q44 σ f44) (h44 : c' 44 = .inl (G.2.2.2 2, 4, .inl (upd f44 j 0))) (hk : ∀ y : Nat, y ≠ 44 → c' y = c y) : Mdl G c' (stT σ j (tX (σ.2.2 j) none)) th :=
  ⟨(hk 33 (by omega)).trans hm.o, hm.a34.mono (hk 34 (by omega)) (fun _ h => h), hm.a35.mono (hk 35 (by omega)) (fun _ h => h), hm.a36.mono (hk 36 (by omega)) (fun _ h => h), hm.a37.mono (hk 37 (by omega)) (fun f h => vb_all (P := p37 f) h (fun z => z)), hm.a38.mono (hk 38 (by omega)) (fun f h => vb_all (P := p38 f) h (fun z => z)), hm.a39.mono (hk 39 (by omega)) (fun f h => vb_all (P := p39 f) h (fun z => z)), hm.a40.mono (hk 40 (by omega)) (fun f h => vb_all (P := p40 f) h (fun z => z)), hm.a41.mono (hk 41 (by omega)) (fun f h => vb_all (P := p41 f) h (fun z => z)), hm.a42.mono (hk 42 (by omega)) (fun f h => vb_all (P := p42 f) h (fun z => z)), hm.a43.mono (hk 43 (by omega)) (fun f h => vb_all (P := p43 f) h (fun z => z)), ⟨_, h44, vb_new (P := p44 f44) hq44 (fun i s _ q _ (h : f44 i = _) => (up_ne q).trans h) (show upd f44 j _ j = _ from up_eq)⟩, hm.a45.mono (hk 45 (by omega)) (fun f h => vb_all (P := p45 f) h (fun _ a b e => by cases e)), hm.a46.mono (hk 46 (by omega)) (fun f h => vb_all (P := p46 f) h (fun _ a b e => by cases e)), ⟨hm.b.1, hm.b.2.1, vb_all (P := fun _ t => (sO t).length ≤ 240) hm.b.2.2 (fun z => z)⟩⟩
theorem Mdl.setTh {G : GG} {c c' : CC} {σ : St} {th : Int32} (hm : Mdl G c σ th) {v : Int32} (h33 : c' 33 = .inr (6, mdF G v σ.2.1.length)) (hk : ∀ y : Nat, y ≠ 33 → c' y = c y) : Mdl G c' (σ) v :=
  ⟨h33, hm.a34.mono (hk 34 (by omega)) (fun _ h => h), hm.a35.mono (hk 35 (by omega)) (fun _ h => h), hm.a36.mono (hk 36 (by omega)) (fun _ h => h), hm.a37.mono (hk 37 (by omega)) (fun _ h => h), hm.a38.mono (hk 38 (by omega)) (fun _ h => h), hm.a39.mono (hk 39 (by omega)) (fun _ h => h), hm.a40.mono (hk 40 (by omega)) (fun _ h => h), hm.a41.mono (hk 41 (by omega)) (fun _ h => h), hm.a42.mono (hk 42 (by omega)) (fun _ h => h), hm.a43.mono (hk 43 (by omega)) (fun _ h => h), hm.a44.mono (hk 44 (by omega)) (fun _ h => h), hm.a45.mono (hk 45 (by omega)) (fun _ h => h), hm.a46.mono (hk 46 (by omega)) (fun _ h => h), hm.b⟩
theorem rg_get {f : Nat → Int32} {n k : Nat} (h : k < n) : ((List.range n).map f).getD k 0 = f k := by
  rw [List.getD_eq_getElem?_getD, List.getElem?_map, List.getElem?_range h]
  rfl
theorem Mdl.setPt {G : GG} {c c' : CC} {σ : St} {th : Int32} (hm : Mdl G c σ th) {f36 : Nat → Int32} (h36 : c 36 = .inl (G.2.2.2 0, 64, .inl f36)) {n : Nat} (hn : n ≤ 64) (h33 : c' 33 = .inr (6, mdF G th n)) (hk : ∀ y : Nat, y ≠ 33 → c' y = c y) : Mdl G c' (stP σ ((List.range n).map f36)) th :=
  ⟨by rw [show (stP σ ((List.range n).map f36)).2.1.length = n by show ((List.range n).map f36).length = n; rw [List.length_map, List.length_range]]; exact h33, hm.a34.mono (hk 34 (by omega)) (fun _ h => h), hm.a35.mono (hk 35 (by omega)) (fun _ h => h), ⟨f36, (hk 36 (by omega)).trans h36, fun k hk => (rg_get (by have hk : k < ((List.range n).map f36).length := hk; rw [List.length_map, List.length_range] at hk; exact hk)).symm⟩, hm.a37.mono (hk 37 (by omega)) (fun _ h => h), hm.a38.mono (hk 38 (by omega)) (fun _ h => h), hm.a39.mono (hk 39 (by omega)) (fun _ h => h), hm.a40.mono (hk 40 (by omega)) (fun _ h => h), hm.a41.mono (hk 41 (by omega)) (fun _ h => h), hm.a42.mono (hk 42 (by omega)) (fun _ h => h), hm.a43.mono (hk 43 (by omega)) (fun _ h => h), hm.a44.mono (hk 44 (by omega)) (fun _ h => h), hm.a45.mono (hk 45 (by omega)) (fun _ h => h), hm.a46.mono (hk 46 (by omega)) (fun _ h => h), ⟨hm.b.1, by rw [show (stP σ ((List.range n).map f36)).2.1.length = n by show ((List.range n).map f36).length = n; rw [List.length_map, List.length_range]]; exact hn, hm.b.2.2⟩⟩
theorem p36_set {σ : St} {f : Nat → Int32} (h : q36 σ f) {x k : Nat} {v : Int32} (hk : k < (σ.2.1.set x v).length) : upd f x v k = (σ.2.1.set x v).getD k 0 := by
  rw [List.length_set] at hk
  rw [List.getD_eq_getElem?_getD, List.getElem?_set]
  by_cases q : x = k
  · subst q
    rw [up_eq, if_pos rfl, if_pos hk]
    rfl
  · rw [up_ne (fun z => q z.symm), if_neg q, ← List.getD_eq_getElem?_getD]
    exact h k hk
theorem Mdl.setAt {G : GG} {c c' : CC} {σ : St} {th : Int32} (hm : Mdl G c σ th) {f36 : Nat → Int32} (hq36 : q36 σ f36) {x : Nat} {v : Int32} (h36' : c' 36 = .inl (G.2.2.2 0, 64, .inl (upd f36 x v))) (hk : ∀ y : Nat, y ≠ 36 → c' y = c y) : Mdl G c' (stP σ (σ.2.1.set x v)) th :=
  ⟨by rw [show (stP σ (σ.2.1.set x v)).2.1.length = σ.2.1.length from List.length_set]; exact (hk 33 (by omega)).trans hm.o, hm.a34.mono (hk 34 (by omega)) (fun _ h => h), hm.a35.mono (hk 35 (by omega)) (fun _ h => h), ⟨_, h36', fun k hk => p36_set hq36 hk⟩, hm.a37.mono (hk 37 (by omega)) (fun _ h => h), hm.a38.mono (hk 38 (by omega)) (fun _ h => h), hm.a39.mono (hk 39 (by omega)) (fun _ h => h), hm.a40.mono (hk 40 (by omega)) (fun _ h => h), hm.a41.mono (hk 41 (by omega)) (fun _ h => h), hm.a42.mono (hk 42 (by omega)) (fun _ h => h), hm.a43.mono (hk 43 (by omega)) (fun _ h => h), hm.a44.mono (hk 44 (by omega)) (fun _ h => h), hm.a45.mono (hk 45 (by omega)) (fun _ h => h), hm.a46.mono (hk 46 (by omega)) (fun _ h => h), ⟨hm.b.1, by show (σ.2.1.set x v).length ≤ 64; rw [List.length_set]; exact hm.b.2.1, hm.b.2.2⟩⟩
theorem Mdl.keep {G : GG} {c c' : CC} {σ : St} {th : Int32} (h : Mdl G c σ th) (k : ∀ y : Nat, 33 ≤ y → y < 47 → c' y = c y) : Mdl G c' σ th :=
  ⟨(k 33 (by omega) (by omega)).trans h.o, h.a34.mono (k 34 (by omega) (by omega)) (fun _ h => h), h.a35.mono (k 35 (by omega) (by omega)) (fun _ h => h), h.a36.mono (k 36 (by omega) (by omega)) (fun _ h => h), h.a37.mono (k 37 (by omega) (by omega)) (fun _ h => h), h.a38.mono (k 38 (by omega) (by omega)) (fun _ h => h), h.a39.mono (k 39 (by omega) (by omega)) (fun _ h => h), h.a40.mono (k 40 (by omega) (by omega)) (fun _ h => h), h.a41.mono (k 41 (by omega) (by omega)) (fun _ h => h), h.a42.mono (k 42 (by omega) (by omega)) (fun _ h => h), h.a43.mono (k 43 (by omega) (by omega)) (fun _ h => h), h.a44.mono (k 44 (by omega) (by omega)) (fun _ h => h), h.a45.mono (k 45 (by omega) (by omega)) (fun _ h => h), h.a46.mono (k 46 (by omega) (by omega)) (fun _ h => h), h.b⟩
theorem Mdl.eq {G : GG} {c : CC} {σ τ : St} {th : Int32} (h : Mdl G c σ th) (e : σ = τ) : Mdl G c τ th := e ▸ h
/-- what the class's own cells tell of the state -/
def Bnd (σ : St) : Prop := (∀ j : Nat, j < 4 → okL 120 (σ.1 j)) ∧ okL 64 σ.2.1 ∧ ∀ j : Nat, j < 4 → okS (σ.2.2 j) ∧ (sO (σ.2.2 j)).length ≤ 240 ∧ okK (sK (σ.2.2 j))
theorem Cls.bnd {G : GG} {c : CC} {σ : St} (h : Cls G c σ) : Bnd σ := ⟨fun _ hj => h.rl hj, h.pl, fun _ hj => ⟨(h.str hj).1, (h.str hj).2.1.le, h.sk hj⟩⟩
/-- what is marked can be marked -/
def okM (σ : St) : Prop := ∀ j : Nat, j < 4 → ∀ q : Nat × Int32, sX (σ.2.2 j) = some q → canM (sK (σ.2.2 j)) = true
theorem okM.set {σ : St} (h : okM σ) {j : Nat} {t : Stm} (ht : (∀ q : Nat × Int32, sX (σ.2.2 j) = some q → canM (sK (σ.2.2 j)) = true) → ∀ q : Nat × Int32, sX t = some q → canM (sK t) = true) : okM (stT σ j t) :=
  vb_all (P := fun _ t => ∀ q : Nat × Int32, sX t = some q → canM (sK t) = true) h ht
/-- what a model's call answers and leaves -/
def mQ {β : Type} (G : GG) (c : CC) (R : Nat × β × St) (r : β) (c' : CC) : Prop := (R.1 = 0 → R.2.1 = r) ∧ Mdl G c' R.2.2 (nI R.1) ∧ okM R.2.2 ∧ ∀ y : Nat, y < 33 ∨ 47 ≤ y → c' y = c y
theorem mQ.of {β : Type} {G : GG} {c c' : CC} {R : Nat × β × St} {r v : β} {k : Nat} {σ' : St} (e : R = (k, v, σ')) (hr : k = 0 → v = r) (hm : Mdl G c' σ' (nI k)) (hM : okM σ') (hk : ∀ y : Nat, y < 33 ∨ 47 ≤ y → c' y = c y) : mQ G c R r c' := by
  subst e
  exact ⟨hr, hm, hM, hk⟩
theorem ixB_ix {x : Int32} (h : ¬ ixB x = false) : ∃ j : Nat, j < 4 ∧ x = nI j := by
  have q := of_decide_eq_true (show ixB x = true from (Bool.not_eq_false _).mp h)
  exact ix4 (i_nlt q.1) q.2

