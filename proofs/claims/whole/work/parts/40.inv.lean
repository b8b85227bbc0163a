def Ch (P F : List Nat) (J : Bool) (g g' : pg_S) : Prop := (∀ a, a ≠ 59 → a ∉ P → g'.1 a = g.1 a) ∧ (∀ j, j ∈ ([4, 6, 16, 27] : List Nat) → j ∉ F → g'.1 59 j = g.1 59 j) ∧ (J = false → g'.2 70 = g.2 70)
theorem Ch.rf {g : pg_S} : Ch [] [] false g g := ⟨fun _ _ _ => rfl, fun _ _ _ => rfl, fun _ => rfl⟩
theorem Ch.tr {P F P' F' : List Nat} {J J' : Bool} {g g' g'' : pg_S} (h : Ch P F J g g') (h' : Ch P' F' J' g' g'') : Ch (P ++ P') (F ++ F') (J || J') g g'' :=
  ⟨fun a q r => (h'.1 a q (fun z => r (List.mem_append_right _ z))).trans (h.1 a q (fun z => r (List.mem_append_left _ z))), fun j q r => (h'.2.1 j q (fun z => r (List.mem_append_right _ z))).trans (h.2.1 j q (fun z => r (List.mem_append_left _ z))), fun q => by
    cases J with
    | true => cases q
    | false => exact (h'.2.2 q).trans (h.2.2 rfl)⟩
theorem Ch.fr {lo hi : Nat} {g g' : pg_S} (f : FR lo hi g g') (h : 59 < lo ∨ hi ≤ 59) : Ch (List.range' lo (hi - lo)) [] false g g' :=
  ⟨fun a _ r => f.1 a (by rw [List.mem_range'_1] at r; omega), fun j _ _ => by rw [f.1 59 h], fun _ => by rw [f.2]⟩
theorem Ch.fs {a b c d : Nat} {g g' : pg_S} (f : FS a b c d g g') (h : b ≤ 59) (h2 : d ≤ 59) : Ch (List.range' a (b - a) ++ List.range' c (d - c)) [] false g g' :=
  ⟨fun x _ r => f.1 x (fun z => r (List.mem_append_left _ (List.mem_range'_1.mpr (by omega)))) (fun z => r (List.mem_append_right _ (List.mem_range'_1.mpr (by omega)))), fun j _ _ => by rw [f.1 59 (by omega) (by omega)], fun _ => by rw [f.2]⟩
theorem Ch.fm {g g' : pg_S} (f : FM g g') : Ch [60, 63] [] false g g' :=
  ⟨fun a _ r => f.1 a (fun z => r (by rw [z]; decide)) (fun z => r (by rw [z]; decide)), fun j _ _ => by rw [f.1 59 (by decide) (by decide)], fun _ => by rw [f.2]⟩
theorem Ch.fl {l : List Nat} {g g' : pg_S} (f : FL l g g') (h : 59 ∉ l) : Ch l [] false g g' :=
  ⟨fun a _ r => f.1 a r, fun j _ _ => by rw [f.1 59 h], fun _ => by rw [f.2]⟩
theorem Ch.fa {g g' : pg_S} (f : FA g g') : Ch [74] [27] false g g' :=
  ⟨fun a q r => f.1 a q (fun z => r (by rw [z]; decide)), fun j q r => f.2.1 j (by
    have : ∀ j ∈ ([4, 6, 16, 27] : List Nat), j ∉ ([27] : List Nat) → j < 23 := by decide
    exact this j q r), fun _ => by rw [f.2.2]⟩
theorem Ch.fj {g g' : pg_S} (f : FJ g g') : Ch [68, 69] [] true g g' :=
  ⟨fun a _ r => f.1 a (fun z => r (by rw [z]; decide)) (fun z => r (by rw [z]; decide)), fun j _ _ => by rw [f.1 59 (by decide) (by decide)], fun q => by cases q⟩
theorem Ch.ui {k j : Nat} {v : Int32} {g : pg_S} (h : k ≠ 59) : Ch [k] [] false g (pg_ui g.1 k j v, g.2) :=
  ⟨fun a _ r => pg_ui_ne g.1 k j v a (fun z => r (by rw [z]; exact List.mem_singleton.mpr rfl)), fun i _ _ => by rw [show (pg_ui g.1 k j v, g.2).1 59 = g.1 59 from pg_ui_ne g.1 k j v 59 (fun z => h z.symm)], fun _ => rfl⟩
theorem Ch.u59 {j : Nat} {v : Int32} {g : pg_S} : Ch [] [j] false g (pg_ui g.1 59 j v, g.2) :=
  ⟨fun a q _ => pg_ui_ne g.1 59 j v a q, fun i _ r => rd_ui (fun z => r (by rw [z.2]; exact List.mem_singleton.mpr rfl)), fun _ => rfl⟩
theorem Ch.at {P F : List Nat} {J : Bool} {g g' : pg_S} (c : Ch P F J g g') {l : List Nat} (h : ∀ a ∈ l, a ≠ 59 ∧ a ∉ P) {a : Nat} (ha : a ∈ l) : g'.1 a = g.1 a := c.1 a (h a ha).1 (h a ha).2
def IText (g : pg_S) : Prop := ∃ (B : Nat → Nat) (L : Nat), TP g B L ∧ MTP g B L
def IRows (g : pg_S) : Prop := ∃ R, R ≤ 10 ∧ g.1 30 1 = nI R ∧ g.1 59 16 = nI R ∧ ∀ j, j < R → ∀ v, v < 3 → g.1 (32 + j) v = g.1 66 (3 * j + v)
def IS1 (g : pg_S) (s : Nat) : Prop := ∃ c k, c ≤ 40 ∧ k ≤ 4 ∧ g.1 (45 + 2 * s) 2 = nI c ∧ g.1 69 s = nI c ∧ g.1 (45 + 2 * s) 1 = nI k - 1 ∧ g.1 68 s = nI k - 1 ∧ ∀ j, j < c → g.2 70 (40 * s + j) = (g.1 (46 + 2 * s) j).toInt64
def ISheet (g : pg_S) : Prop := ∀ s, s < 4 → IS1 g s
def IShelf (g : pg_S) : Prop := ∃ H A B : Nat → Int32, ∀ s, s < 4 → CS g s (H s) (A s) (B s) ∧ MS g s (H s) (A s) (B s) ∧ (H s = 0 ∨ H s = 1 ∨ H s = 2)
def IActs (g : pg_S) : Prop := ∃ r, r ≤ 30 ∧ g.1 42 1 = nI r ∧ g.1 59 27 = nI r ∧ ∀ j, j < r → g.1 43 j = g.1 74 j
def IKept (g : pg_S) : Prop := (g.1 0 3 = 0 ∧ g.1 59 4 = 0) ∨ (g.1 0 3 = 1 ∧ g.1 59 4 = 1 ∧ ∃ (T : TW) (n : Nat), CR g 19 T n ∧ MR g 62 T n ∧ WF T n)
def INow (g : pg_S) : Prop := ∃ (T : TW) (n : Nat), CR g 1 T n ∧ MR g 60 T n ∧ WF T n
def INV (g : pg_S) : Prop := INow g ∧ IText g ∧ IRows g ∧ ISheet g ∧ IShelf g ∧ IActs g ∧ IKept g
theorem IText.keep {P F : List Nat} {J : Bool} {g g' : pg_S} (h : IText g) (c : Ch P F J g g') (hP : ∀ a ∈ ([28, 29, 64] : List Nat), a ≠ 59 ∧ a ∉ P) (hF : 6 ∉ F) : IText g' := by
  have at1 : ∀ a, a ∈ ([28, 29, 64] : List Nat) → g'.1 a = g.1 a := fun a ha => c.at hP ha
  have f1 := c.2.1 6 (by decide) hF
  obtain ⟨B, L, ⟨a1, a2, a3⟩, ⟨b1, b2, b3⟩⟩ := h
  refine ⟨B, L, ⟨?_, a2, fun j hj => ⟨(a3 j hj).1, ?_⟩⟩, ⟨f1.trans b1, b2, fun j hj => ⟨(b3 j hj).1, ?_⟩⟩⟩
  · rw [at1 28 (by decide)]; exact a1
  · rw [at1 29 (by decide)]; exact (a3 j hj).2
  · rw [at1 64 (by decide)]; exact (b3 j hj).2
theorem IRows.keep {P F : List Nat} {J : Bool} {g g' : pg_S} (h : IRows g) (c : Ch P F J g g') (hP : ∀ a ∈ ([30, 32, 33, 34, 35, 36, 37, 38, 39, 40, 41, 66] : List Nat), a ≠ 59 ∧ a ∉ P) (hF : 16 ∉ F) : IRows g' := by
  have at1 : ∀ a, a ∈ ([30, 32, 33, 34, 35, 36, 37, 38, 39, 40, 41, 66] : List Nat) → g'.1 a = g.1 a := fun a ha => c.at hP ha
  have f1 := c.2.1 16 (by decide) hF
  obtain ⟨R, a1, a2, a3, a4⟩ := h
  refine ⟨R, a1, ?_, f1.trans a3, fun j hj v hv => ?_⟩
  · rw [at1 30 (by decide)]; exact a2
  · rw [at1 66 (by decide), at1 (32 + j) ((by decide : ∀ j, j < 10 → 32 + j ∈ ([30, 32, 33, 34, 35, 36, 37, 38, 39, 40, 41, 66] : List Nat)) j (by omega))]; exact a4 j hj v hv
theorem ISheet.keep {P F : List Nat} {J : Bool} {g g' : pg_S} (h : ISheet g) (c : Ch P F J g g') (hP : ∀ a ∈ ([45, 46, 47, 48, 49, 50, 51, 52, 68, 69] : List Nat), a ≠ 59 ∧ a ∉ P) (hJ : J = false) : ISheet g' := by
  have at1 : ∀ a, a ∈ ([45, 46, 47, 48, 49, 50, 51, 52, 68, 69] : List Nat) → g'.1 a = g.1 a := fun a ha => c.at hP ha
  have j1 := c.2.2 hJ
  intro s hs
  obtain ⟨x, k, a1, a2, a3, a4, a5, a6, a7⟩ := h s hs
  have e1 := at1 (45 + 2 * s) ((by decide : ∀ s, s < 4 → 45 + 2 * s ∈ ([45, 46, 47, 48, 49, 50, 51, 52, 68, 69] : List Nat)) s hs)
  have e2 := at1 (46 + 2 * s) ((by decide : ∀ s, s < 4 → 46 + 2 * s ∈ ([45, 46, 47, 48, 49, 50, 51, 52, 68, 69] : List Nat)) s hs)
  refine ⟨x, k, a1, a2, by rw [e1]; exact a3, by rw [at1 69 (by decide)]; exact a4, by rw [e1]; exact a5, by rw [at1 68 (by decide)]; exact a6, fun j hj => ?_⟩
  rw [j1, e2]; exact a7 j hj
theorem IShelf.keep {P F : List Nat} {J : Bool} {g g' : pg_S} (h : IShelf g) (c : Ch P F J g g') (hP : ∀ a ∈ ([54, 55, 56, 57, 71, 72, 73] : List Nat), a ≠ 59 ∧ a ∉ P) : IShelf g' := by
  have at1 : ∀ a, a ∈ ([54, 55, 56, 57, 71, 72, 73] : List Nat) → g'.1 a = g.1 a := fun a ha => c.at hP ha
  obtain ⟨H, A, B, h⟩ := h
  refine ⟨H, A, B, fun s hs => ?_⟩
  obtain ⟨a1, a2, a3⟩ := h s hs
  have e1 := at1 (54 + s) ((by decide : ∀ s, s < 4 → 54 + s ∈ ([54, 55, 56, 57, 71, 72, 73] : List Nat)) s hs)
  refine ⟨?_, ?_, a3⟩
  · unfold CS at a1 ⊢
    rw [e1]; exact a1
  · unfold MS at a2 ⊢
    rw [at1 71 (by decide), at1 72 (by decide), at1 73 (by decide)]; exact a2
theorem IActs.keep {P F : List Nat} {J : Bool} {g g' : pg_S} (h : IActs g) (c : Ch P F J g g') (hP : ∀ a ∈ ([42, 43, 74] : List Nat), a ≠ 59 ∧ a ∉ P) (hF : 27 ∉ F) : IActs g' := by
  have at1 : ∀ a, a ∈ ([42, 43, 74] : List Nat) → g'.1 a = g.1 a := fun a ha => c.at hP ha
  have f1 := c.2.1 27 (by decide) hF
  obtain ⟨r, a1, a2, a3, a4⟩ := h
  refine ⟨r, a1, ?_, f1.trans a3, fun j hj => ?_⟩
  · rw [at1 42 (by decide)]; exact a2
  · rw [at1 43 (by decide), at1 74 (by decide)]; exact a4 j hj
theorem IKept.keep {P F : List Nat} {J : Bool} {g g' : pg_S} (h : IKept g) (c : Ch P F J g g') (hP : ∀ a ∈ ([0, 19, 20, 21, 22, 23, 24, 25, 26, 27, 62] : List Nat), a ≠ 59 ∧ a ∉ P) (hF : 4 ∉ F) : IKept g' := by
  have at1 : ∀ a, a ∈ ([0, 19, 20, 21, 22, 23, 24, 25, 26, 27, 62] : List Nat) → g'.1 a = g.1 a := fun a ha => c.at hP ha
  have f1 := c.2.1 4 (by decide) hF
  rcases h with ⟨a1, a2⟩ | ⟨a1, a2, T, n, a3, a4, a5⟩
  · exact Or.inl ⟨by rw [at1 0 (by decide)]; exact a1, f1.trans a2⟩
  · refine Or.inr ⟨by rw [at1 0 (by decide)]; exact a1, f1.trans a2, T, n, ?_, ?_, a5⟩
    · obtain ⟨q1, q2, q3, q4, q5⟩ := a3
      refine ⟨q1, fun j hj => ?_, fun j hj => ?_, fun j hj => ?_, fun k hk1 hk2 j hj => ?_⟩
      · rw [at1 19 (by decide)]; exact q2 j hj
      · rw [at1 (19 + 1) (by decide)]; exact q3 j hj
      · rw [at1 (19 + 2) (by decide)]; exact q4 j hj
      · rw [at1 (19 + 1 + k) ((by decide : ∀ k, k < 7 → 19 + 1 + k ∈ ([0, 19, 20, 21, 22, 23, 24, 25, 26, 27, 62] : List Nat)) k hk2)]; exact q5 k hk1 hk2 j hj
    · unfold MR at a4 ⊢
      rw [at1 62 (by decide)]; exact a4
theorem INow.keep {P F : List Nat} {J : Bool} {g g' : pg_S} (h : INow g) (c : Ch P F J g g') (hP : ∀ a ∈ ([1, 2, 3, 4, 5, 6, 7, 8, 9, 60] : List Nat), a ≠ 59 ∧ a ∉ P) : INow g' := by
  have at1 : ∀ a, a ∈ ([1, 2, 3, 4, 5, 6, 7, 8, 9, 60] : List Nat) → g'.1 a = g.1 a := fun a ha => c.at hP ha
  obtain ⟨T, n, ⟨q1, q2, q3, q4, q5⟩, a4, a5⟩ := h
  refine ⟨T, n, ⟨q1, fun j hj => ?_, fun j hj => ?_, fun j hj => ?_, fun k hk1 hk2 j hj => ?_⟩, ?_, a5⟩
  · rw [at1 1 (by decide)]; exact q2 j hj
  · rw [at1 (1 + 1) (by decide)]; exact q3 j hj
  · rw [at1 (1 + 2) (by decide)]; exact q4 j hj
  · rw [at1 (1 + 1 + k) ((by decide : ∀ k, k < 7 → 1 + 1 + k ∈ ([1, 2, 3, 4, 5, 6, 7, 8, 9, 60] : List Nat)) k hk2)]; exact q5 k hk1 hk2 j hj
  · unfold MR at a4 ⊢
    rw [at1 60 (by decide)]; exact a4
theorem INV.now {P F : List Nat} {J : Bool} {g g' : pg_S} {T : TW} {n : Nat} (I : INV g) (c1 : CR g' 1 T n) (m1 : MR g' 60 T n) (wf : WF T n) (c : Ch P F J g g') (hP : ∀ a ∈ ([28, 29, 64, 30, 32, 33, 34, 35, 36, 37, 38, 39, 40, 41, 66, 45, 46, 47, 48, 49, 50, 51, 52, 68, 69, 54, 55, 56, 57, 71, 72, 73, 42, 43, 74, 0, 19, 20, 21, 22, 23, 24, 25, 26, 27, 62] : List Nat), a ≠ 59 ∧ a ∉ P) (hF : ∀ j ∈ ([4, 6, 16, 27] : List Nat), j ∉ F) (hJ : J = false) : INV g' := by
  obtain ⟨_, i2, i3, i4, i5, i6, i7⟩ := I
  have sub : ∀ l : List Nat, (∀ a ∈ l, a ∈ ([28, 29, 64, 30, 32, 33, 34, 35, 36, 37, 38, 39, 40, 41, 66, 45, 46, 47, 48, 49, 50, 51, 52, 68, 69, 54, 55, 56, 57, 71, 72, 73, 42, 43, 74, 0, 19, 20, 21, 22, 23, 24, 25, 26, 27, 62] : List Nat)) → ∀ a ∈ l, a ≠ 59 ∧ a ∉ P := fun l h a ha => hP a (h a ha)
  exact ⟨⟨T, n, c1, m1, wf⟩, i2.keep c (sub _ (by decide)) (hF 6 (by decide)), i3.keep c (sub _ (by decide)) (hF 16 (by decide)), i4.keep c (sub _ (by decide)) hJ, i5.keep c (sub _ (by decide)), i6.keep c (sub _ (by decide)) (hF 27 (by decide)), i7.keep c (sub _ (by decide)) (hF 4 (by decide))⟩
