/-! the abstract state: what every cell of the class's and the reference's objects holds; the shape never changes after the constructors -/
abbrev pg_S : Type := (Nat → Nat → Int32) × (Nat → Nat → Int64)
abbrev pg_Sc : Type := Nat × (Nat → Int32)
abbrev pg_Sh : Type := (Nat × Nat × List Nat) ⊕ (Nat × List Nat)
abbrev pg_Lv : Type := List (Nat × Value)
abbrev pg_Q : Type := Option Value → pg_S → Prop
def pg_tv (ad : Nat → Nat) : Value → Value
  | .ref k => .ref (ad k)
  | v => v
def pg_tq (ad : Nat → Nat) (q : Nat × Value) : Nat × Value := (q.1, pg_tv ad q.2)
def pg_fv (ad : Nat → Nat) (g : pg_S) (k j : Nat) : Nat → Value
  | 0 => .int (g.1 k j)
  | 1 => .long (g.2 k j)
  | r + 2 => .ref (ad r)
def pg_el (ad : Nat → Nat) (cA : Nat → ClassId) (g : pg_S) (k : Nat) : pg_Sh → va_E
  | .inl (0, n, _) => .inl (cA 0, n, .inl (g.1 k))
  | .inl (1, n, _) => .inl (cA 1, n, .inr (.inl (g.2 k)))
  | .inl (2, n, _) => .inl (cA 2, n, .inl (g.1 k))
  | .inl (t + 3, n, rs) => .inl (cA (t + 3), n, .inr (.inr (.inr (.inr (fun i => (rs[i]?).map ad)))))
  | .inr (c, fs) => .inr (c, fs.mapIdx (fun j f => pg_fv ad g k j f))
def pg_sh : List pg_Sh := [.inr (6, [3, 12, 21, 0, 30, 32, 44, 46, 55, 60]), .inr (5, [4, 5, 6, 7, 8, 9, 10, 11, 0, 0, 0]), .inl (0, 4, []), .inl (0, 6, []), .inl (0, 8, []), .inl (0, 8, []), .inl (0, 8, []), .inl (0, 8, []), .inl (0, 8, []), .inl (0, 8, []), .inr (5, [13, 14, 15, 16, 17, 18, 19, 20, 0, 0, 0]), .inl (0, 4, []), .inl (0, 6, []), .inl (0, 8, []), .inl (0, 8, []), .inl (0, 8, []), .inl (0, 8, []), .inl (0, 8, []), .inl (0, 8, []), .inr (5, [22, 23, 24, 25, 26, 27, 28, 29, 0, 0, 0]), .inl (0, 4, []), .inl (0, 6, []), .inl (0, 8, []), .inl (0, 8, []), .inl (0, 8, []), .inl (0, 8, []), .inl (0, 8, []), .inl (0, 8, []), .inr (4, [31, 0, 0, 0, 0, 0, 0]), .inl (2, 200, []), .inr (1, [33, 0]), .inl (5, 10, [32, 33, 34, 35, 36, 37, 38, 39, 40, 41]), .inl (0, 3, []), .inl (0, 3, []), .inl (0, 3, []), .inl (0, 3, []), .inl (0, 3, []), .inl (0, 3, []), .inl (0, 3, []), .inl (0, 3, []), .inl (0, 3, []), .inl (0, 3, []), .inr (0, [45, 0, 0, 0, 0, 0]), .inl (0, 30, []), .inl (3, 4, [45, 47, 49, 51]), .inr (2, [48, 0, 0]), .inl (0, 40, []), .inr (2, [50, 0, 0]), .inl (0, 40, []), .inr (2, [52, 0, 0]), .inl (0, 40, []), .inr (2, [54, 0, 0]), .inl (0, 40, []), .inl (4, 4, [54, 55, 56, 57]), .inr (3, [0, 0, 0, 0]), .inr (3, [0, 0, 0, 0]), .inr (3, [0, 0, 0, 0]), .inr (3, [0, 0, 0, 0]), .inl (0, 64, []), .inr (7, [62, 63, 64, 65, 0, 66, 0, 0, 0, 0, 1, 0, 0, 67, 68, 69, 0, 70, 71, 72, 73, 74, 75, 0, 0, 0, 76, 0, 0]), .inl (0, 53, []), .inl (0, 53, []), .inl (0, 53, []), .inl (0, 53, []), .inl (0, 200, []), .inl (0, 64, []), .inl (0, 30, []), .inl (0, 30, []), .inl (0, 4, []), .inl (0, 4, []), .inl (1, 160, []), .inl (0, 4, []), .inl (0, 4, []), .inl (0, 4, []), .inl (0, 30, [])]
def pg_ws (ad : Nat → Nat) (cA : Nat → ClassId) (g : pg_S) : va_W := pg_sh.mapIdx (fun k x => (ad k, pg_el ad cA g k x))
def pg_tys (cA : Nat → ClassId) : List (ClassId × FieldType) := [(cA 0, .int), (cA 1, .long), (cA 2, .byte), (cA 3, .object "PicturePegs$Sheet"), (cA 4, .object "PicturePegs$Shelf"), (cA 5, .array .int)]
def pg_ui (I : Nat → Nat → Int32) (k j : Nat) (v : Int32) : Nat → Nat → Int32 := fun a => if a = k then upd (I a) j v else I a
def pg_uj (I : Nat → Nat → Int64) (k j : Nat) (v : Int64) : Nat → Nat → Int64 := fun a => if a = k then vp_updL (I a) j v else I a
def pg_uc (I : Nat → Nat → Int32) (k n k' : Nat) : Nat → Nat → Int32 := fun a => if a = k' then va_cpy (I k) (I k') 0 0 n else I a
theorem pg_ui_at (I : Nat → Nat → Int32) (k j : Nat) (v : Int32) (a b : Nat) : pg_ui I k j v a b = if a = k ∧ b = j then v else I a b := by
  unfold pg_ui upd
  by_cases h : a = k
  · by_cases h2 : b = j <;> simp [h, h2]
  · simp [h]
theorem pg_uj_at (I : Nat → Nat → Int64) (k j : Nat) (v : Int64) (a b : Nat) : pg_uj I k j v a b = if a = k ∧ b = j then v else I a b := by
  unfold pg_uj vp_updL
  by_cases h : a = k
  · by_cases h2 : b = j <;> simp [h, h2]
  · simp [h]
theorem pg_uc_at (I : Nat → Nat → Int32) (k n k' a b : Nat) : pg_uc I k n k' a b = if a = k' ∧ b < n then I k b else I a b := by
  unfold pg_uc va_cpy
  by_cases h : a = k'
  · by_cases h2 : b < n <;> simp [h, h2]
  · simp [h]
theorem pg_ws_at {ad : Nat → Nat} {cA : Nat → ClassId} {g : pg_S} {k : Nat} {x : pg_Sh} (h : pg_sh[k]? = some x) : (pg_ws ad cA g)[k]? = some (ad k, pg_el ad cA g k x) := by
  unfold pg_ws
  rw [List.getElem?_mapIdx, h]
  rfl
theorem pg_el_eq {ad : Nat → Nat} {cA : Nat → ClassId} {g g' : pg_S} {k : Nat} (x : pg_Sh) (h1 : g'.1 k = g.1 k) (h2 : g'.2 k = g.2 k) : pg_el ad cA g' k x = pg_el ad cA g k x := by
  rcases x with ⟨t, n, rs⟩ | ⟨c, fs⟩
  · match t with
    | 0 => simp only [pg_el, h1]
    | 1 => simp only [pg_el, h2]
    | 2 => simp only [pg_el, h1]
    | t + 3 => simp only [pg_el]
  · have e : (fun (j f : Nat) => pg_fv ad g' k j f) = fun j f => pg_fv ad g k j f := by
      funext j f
      match f with
      | 0 => simp only [pg_fv, h1]
      | 1 => simp only [pg_fv, h2]
      | r + 2 => simp only [pg_fv]
    simp only [pg_el, e]
theorem pg_ws_set {ad : Nat → Nat} {cA : Nat → ClassId} {g g' : pg_S} {k : Nat} {x : pg_Sh} (h : pg_sh[k]? = some x) (h1 : ∀ i, i ≠ k → g'.1 i = g.1 i) (h2 : ∀ i, i ≠ k → g'.2 i = g.2 i) : (pg_ws ad cA g).set k (ad k, pg_el ad cA g' k x) = pg_ws ad cA g' := by
  apply List.ext_getElem?
  intro i
  by_cases hi : i = k
  · subst hi
    rw [pg_ws_at h]
    rw [List.getElem?_set_self]
    have := pg_ws_at (ad := ad) (cA := cA) (g := g) h
    exact (List.getElem?_eq_some_iff.mp this).1
  · rw [List.getElem?_set_ne (fun e => hi e.symm)]
    unfold pg_ws
    rw [List.getElem?_mapIdx, List.getElem?_mapIdx]
    cases pg_sh[i]? with
    | none => rfl
    | some y => simp only [Option.map_some, pg_el_eq y (h1 i hi) (h2 i hi)]
theorem pg_ui_ne (I : Nat → Nat → Int32) (k j : Nat) (v : Int32) : ∀ i, i ≠ k → pg_ui I k j v i = I i := fun i h => if_neg h
theorem pg_uj_ne (I : Nat → Nat → Int64) (k j : Nat) (v : Int64) : ∀ i, i ≠ k → pg_uj I k j v i = I i := fun i h => if_neg h
theorem pg_uc_ne (I : Nat → Nat → Int32) (k n k' : Nat) : ∀ i, i ≠ k' → pg_uc I k n k' i = I i := fun i h => if_neg h
theorem pg_ui_eq (I : Nat → Nat → Int32) (k j : Nat) (v : Int32) : pg_ui I k j v k = upd (I k) j v := if_pos rfl
theorem pg_uj_eq (I : Nat → Nat → Int64) (k j : Nat) (v : Int64) : pg_uj I k j v k = vp_updL (I k) j v := if_pos rfl
theorem pg_uc_eq (I : Nat → Nat → Int32) (k n k' : Nat) : pg_uc I k n k' k' = va_cpy (I k) (I k') 0 0 n := if_pos rfl
/-- fields of an object, one int put anew -/
theorem pg_fs_set {ad : Nat → Nat} {g : pg_S} {k j : Nat} {v : Int32} {fs : List Nat} (h : fs[j]? = some 0) : (fs.mapIdx (fun j f => pg_fv ad g k j f)).set j (.int v) = fs.mapIdx (fun i f => pg_fv ad (pg_ui g.1 k j v, g.2) k i f) := by
  apply List.ext_getElem?
  intro i
  by_cases hi : i = j
  · subst hi
    have hl : i < (fs.mapIdx (fun j f => pg_fv ad g k j f)).length := by rw [List.length_mapIdx]; exact (List.getElem?_eq_some_iff.mp h).1
    rw [List.getElem?_set_self hl, List.getElem?_mapIdx, h]
    simp [pg_fv, pg_ui, upd]
  · rw [List.getElem?_set_ne (fun e => hi e.symm), List.getElem?_mapIdx, List.getElem?_mapIdx]
    cases fs[i]? with
    | none => rfl
    | some y =>
      match y with
      | 0 => simp [pg_fv, pg_ui, upd, hi]
      | 1 => simp [pg_fv]
      | r + 2 => simp [pg_fv]
theorem pg_fs_setL {ad : Nat → Nat} {g : pg_S} {k j : Nat} {v : Int64} {fs : List Nat} (h : fs[j]? = some 1) : (fs.mapIdx (fun j f => pg_fv ad g k j f)).set j (.long v) = fs.mapIdx (fun i f => pg_fv ad (g.1, pg_uj g.2 k j v) k i f) := by
  apply List.ext_getElem?
  intro i
  by_cases hi : i = j
  · subst hi
    have hl : i < (fs.mapIdx (fun j f => pg_fv ad g k j f)).length := by rw [List.length_mapIdx]; exact (List.getElem?_eq_some_iff.mp h).1
    rw [List.getElem?_set_self hl, List.getElem?_mapIdx, h]
    simp [pg_fv, pg_uj, vp_updL]
  · rw [List.getElem?_set_ne (fun e => hi e.symm), List.getElem?_mapIdx, List.getElem?_mapIdx]
    cases fs[i]? with
    | none => rfl
    | some y =>
      match y with
      | 0 => simp [pg_fv]
      | 1 => simp [pg_fv, pg_uj, vp_updL, hi]
      | r + 2 => simp [pg_fv]
/-! what is read alone: the static rows, the text, the script -/
def pg_t0 : List Int32 := [4, 1, 2, 20]
def pg_t1 : List Int32 := [9, 9, 9, 99]
def pg_t2 : List Int32 := [-1, 0, 0, 1, 2, 0]
def pg_t3 : List Int32 := [10, 11, 12, 13, 10, 20, 12, 13, 30, 11, 12, 31, 51, 20, 50, 13, 40, 41, 12, 31, 10, 11, 61, 60]
def pg_tx : List Int32 := [112, 117, 112, 105, 108, 32, 32, 98, 105, 115, 104, 111, 112, 32, 98, 117, 114, 103, 108, 97, 114, 100, 101, 97, 110, 32, 32, 32, 99, 114, 97, 99, 107, 101, 114, 116, 119, 105, 110, 32, 32, 32, 100, 117, 99, 107, 32, 32, 32, 100, 114, 117, 109, 32, 32, 32, 112, 101, 97, 114, 32, 32, 32, 107, 105, 116, 101, 32, 32, 32, 108, 97, 100, 100, 101, 114, 32, 98, 108, 97, 110, 107, 32, 32, 98, 101, 108, 108, 32, 32, 32, 112, 117, 108, 108, 32, 32, 32, 114, 111, 111, 109, 32, 32, 32, 99, 104, 97, 110, 99, 101, 32, 97, 116, 32, 32, 32, 32, 32, 97, 103, 101, 32, 32, 32, 32, 104, 97, 100, 32, 32, 32, 32, 119, 101, 105, 103, 104, 115, 32]
def pg_RO (sc : pg_Sc) (ad : Nat → Nat) (A : Nat → Prop) (U : State) (H : Heap) : Prop :=
  (va_Z "PicturePegs" "LAW_AT_FIRST" "[I" (.ref (ad 900)) A U H ∧ va_T .int (ad 900) 4 (fun j => .int (pg_t0.getD j 0)) A U H) ∧
  (va_Z "PicturePegs" "LAW_MOST" "[I" (.ref (ad 901)) A U H ∧ va_T .int (ad 901) 4 (fun j => .int (pg_t1.getD j 0)) A U H) ∧
  (va_Z "PicturePegs" "KIND_ABOVE" "[I" (.ref (ad 902)) A U H ∧ va_T .int (ad 902) 6 (fun j => .int (pg_t2.getD j 0)) A U H) ∧
  (va_Z "PicturePegs$Acts" "BODY_OF" "[I" (.ref (ad 903)) A U H ∧ va_T .int (ad 903) 24 (fun j => .int (pg_t3.getD j 0)) A U H) ∧
  va_Z "java/lang/String" "COMPACT_STRINGS" "Z" (.int 1) A U H ∧
  (va_Z "jdk/internal/util/Preconditions" "SIOOBE_FORMATTER" "Ljava/util/function/BiFunction;" .null A U H ∨ va_Z "jdk/internal/util/Preconditions" "SIOOBE_FORMATTER" "Ljava/util/function/BiFunction;" (.ref (ad 907)) A U H) ∧
  vk_S 1 [140] [pg_tx] (fun _ => ad 904) (fun _ => ad 905) A U H ∧
  va_T .int (ad 906) sc.1 (fun j => .int (sc.2 j)) A U H ∧
  vk_R "PicturePegs$Tape" 96 "pupil  bishop burglardean   crackertwin   duck   drum   pear   kite   ladder blank  bell   pull   room   chance at     age    had    weighs " (ad 904) U ∧
  va_Nw (.fieldLinkNest RX5 49 "PicturePegs" "LAW_AT_FIRST" "[I" "PicturePegs") U ∧
  va_Nw (.fieldLinkNest RX4 75 "PicturePegs" "LAW_MOST" "[I" "PicturePegs") U ∧
  va_Nw (.methodLinkNest RX1 18 yX6_upTo "PicturePegs") U
theorem pg_RO.go {sc : pg_Sc} {ad : Nat → Nat} {A B : Nat → Prop} {s U : State} {H : Heap} (h : pg_RO sc ad A s s.heap) (hW : s.WarmedH U.vm) (hk : ∀ a : Nat, a < s.heap.size → ¬ A a → H[a]? = s.heap[a]?) (hB : ∀ q, B q → A q) : pg_RO sc ad B U H := by
  obtain ⟨⟨a1, a2⟩, ⟨b1, b2⟩, ⟨c1, c2⟩, ⟨d1, d2⟩, e1, f1, g1, h1, i1, j1, k1, l1⟩ := h
  have hv := hW.alike
  exact ⟨⟨((a1.kept hk).moved hv).narrow hB, ((a2.kept hk).moved hv).narrow hB⟩, ⟨((b1.kept hk).moved hv).narrow hB, ((b2.kept hk).moved hv).narrow hB⟩, ⟨((c1.kept hk).moved hv).narrow hB, ((c2.kept hk).moved hv).narrow hB⟩, ⟨((d1.kept hk).moved hv).narrow hB, ((d2.kept hk).moved hv).narrow hB⟩, ((e1.kept hk).moved hv).narrow hB, f1.imp (fun f => ((f.kept hk).moved hv).narrow hB) (fun f => ((f.kept hk).moved hv).narrow hB), ((g1.kept hk).moved hv).narrow hB, ((h1.kept hk).moved hv).narrow hB, i1.warm hW, j1.warmF hW, k1.warmF hW, l1.warmM hW⟩
theorem pg_RO.same {sc : pg_Sc} {ad : Nat → Nat} {A : Nat → Prop} {u U : State} {H : Heap} (h : pg_RO sc ad A u H) (hv : u.vm = U.vm) : pg_RO sc ad A U H := by
  obtain ⟨⟨a1, a2⟩, ⟨b1, b2⟩, ⟨c1, c2⟩, ⟨d1, d2⟩, e1, f1, g1, h1, i1, j1, k1, l1⟩ := h
  have hv2 : u.vm.Alike U.vm := by rw [hv]; exact Vm.Alike.refl _
  exact ⟨⟨a1.moved hv2, a2.moved hv2⟩, ⟨b1.moved hv2, b2.moved hv2⟩, ⟨c1.moved hv2, c2.moved hv2⟩, ⟨d1.moved hv2, d2.moved hv2⟩, e1.moved hv2, f1.imp (fun f => f.moved hv2) (fun f => f.moved hv2), g1.moved hv2, h1.moved hv2, vk_R.same hv.symm i1, va_Nw.same rfl hv j1, va_Nw.same rfl hv k1, va_Nw.same rfl hv l1⟩
/-! the judgement -/
def pg_nar (rt : Option FieldType) (r : Int32) : Prop := ∃ ty, rt = some ty ∧ ty ≠ .long ∧ narrow ty (.int r) = .int r
/-- at a method's entry: the machine, its code, the tables' words, room for d frames more, the read-only things; and what the three kinds of return give -/
def pg_Cx (sc : pg_Sc) (d : Nat) (M : MI) (Q : pg_Q) (p : Program) (l : Launch) (e : Env) (R : Room) (s : State) (m : MethodId) (args : Array Value) (below : List Frame) (meth : Method) (c : Code) (cells slots : Nat) (D : va_G) (cA : Nat → ClassId) (ad : Nat → Nat) (A : Nat → Prop) (Z : State → Prop) : Prop :=
  p.tables.exec = Jvm.exec ∧ c.code = M.2.1 ∧ c.maxLocals = M.2.2.1 ∧ s.vm.findClass M.1.cls = some m.cls ∧ (∀ w ∈ pg_tb, w.before args s = true) ∧ (d ≤ R.frames ∧ 64 * d ≤ R.locals ∧ cells ≤ R.cells ∧ slots ≤ R.slots) ∧ va_K D vwCl (pg_tys cA) s ∧ (∀ q, s.heap.size ≤ q → A q) ∧ pg_RO sc ad A s s.heap ∧
  (∀ (pc : Nat) (ls : Array Slot) (H : Heap) (locs : List Loc) (r : Int32) (g : pg_S), decode M.2.1 pc = .ok (.ireturn, 1) → pg_nar M.2.2.2 r → Q (some (.int r)) g → va_P D vwCl (pg_ws ad cA g) H → va_D A (pg_ws ad cA g) → va_S A s.heap H locs → W p l e R s m args below meth c H locs cells slots Z (F0 m pc ls [.int r])) ∧
  (∀ (pc : Nat) (ls : Array Slot) (H : Heap) (locs : List Loc) (r : Int64) (g : pg_S), decode M.2.1 pc = .ok (.lreturn, 1) → M.2.2.2 = some .long → Q (some (.long r)) g → va_P D vwCl (pg_ws ad cA g) H → va_D A (pg_ws ad cA g) → va_S A s.heap H locs → W p l e R s m args below meth c H locs cells slots Z (F0 m pc ls [.long r])) ∧
  (∀ (pc : Nat) (ls : Array Slot) (H : Heap) (locs : List Loc) (g : pg_S), decode M.2.1 pc = .ok (.return_, 1) → M.2.2.2 = none → Q none g → va_P D vwCl (pg_ws ad cA g) H → va_D A (pg_ws ad cA g) → va_S A s.heap H locs → W p l e R s m args below meth c H locs cells slots Z (F0 m pc ls []))
/-- from this frame and this state the method comes to an end with Q -/
def pg_Go (sc : pg_Sc) (d : Nat) (M : MI) (pc : Nat) (lv : pg_Lv) (st : List Value) (g : pg_S) (Q : pg_Q) : Prop :=
  ∀ (p : Program) (l : Launch) (e : Env) (R : Room) (s : State) (m : MethodId) (args : Array Value) (below : List Frame) (meth : Method) (c : Code) (cells slots : Nat) (D : va_G) (cA : Nat → ClassId) (ad : Nat → Nat) (A : Nat → Prop) (Z : State → Prop) (H : Heap) (locs : List Loc) (ls : Array Slot),
    pg_Cx sc d M Q p l e R s m args below meth c cells slots D cA ad A Z → va_P D vwCl (pg_ws ad cA g) H → va_D A (pg_ws ad cA g) → va_S A s.heap H locs → lv_has ls M.2.2.1 (lv.map (pg_tq ad)) →
    W p l e R s m args below meth c H locs cells slots Z (F0 m pc ls (st.map (pg_tv ad)))
theorem pg_Go.mono {sc : pg_Sc} {d : Nat} {M : MI} {pc : Nat} {lv : pg_Lv} {st : List Value} {g : pg_S} {Q Q' : pg_Q} (h : pg_Go sc d M pc lv st g Q) (hq : ∀ r g, Q r g → Q' r g) : pg_Go sc d M pc lv st g Q' := by
  intro p l e R s m args below meth c cells slots D cA ad A Z H locs ls cx hP hD hS hl
  obtain ⟨h1, h2, h3, h4, h5, h6, h7, h8, h9, ha, hb, hc⟩ := cx
  exact h p l e R s m args below meth c cells slots D cA ad A Z H locs ls ⟨h1, h2, h3, h4, h5, h6, h7, h8, h9, fun pc ls H locs r g a b q => ha pc ls H locs r g a b (hq _ _ q), fun pc ls H locs r g a b q => hb pc ls H locs r g a b (hq _ _ q), fun pc ls H locs g a b q => hc pc ls H locs g a b (hq _ _ q)⟩ hP hD hS hl
def pg_B (D : va_G) (cA : Nat → ClassId) (ad : Nat → Nat) (A : Nat → Prop) (g : pg_S) (t : State) : Prop := va_P D vwCl (pg_ws ad cA g) t.heap ∧ va_K D vwCl (pg_tys cA) t ∧ va_D A (pg_ws ad cA g)
def pg_Qc (rt : Option FieldType) (Q : pg_Q) (D : va_G) (cA : Nat → ClassId) (ad : Nat → Nat) (A : Nat → Prop) : Array Value → State → Outcome → State → Prop := match rt with
  | none => va_Qv (fun g => Q none g) (pg_B D cA ad A) A
  | some .long => va_Ql (fun r g => Q (some (.long r)) g) (pg_B D cA ad A) A
  | some _ => va_Qi (fun r g => Q (some (.int r)) g) (pg_B D cA ad A) A
def pg_rm (d : Nat) : Room := { frames := d, cells := 0, slots := 0, locals := 64 * d }
/-- a method's contract at these arguments and this state -/
def pg_Cal (sc : pg_Sc) (d : Nat) (M : MI) (av : List Value) (g : pg_S) (Q : pg_Q) : Prop :=
  ∀ (l : Launch) (D : va_G) (cA : Nat → ClassId) (ad : Nat → Nat) (sz : Nat), Met l M.1 (Cond.code M.1 M.2.1 M.2.2.1 M.2.2.2 :: pg_tb) (pg_rm d) (va_Pc (av.map (pg_tv ad)) (fun U => U.heap.size = sz ∧ va_P D vwCl (pg_ws ad cA g) U.heap ∧ va_K D vwCl (pg_tys cA) U ∧ va_D (fun _ => True) (pg_ws ad cA g) ∧ pg_RO sc ad (va_A (pg_ws ad cA g) sz) U U.heap)) (pg_Qc M.2.2.2 Q D cA ad (va_A (pg_ws ad cA g) sz)) 0 0 (va_A (pg_ws ad cA g) sz)
theorem pg_cat (ad : Nat → Nat) (v : Value) : (pg_tv ad v).category = v.category := by cases v <;> rfl
theorem pg_args (ad : Nat → Nat) : ∀ (i : Nat) (vs : List Value), lv_args i (vs.map (pg_tv ad)) = (lv_args i vs).map (pg_tq ad)
  | _, [] => rfl
  | i, v :: vs => by
    show (i, pg_tv ad v) :: lv_args (if (pg_tv ad v).category = 2 then i + 2 else i + 1) (vs.map (pg_tv ad)) = (i, pg_tv ad v) :: (lv_args (if v.category = 2 then i + 2 else i + 1) vs).map (pg_tq ad)
    rw [pg_cat, pg_args ad _ vs]
theorem pg_sl (ad : Nat → Nat) (vs : List Value) : (lg_sl (vs.map (pg_tv ad))).length = (lg_sl vs).length := by
  induction vs with
  | nil => rfl
  | cons v vs ih =>
    simp only [lg_sl, List.map_cons, List.flatMap_cons, List.length_append] at ih ⊢
    rw [ih]
    cases v <;> rfl
theorem pg_stk (ad : Nat → Nat) (st : List Value) : ((st.map (pg_tv ad)).map fun v => v.category).sum = (st.map fun v => v.category).sum := by
  rw [List.map_map]
  congr 1
  exact List.map_congr_left (fun v _ => pg_cat ad v)
theorem pg_A_eq (ad : Nat → Nat) (cA : Nat → ClassId) (g g' : pg_S) (sz : Nat) : va_A (pg_ws ad cA g) sz = va_A (pg_ws ad cA g') sz := by
  have key : ∀ g g' : pg_S, ∀ q, va_A (pg_ws ad cA g) sz q → va_A (pg_ws ad cA g') sz q := by
    intro g g' q h
    rcases h with ⟨k, e, h⟩ | h
    · unfold pg_ws at h
      rw [List.getElem?_mapIdx] at h
      cases hx : pg_sh[k]? with
      | none => rw [hx] at h; cases h
      | some x =>
        rw [hx] at h
        simp only [Option.map_some, Option.some.injEq, Prod.mk.injEq] at h
        exact Or.inl ⟨k, pg_el ad cA g' k x, by rw [pg_ws_at hx, h.1]⟩
    · exact Or.inr h
  funext q
  exact propext ⟨key g g' q, key g' g q⟩
set_option maxHeartbeats 1000000 in
theorem pg_Cal.of {sc : pg_Sc} {d : Nat} {M : MI} {av : List Value} {g : pg_S} {Q : pg_Q} {lv : pg_Lv} (hy : plainName M.1.cls = true) (hn : (lg_sl av).length ≤ M.2.2.1) (hl : lv_args 0 av = lv) (k : pg_Go sc d M 0 lv [] g Q) : pg_Cal sc d M av g Q := by
  intro l D cA ad sz
  subst hl
  refine Met.ofW (cc := M.2.1) (maxL := M.2.2.1) (ret := M.2.2.2) hy rfl ?_
  intro p e s m args below meth c s₁ B hml hv
  obtain ⟨rfl, hsz, hP, hK, hD0, hR⟩ := hv
  have hx := B.exec
  have hb := B.bytes
  have hr := B.returns
  have hts := atoms_spec (ws := Cond.code M.1 M.2.1 M.2.2.1 M.2.2.2 :: pg_tb) B.pre
  have hown : s.vm.findClass M.1.cls = some m.cls := findClass_of_methodNamed B.named
  have hlocks := B.notSynchronized
  subst hsz
  have hD := hD0.self (sz := s.heap.size)
  generalize hAe : va_A (pg_ws ad cA g) s.heap.size = A at hD hR ⊢
  have hA : ∀ q : Nat, s.heap.size ≤ q → A q := fun q h => by rw [← hAe]; exact Or.inr h
  have hS : va_S A s.heap s.heap [] := va_S.rf
  have hl := lv_entry (av.map (pg_tv ad)) (n := M.2.2.1) (by rw [pg_sl]; exact hn)
  rw [lg_entry_eq]
  generalize (lg_sl (av.map (pg_tv ad)) ++ List.replicate (M.2.2.1 - (lg_sl (av.map (pg_tv ad))).length) Slot.unset).toArray = ls at hl ⊢
  rw [pg_args] at hl
  refine k p l e (pg_rm d) s m _ below meth c 0 0 D cA ad A _ s.heap [] ls ⟨hx, hb, hml, hown, fun w h => hts w (List.mem_cons_of_mem _ h), ⟨Nat.le_refl _, Nat.le_refl _, Nat.le_refl _, Nat.le_refl _⟩, hK, hA, hR, ?_, ?_, ?_⟩ hP hD hS hl
  · intro pc ls H locs r g' hd hn hq hP hD hS
    obtain ⟨ty, hty, hnl, hnar⟩ := hn
    refine W.zret hx hb (hr.trans hty) hnar (fun t ht hW => ?_) hS.2.2 hd
    have e : pg_Qc M.2.2.2 Q D cA ad A = va_Qi (fun r g => Q (some (.int r)) g) (pg_B D cA ad A) A := by
      rw [hty]
      cases ty <;> first | rfl | exact absurd rfl hnl
    rw [e]
    exact ⟨⟨r, g', rfl, hq, by rw [ht]; exact hP, va_K.moved hW.alike hK, hD⟩, hS.F ht⟩
  · intro pc ls H locs r g' hd hn hq hP hD hS
    refine W.lret hx hb (hr.trans hn) (fun t ht hW => ?_) hS.2.2 hd
    have e : pg_Qc M.2.2.2 Q D cA ad A = va_Ql (fun r g => Q (some (.long r)) g) (pg_B D cA ad A) A := by
      rw [hn]
      rfl
    rw [e]
    exact ⟨⟨r, g', rfl, hq, by rw [ht]; exact hP, va_K.moved hW.alike hK, hD⟩, hS.F ht⟩
  · intro pc ls H locs g' hd hn hq hP hD hS
    refine W.vret hx hb (hr.trans hn) (fun t ht hW => ?_) hS.2.2 hd
    have e : pg_Qc M.2.2.2 Q D cA ad A = va_Qv (fun g => Q none g) (pg_B D cA ad A) A := by
      rw [hn]
      rfl
    rw [e]
    exact ⟨⟨g', rfl, hq, by rw [ht]; exact hP, va_K.moved hW.alike hK, hD⟩, hS.F ht⟩
