def qg_out (c5 : ClassId) (h i : Nat) : Cell := arrV c5 10 (fun j => if j < i then .ref (h + 1 + j) else .null)
def qg_in (c0 : ClassId) : Cell := arrV c0 3 (fun _ => .int 0)
theorem qg_out_new (c5 : ClassId) (h : Nat) : ({ cls := c5, slots := Array.replicate 10 .null, vm := .none } : Cell) = qg_out c5 h 0 :=
  (arrV_new c5 10 .null).trans (arrV_cong (fun j _ => (if_neg (Nat.not_lt_zero j)).symm))
theorem qg_in_new (c0 : ClassId) : ({ cls := c0, slots := Array.replicate 3 (.int 0), vm := .none } : Cell) = qg_in c0 := arrV_new c0 3 (.int 0)
theorem qg_out_set (c5 : ClassId) (h i : Nat) : (qg_out c5 h i).setSlot i (.ref (h + 1 + i)) = qg_out c5 h (i + 1) := by
  refine (arrV_store _ _ _ _ _).trans (arrV_cong (fun j _ => ?_))
  unfold updV
  by_cases e : j = i
  · rw [if_pos e, if_pos (by omega), e]
  · rw [if_neg e]
    show (if j < i then Value.ref (h + 1 + j) else .null) = _
    by_cases hj : j < i
    · rw [if_pos hj, if_pos (by omega)]
    · rw [if_neg hj, if_neg (by omega)]
theorem qg_out_size (c5 : ClassId) (h i : Nat) : (qg_out c5 h i).slots.size = 10 := Array.size_ofFn
theorem qg_in_size (c0 : ClassId) : (qg_in c0).slots.size = 3 := Array.size_ofFn
def qg_gr (T : State) (c5 c0 : ClassId) : Nat → State
  | 0 => T.pushCell (qg_out c5 T.heap.size 0)
  | i + 1 => ((qg_gr T c5 c0 i).pushCell (qg_in c0)).setCell T.heap.size (qg_out c5 T.heap.size (i + 1))
def qg_GH (T : State) (c5 c0 : ClassId) (i : Nat) (U : State) : Prop :=
  U.heap.size = T.heap.size + 1 + i ∧ U.heap[T.heap.size]? = some (qg_out c5 T.heap.size i) ∧ (∀ a, a < T.heap.size → U.heap[a]? = T.heap[a]?) ∧ (∀ j, j < i → U.heap[T.heap.size + 1 + j]? = some (qg_in c0)) ∧ U.vm = T.vm ∧ U.slotsUsed = T.slotsUsed + 10 + 3 * i
theorem qg_GH.push {T U : State} {c5 c0 : ClassId} {i : Nat} (h : qg_GH T c5 c0 i U) : (U.pushCell (qg_in c0)).heap[T.heap.size]? = some (qg_out c5 T.heap.size i) := by
  have hlt : T.heap.size < U.heap.size := by rw [h.1]; omega
  exact (State.heap_pushCell_of_lt _ _ hlt).trans h.2.1
theorem qg_gr_heap (T : State) (c5 c0 : ClassId) : ∀ i, qg_GH T c5 c0 i (qg_gr T c5 c0 i)
  | 0 => ⟨Array.size_push _, State.heap_pushCell_size _ _, fun a ha => State.heap_pushCell_of_lt _ _ ha, fun j hj => absurd hj (Nat.not_lt_zero j), rfl, congrArg (T.slotsUsed + ·) (qg_out_size c5 T.heap.size 0)⟩
  | i + 1 => by
    have g := qg_gr_heap T c5 c0 i
    obtain ⟨g1, g2, g3, g4, g5, g6⟩ := g
    have gp := qg_GH.push ⟨g1, g2, g3, g4, g5, g6⟩
    have hs : ((qg_gr T c5 c0 i).pushCell (qg_in c0)).heap.size = T.heap.size + 1 + i + 1 := (Array.size_push _).trans (congrArg (· + 1) g1)
    refine ⟨?_, State.heap_setCell_self gp, fun a ha => ?_, fun j hj => ?_, g5, ?_⟩
    · exact (Array.size_setIfInBounds ..).trans hs
    · refine (State.heap_setCell_other (Nat.ne_of_gt ha)).trans ?_
      have hlt : a < (qg_gr T c5 c0 i).heap.size := by rw [g1]; omega
      exact (State.heap_pushCell_of_lt _ _ hlt).trans (g3 a ha)
    · refine (State.heap_setCell_other (show T.heap.size ≠ T.heap.size + 1 + j by omega)).trans ?_
      by_cases e : j = i
      · rw [e, ← g1]
        exact State.heap_pushCell_size _ _
      · have hlt : T.heap.size + 1 + j < (qg_gr T c5 c0 i).heap.size := by rw [g1]; omega
        exact (State.heap_pushCell_of_lt _ _ hlt).trans (g4 j (by omega))
    · show (qg_gr T c5 c0 i).slotsUsed + (qg_in c0).slots.size = _
      rw [g6, qg_in_size]
      omega
theorem qg_gr_stand {p : Program} {l : Launch} {e : Env} {R : Room} {s : State} {m : MethodId} {args : Array Value} {below : List Frame} {meth : Method} {c : Code} {T : State} {locs : List Loc} {cells slots : Nat} (X : Stand p l e R s m args below meth c T locs cells slots) (c5 c0 : ClassId) : ∀ i, Stand p l e R s m args below meth c (qg_gr T c5 c0 i) (locs ++ (List.range i).map fun j => ⟨T.heap.size, j⟩) (cells + 1 + i) (slots + 10 + 3 * i)
  | 0 => by
    have h := X.pushed (qg_out c5 T.heap.size 0)
    rw [qg_out_size] at h
    rw [List.range_zero, List.map_nil, List.append_nil]
    exact h
  | i + 1 => by
    have h := ((qg_gr_stand X c5 c0 i).pushed (qg_in c0)).stored (qg_gr_heap T c5 c0 i).push i (.ref (T.heap.size + 1 + i))
    rw [qg_out_set, qg_in_size, List.append_assoc] at h
    rw [List.range_succ, List.map_append]
    exact h
theorem qg_along {E : CtlPost} {e : Env} (f : Nat → PUnit → Sem (ForInStep PUnit)) (G : Nat → State) (n : Nat) (hstep : ∀ i, i < n → ∀ d acts (Q : ForInStep PUnit → Pre), (∀ d' acts', Q (.yield PUnit.unit) d' acts' (G (i + 1))) → wp (f i PUnit.unit) Q E e d acts (G i)) : ∀ k i, i + k = n → ∀ d acts (Q : PUnit → Pre), (∀ d' acts', Q PUnit.unit d' acts' (G n)) → wp (forIn (List.range' i k 1) PUnit.unit f) Q E e d acts (G i)
  | 0, i, h, d, acts, Q, hq => by
    have e : i = n := h
    rw [e]
    show wp (forIn [] PUnit.unit f) Q _ _ d acts (G n)
    simp only [List.forIn_nil, wp_pure']
    exact hq d acts
  | k + 1, i, h, d, acts, Q, hq => by
    rw [List.range'_succ, List.forIn_cons, wp_bind']
    exact hstep i (by omega) d acts _ (fun d' acts' => qg_along f G n hstep k (i + 1) (by omega) d' acts' Q hq)
theorem qg_row {E : CtlPost} {e : Env} {d : Bool} {acts : List Action} {U : State} {c0 cc : ClassId} {k0 : Class} {Q : Addr → Pre} (hk : U.vm.classes[c0]? = some k0) (hkind : k0.kind = .array cc .int) (hlim : 3 ≤ e.platform.arrayLengthLimit) (hmem : 12 ≤ e.platform.maxHeapBytes) (h1 : U.heap.size < e.platform.maxCells) (h2 : U.slotsUsed + 3 ≤ e.platform.maxSlots) (hq : ∀ acts', Q U.heap.size d acts' (U.pushCell (qg_in c0))) : wp (multianewarray.make c0 [3]) Q E e d acts U := by
  rw [multianewarray.make]
  simp only [wp_bind', W.ite, show ¬ (3 : Int32) < 0 by decide, if_false, wp_pure', W.theClass, hk, hkind, Option.some.injEq, exists_eq_left']
  rw [show (3 : Int32).toNatClampNeg = 3 by decide]
  refine W.newArray_of hk hkind (by omega) (by show ¬ 3 * 4 > _; omega) h1 h2 rfl (fun acts' => ?_)
  have h := hq acts'
  rw [← qg_in_new c0] at h
  exact h
theorem qg_grid {E : CtlPost} {e : Env} {d : Bool} {acts : List Action} {T : State} {f : JFrame} {c5 c0 cc : ClassId} {k5 k0 : Class} {Q : Addr → Pre} (hk5 : T.vm.classes[c5]? = some k5) (hkind5 : k5.kind = .array c0 (.array .int)) (hk0 : T.vm.classes[c0]? = some k0) (hkind0 : k0.kind = .array cc .int) (hlim : 10 ≤ e.platform.arrayLengthLimit) (hmem : 40 ≤ e.platform.maxHeapBytes) (h1 : T.heap.size + 11 ≤ e.platform.maxCells) (h2 : T.slotsUsed + 40 ≤ e.platform.maxSlots) (hq : ∀ d' acts', Q T.heap.size d' acts' ((qg_gr T c5 c0 10).setTop f)) : wp (multianewarray.make c5 [10, 3]) Q E e d acts (T.setTop f) := by
  rw [multianewarray.make]
  simp only [wp_bind', W.ite, show ¬ (10 : Int32) < 0 by decide, if_false, wp_pure', W.theClass, State.vm_setTop, hk5, hkind5, Option.some.injEq, exists_eq_left']
  rw [show (10 : Int32).toNatClampNeg = 10 by decide]
  refine W.newArray_of (s := T.setTop f) hk5 hkind5 (by omega) (by show ¬ 10 * 4 > _; omega) (show T.heap.size < _ by omega) (show T.slotsUsed + 10 ≤ _ by omega) rfl (fun acts' => ?_)
  rw [qg_out_new c5 T.heap.size, State.pushCell_setTop, State.heap_setTop]
  simp only [show ((10 : Int32) == 0) = false by decide, Bool.false_eq_true, if_false, wp_bind', wp_pure', Std.Legacy.Range.forIn_eq_forIn_range']
  refine qg_along _ (fun i => (qg_gr T c5 c0 i).setTop f) 10 (fun i hi d' acts' Q' hQ => ?_) 10 0 rfl _ _ _ (fun d' acts' => ?_)
  · obtain ⟨g1, g2, g3, g4, g5, g6⟩ := qg_gr_heap T c5 c0 i
    have gp := qg_GH.push ⟨g1, g2, g3, g4, g5, g6⟩
    simp only [wp_bind']
    refine qg_row (U := (qg_gr T c5 c0 i).setTop f) (k0 := k0) (by rw [State.vm_setTop, g5]; exact hk0) hkind0 (by omega) (by omega) (by rw [State.heap_setTop, g1]; omega) (by rw [State.slotsUsed_setTop, g6]; omega) (fun acts'' => ?_)
    rw [State.heap_setTop, g1]
    simp only [wp_bind', W.writeLoc, wp_pure']
    refine ⟨qg_out c5 T.heap.size i, gp, by simp [qg_out, arrV], by rw [qg_out_size]; exact hi, ?_, ?_⟩
    · simp [State.fitsSlot, State.slotType?, qg_out, arrV, g5, hk5, hkind5, fits]
    · rw [qg_out_set]
      exact hQ _ _
  · exact hq _ _
set_option maxHeartbeats 1000000 in
theorem qg_ma {p : Program} {l : Launch} {e : Env} {R : Room} {s : State} {m : MethodId} {args : Array Value} {below : List Frame} {meth : Method} {c : Code} {T : State} {locs : List Loc} {cells slots : Nat} (X : Stand p l e R s m args below meth c T locs cells slots) (hexec : p.tables.exec = Jvm.exec) {own : String} {index : Nat} (hown : s.vm.findClass own = some m.cls) (hclink : (Cond.classLink own index ("[" ++ (FieldType.array .int).toString)).before args s = true) (hover : (Cond.arrayOver (.array .int)).before #[] s = true) (harr : (Cond.arrayClass .int).before args s = true) {g : JFrame} (hg : g.method = m) (hdg : decode c.code g.pc = .ok (.multianewarray index 2, 4)) {rest : List Value} (hstack : g.stack = .int 3 :: .int 10 :: rest) (hcells : cells + 11 ≤ R.cells) (hslots : slots + 40 ≤ R.slots) :
    ∃ (vm₁ : Vm) (c5 c0 : ClassId), s.vm.findClass ("[" ++ (FieldType.array .int).toString) = some c5 ∧ s.vm.findClass ("[" ++ (FieldType.int).toString) = some c0 ∧ Stand p l e R s m args below meth c (qg_gr (T.setVm vm₁) c5 c0 10) (locs ++ (List.range 10).map fun j => ⟨T.heap.size, j⟩) (cells + 11) (slots + 40) ∧
      ∀ target, Steps p.tables e below ((qg_gr (T.setVm vm₁) c5 c0 10).setTop { g with pc := g.pc + 4, stack := .ref T.heap.size :: rest }) target → Steps p.tables e below (T.setTop g) target := by
  subst hg
  obtain ⟨cC, c5, k5, a1, -, a3, a4, a5⟩ := arrayOverA_spec hover
  obtain ⟨c0, k0, cc, b1, b2, b3⟩ := Cond.arrayClass_spec harr
  obtain rfl : c0 = cC := Option.some.inj (b1.symm.trans a1)
  obtain ⟨cL, d1, d2⟩ := Cond.classLink_spec hown hclink e.platform (by rw [X.admits.platform])
  obtain rfl : c5 = cL := Option.some.inj (a5.symm.trans d1)
  obtain ⟨w1, w2, -⟩ := State.classEntry (e := e) X.warmed d2
  generalize T.vm.noted g.method.cls index (.cls c5) = vm₁ at w1 w2
  obtain ⟨k5', n1, n2⟩ := w2.alike.2.2 _ _ a3
  obtain ⟨k0', n3, n4⟩ := w2.alike.2.2 _ _ b2
  have n2 : k5'.kind = .array c0 (.array .int) := by rw [n2]; exact a4
  have n4 : k0'.kind = .array cc .int := by rw [n4]; exact b3
  obtain ⟨r1, r2⟩ := X.roomAbove hcells hslots
  have XG := qg_gr_stand (X.noted w2) c5 c0 10
  refine ⟨vm₁, c5, c0, a5, a1, XG, fun target hrest => ?_⟩
  jvm_step X.here [hexec, hdg]
  simp only [multianewarray.sem, wp_bind', W.resolveClassAt_links (State.method?_setTop g X.here.top) w1]
  have eS : (T.setTop g).setVm vm₁ = (T.setVm vm₁).setTop g := rfl
  rw [eS]
  have htop : (T.setVm vm₁).topJava?.isSome := X.here.top
  refine (Jvm.Op.popN_top (s := T.setVm vm₁) (args := [.int 10, .int 3]) htop hstack).mpr ?_
  simp only [List.mapM_cons, List.mapM_nil, wp_bind', wp_pure']
  refine qg_grid (T := T.setVm vm₁) n1 n2 n3 n4 (by rw [Launch.admits_arrayLengthLimit X.admits]; omega) (by rw [Launch.admits_maxHeapBytes X.admits]; omega) r1 r2 (fun d' acts' => ?_)
  simp only [wp_bind', W.mark, W.pushRef, State.topJava?_setTop' _ XG.here.top, Option.some.injEq, exists_eq_left', State.setTop_setTop]
  intro acts
  simp [jvm, XG.here.top]
  exact hrest
set_option maxHeartbeats 1000000 in
theorem qg_multi {p : Program} {l : Launch} {e : Env} {R : Room} {s : State} {m : MethodId} {args : Array Value} {below : List Frame} {meth : Method} {c : Code} {H : Heap} {locs : List Loc} {cells slots : Nat} {Q : State → Prop} {cc : ByteArray} {pc : Nat} {ls : Array Slot} {rest : List Value} {D : va_G} {cA : Nat → ClassId} {A : Nat → Prop} {ws : va_W} {H0 : Heap} (hexec : p.tables.exec = Jvm.exec) (hb : c.code = cc) {own : String} {index : Nat} (hown : s.vm.findClass own = some m.cls) (hclink : (Cond.classLink own index "[[I").before args s = true) (hover : pg_AA s) (harr : (Cond.arrayClass .int).before args s = true) (hK : va_K D vwCl (pg_tys cA) s) (hP : va_P D vwCl ws H) (hD : va_D A ws) (hS : va_S A H0 H locs) (hA : ∀ q, H0.size ≤ q → A q) (hcells : cells + 11 ≤ R.cells) (hslots : slots + 40 ≤ R.slots) (hdg : decode cc pc = .ok (.multianewarray index 2, 4))
    (kk : ∀ (q : Nat) (H1 : Heap) (locs1 : List Loc), va_P D vwCl (ws ++ rowsW cA q) H1 → va_D A (ws ++ rowsW cA q) → va_S A H0 H1 locs1 → W p l e R s m args below meth c H1 locs1 (cells + 11) (slots + 40) Q (F0 m (pc + 4) ls (.ref q :: rest))) : W p l e R s m args below meth c H locs cells slots Q (F0 m pc ls (.int 3 :: .int 10 :: rest)) := by
  intro T hT X
  subst hb
  obtain ⟨vm₁, c5, c0, hfA, hfC, X1, step⟩ := qg_ma X hexec hown hclink hover harr (g := F0 m pc ls (.int 3 :: .int 10 :: rest)) rfl hdg rfl hcells hslots
  have h5 : s.vm.findClass ("[" ++ (FieldType.array .int).toString) = some (cA 5) := (hK.2 5 (cA 5, .array .int) rfl).2
  have h0 : s.vm.findClass ("[" ++ (FieldType.int).toString) = some (cA 0) := (hK.2 0 (cA 0, .int) rfl).2
  obtain rfl : cA 5 = c5 := Option.some.inj (h5.symm.trans hfA)
  obtain rfl : cA 0 = c0 := Option.some.inj (h0.symm.trans hfC)
  obtain ⟨f1, f2, fo, fi, -, -⟩ := qg_gr_heap (T.setVm vm₁) (cA 5) (cA 0) 10
  have hh : (T.setVm vm₁).heap = H := hT
  rw [hh] at f1 f2 fo fi
  have hsz : T.heap.size = H.size := by rw [hT]
  rw [hsz] at step X1
  generalize qg_gr (T.setVm vm₁) (cA 5) (cA 0) 10 = TF at f1 f2 fo fi X1 step
  have hc5 : qg_out (cA 5) H.size 10 = vp_cell (cA 5) (10, .inr (.inr (.inr (.inr (fun i => ([H.size + 1 + 0, H.size + 1 + 1, H.size + 1 + 2, H.size + 1 + 3, H.size + 1 + 4, H.size + 1 + 5, H.size + 1 + 6, H.size + 1 + 7, H.size + 1 + 8, H.size + 1 + 9] : List Nat)[i]?))))) := by
    rw [vp_cell_q]
    refine arrV_cong (fun j hj => ?_)
    rw [if_pos hj]
    rcases (show j = 0 ∨ j = 1 ∨ j = 2 ∨ j = 3 ∨ j = 4 ∨ j = 5 ∨ j = 6 ∨ j = 7 ∨ j = 8 ∨ j = 9 by omega) with rfl | rfl | rfl | rfl | rfl | rfl | rfl | rfl | rfl | rfl <;> rfl
  have hc0 : qg_in (cA 0) = vp_cell (cA 0) (3, .inl (fun _ => 0)) := rfl
  have hlt : ∀ (k : Nat) (x : Nat × va_E), ws[k]? = some x → x.1 < H.size := fun k x hx => (hP k x hx).lt
  have hAq : ∀ q, H.size ≤ q → A q := fun q hq => hA q (Nat.le_trans hS.1 hq)
  have key : ∀ (k : Nat) (x : Nat × va_E), (rowsW cA H.size)[k]? = some x → x.1 = H.size + k := by
    intro k x hx
    rcases rowsW_at cA H.size k x hx with ⟨h, rfl⟩ | ⟨j, hj, h, rfl⟩
    · rw [h]; rfl
    · rw [h]; show H.size + 1 + j = H.size + (j + 1); omega
  have hP1 : va_P D vwCl (ws ++ rowsW cA H.size) TF.heap := (hP.kept (fun k x hx => fo x.1 (hlt k x hx))).app (fun k x hx => by
    rcases rowsW_at cA H.size k x hx with ⟨_, rfl⟩ | ⟨j, hj, _, rfl⟩
    · show TF.heap[H.size]? = some (vp_cell _ _)
      rw [f2]; exact congrArg some hc5
    · show TF.heap[H.size + 1 + j]? = some (vp_cell _ _)
      rw [fi j hj]; exact congrArg some hc0)
  have hD1 : va_D A (ws ++ rowsW cA H.size) := hD.app ⟨fun i j x y hx hy he => by
    have q1 := key i x hx
    have q2 := key j y hy
    omega, fun k x hx => by
    rw [key k x hx]
    exact hAq _ (by omega)⟩ (fun i j x y hx hy he => by
    have q1 := hlt i x hx
    have q2 := key j y hy
    omega)
  have hS1 : va_S A H0 TF.heap (locs ++ (List.range 10).map fun j => ⟨H.size, j⟩) := ⟨by rw [f1]; exact Nat.le_trans hS.1 (by omega), fun x g1 g2 => (fo x (Nat.lt_of_lt_of_le g1 hS.1)).trans (hS.2.1 x g1 g2), fun x hx => by
    rcases List.mem_append.mp hx with hx | hx
    · exact hS.2.2 x hx
    · obtain ⟨j, _, rfl⟩ := List.mem_map.mp hx
      exact hAq _ (Nat.le_refl _)⟩
  obtain ⟨t, a1, b1⟩ := kk H.size TF.heap _ hP1 hD1 hS1 TF rfl X1
  exact ⟨t, step t a1, b1⟩
