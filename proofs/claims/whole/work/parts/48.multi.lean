theorem qg_outer (c : ClassId) (N h0 : Nat) : ∀ i, Jvm.Free.Multi.outerC c N h0 i = arrV c N (fun j => if j < i then .ref (h0 + 1 + j) else .null)
  | 0 => by
    show ({ cls := c, slots := Array.replicate N .null, vm := .none } : Cell) = _
    rw [arrV_new]
    exact arrV_cong (fun j _ => (if_neg (by omega)).symm)
  | i + 1 => by
    show (Jvm.Free.Multi.outerC c N h0 i).setSlot i (.ref (h0 + 1 + i)) = _
    rw [qg_outer c N h0 i, arrV_store]
    refine arrV_cong (fun j _ => ?_)
    unfold updV
    by_cases e : j = i
    · subst e
      rw [if_pos rfl, if_pos (by omega)]
    · rw [if_neg e]
      show (if j < i then Value.ref (h0 + 1 + j) else .null) = _
      by_cases h : j < i
      · rw [if_pos h, if_pos (by omega)]
      · rw [if_neg h, if_neg (by omega)]
set_option maxHeartbeats 1000000 in
theorem qg_multi {p : Program} {l : Launch} {e : Env} {R : Room} {s : State} {m : MethodId} {args : Array Value} {below : List Frame} {meth : Method} {c : Code} {H : Heap} {locs : List Loc} {cells slots : Nat} {Q : State → Prop} {cc : ByteArray} {pc : Nat} {ls : Array Slot} {rest : List Value} {D : va_G} {cA : Nat → ClassId} {A : Nat → Prop} {ws : va_W} {H0 : Heap} (hexec : p.tables.exec = Jvm.exec) (hb : c.code = cc) {own : String} {index : Nat} (hown : s.vm.findClass own = some m.cls) (hclink : (Cond.classLink own index "[[I").before args s = true) (hover : pg_AA s) (harr : (Cond.arrayClass .int).before args s = true) (hK : va_K D vwCl (pg_tys cA) s) (hP : va_P D vwCl ws H) (hD : va_D A ws) (hS : va_S A H0 H locs) (hA : ∀ q, H0.size ≤ q → A q) (hcells : cells + 11 ≤ R.cells) (hslots : slots + 40 ≤ R.slots) (hdg : decode cc pc = .ok (.multianewarray index 2, 4))
    (kk : ∀ (q : Nat) (H1 : Heap) (locs1 : List Loc), va_P D vwCl (ws ++ rowsW cA q) H1 → va_D A (ws ++ rowsW cA q) → va_S A H0 H1 locs1 → W p l e R s m args below meth c H1 locs1 (cells + 11) (slots + 40) Q (F0 m (pc + 4) ls (.ref q :: rest))) : W p l e R s m args below meth c H locs cells slots Q (F0 m pc ls (.int 3 :: .int 10 :: rest)) := by
  intro T hT X
  subst hb
  have e10 : (10 : Int32).toNatClampNeg = 10 := by decide
  have e3 : (3 : Int32).toNatClampNeg = 3 := by decide
  obtain ⟨vm₁, c5, c0, hW, hfA, hfC, hO, hI, X1, step⟩ := Jvm.Stand.multianewarray2K X hexec (own := own) (index := index) (ty := .int) hown hclink hover harr (g := F0 m pc ls (.int 3 :: .int 10 :: rest)) rfl hdg (n := 10) (k := 3) rfl (by decide) (by decide) (by decide) (by decide) (by decide) rfl rfl (by rw [e10]; omega) (by rw [e10, e3]; omega)
  rw [e10, e3] at X1 step
  have h5 : s.vm.findClass ("[" ++ (FieldType.array .int).toString) = some (cA 5) := (hK.2 5 (cA 5, .array .int) rfl).2
  have h0 : s.vm.findClass ("[" ++ (FieldType.int).toString) = some (cA 0) := (hK.2 0 (cA 0, .int) rfl).2
  obtain rfl : cA 5 = c5 := Option.some.inj (h5.symm.trans hfA)
  obtain rfl : cA 0 = c0 := Option.some.inj (h0.symm.trans hfC)
  obtain ⟨f1, f2, f3, f4⟩ := Jvm.Free.Multi.fill_facts (T.setVm vm₁) (cA 5) (cA 0) 10 3 (defaultValue .int) 10
  have fo := fun (a : Nat) (ha : a < (T.setVm vm₁).heap.size) => Jvm.Free.Multi.fill_old (T.setVm vm₁) (cA 5) (cA 0) 10 3 (defaultValue .int) ha 10
  have fi := Jvm.Free.Multi.fill_inner (T.setVm vm₁) (cA 5) (cA 0) 10 3 (defaultValue .int) 10
  have hh : (T.setVm vm₁).heap = H := hT
  rw [hh] at f1 f2 fi fo
  have hsz : T.heap.size = H.size := by rw [hT]
  rw [hsz] at step X1
  generalize Jvm.Free.Multi.fill (T.setVm vm₁) (cA 5) (cA 0) 10 3 (defaultValue .int) 10 = TF at f1 f2 f3 f4 fi fo X1 step
  have hc5 : Jvm.Free.Multi.outerC (cA 5) 10 H.size 10 = vp_cell (cA 5) (10, .inr (.inr (.inr (.inr (fun i => ([H.size + 1 + 0, H.size + 1 + 1, H.size + 1 + 2, H.size + 1 + 3, H.size + 1 + 4, H.size + 1 + 5, H.size + 1 + 6, H.size + 1 + 7, H.size + 1 + 8, H.size + 1 + 9] : List Nat)[i]?))))) := by
    rw [qg_outer, vp_cell_q]
    refine arrV_cong (fun j hj => ?_)
    rw [if_pos hj]
    rcases (show j = 0 ∨ j = 1 ∨ j = 2 ∨ j = 3 ∨ j = 4 ∨ j = 5 ∨ j = 6 ∨ j = 7 ∨ j = 8 ∨ j = 9 by omega) with rfl | rfl | rfl | rfl | rfl | rfl | rfl | rfl | rfl | rfl <;> rfl
  have hc0 : Jvm.Free.Multi.innerC (cA 0) 3 (defaultValue .int) = vp_cell (cA 0) (3, .inl (fun _ => 0)) := arrV_new (cA 0) 3 (.int 0)
  have hlt : ∀ (k : Nat) (x : Nat × va_E), ws[k]? = some x → x.1 < H.size := fun k x hx => (hP k x hx).lt
  have hAq : ∀ q, H.size ≤ q → A q := fun q hq => hA q (Nat.le_trans hS.1 hq)
  have key : ∀ (k : Nat) (x : Nat × va_E), (rowsW cA H.size)[k]? = some x → x.1 = H.size + k := by
    intro k x hx
    rcases rowsW_at cA H.size k x hx with ⟨h, rfl⟩ | ⟨j, hj, h, rfl⟩
    · rw [h]; rfl
    · rw [h]; show H.size + 1 + j = H.size + (j + 1); omega
  have hP1 : va_P D vwCl (ws ++ rowsW cA H.size) TF.heap := (hP.kept (fun k x hx => fo x.1 (hlt k x hx))).app (fun k x hx => by
    rcases rowsW_at cA H.size k x hx with ⟨_, rfl⟩ | ⟨j, hj, _, rfl⟩
    · show TF.heap[H.size]? = some (vp_cell _ _)
      rw [f2]; exact congrArg some hc5
    · show TF.heap[H.size + 1 + j]? = some (vp_cell _ _)
      rw [fi j hj]; exact congrArg some hc0)
  have hD1 : va_D A (ws ++ rowsW cA H.size) := hD.app ⟨fun i j x y hx hy he => by
    have q1 := key i x hx
    have q2 := key j y hy
    omega, fun k x hx => by
    rw [key k x hx]
    exact hAq _ (by omega)⟩ (fun i j x y hx hy he => by
    have q1 := hlt i x hx
    have q2 := key j y hy
    omega)
  have hS1 : va_S A H0 TF.heap (locs ++ (List.range 10).map fun j => ⟨H.size, j⟩) := ⟨by rw [f1]; exact Nat.le_trans hS.1 (by omega), fun x g1 g2 => (fo x (Nat.lt_of_lt_of_le g1 hS.1)).trans (hS.2.1 x g1 g2), fun x hx => by
    rcases List.mem_append.mp hx with hx | hx
    · exact hS.2.2 x hx
    · obtain ⟨j, _, rfl⟩ := List.mem_map.mp hx
      exact hAq _ (Nat.le_refl _)⟩
  obtain ⟨t, a1, b1⟩ := kk H.size TF.heap _ hP1 hD1 hS1 TF rfl X1
  exact ⟨t, step t a1, b1⟩
