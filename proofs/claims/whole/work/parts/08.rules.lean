theorem go_iconst {sc : pg_Sc} {d : Nat} {M : MI} {pc pc' : Nat} {lv : pg_Lv} {st : List Value} {g : pg_S} {Q : pg_Q} {n : Int} (v : Int32) (hd : decode M.2.1 pc = .ok (.iconst n, 1)) (hn : pc + 1 = pc') (hv : Int32.ofInt n = v) (k : pg_Go sc d M pc' lv (.int v :: st) g Q) : pg_Go sc d M pc lv (st) g Q := by
  subst hn
  intro p l e R s m args below meth c cells slots D cA ad A Z H locs ls cx hP hD hS hl
  exact lv_iconst cx.1 cx.2.1 hd hv (k p l e R s m args below meth c cells slots D cA ad A Z H locs ls cx hP hD hS hl)
theorem go_bipush {sc : pg_Sc} {d : Nat} {M : MI} {pc pc' : Nat} {lv : pg_Lv} {st : List Value} {g : pg_S} {Q : pg_Q} {n : Int} (v : Int32) (hd : decode M.2.1 pc = .ok (.bipush n, 2)) (hn : pc + 2 = pc') (hv : (Int8.ofInt n).toInt32 = v) (k : pg_Go sc d M pc' lv (.int v :: st) g Q) : pg_Go sc d M pc lv (st) g Q := by
  subst hn
  intro p l e R s m args below meth c cells slots D cA ad A Z H locs ls cx hP hD hS hl
  exact lv_bipush cx.1 cx.2.1 hd hv (k p l e R s m args below meth c cells slots D cA ad A Z H locs ls cx hP hD hS hl)
theorem go_sipush {sc : pg_Sc} {d : Nat} {M : MI} {pc pc' : Nat} {lv : pg_Lv} {st : List Value} {g : pg_S} {Q : pg_Q} {n : Int} (v : Int32) (hd : decode M.2.1 pc = .ok (.sipush n, 3)) (hn : pc + 3 = pc') (hv : (Int16.ofInt n).toInt32 = v) (k : pg_Go sc d M pc' lv (.int v :: st) g Q) : pg_Go sc d M pc lv (st) g Q := by
  subst hn
  intro p l e R s m args below meth c cells slots D cA ad A Z H locs ls cx hP hD hS hl
  exact lv_sipush cx.1 cx.2.1 hd hv (k p l e R s m args below meth c cells slots D cA ad A Z H locs ls cx hP hD hS hl)
theorem go_lconst {sc : pg_Sc} {d : Nat} {M : MI} {pc pc' : Nat} {lv : pg_Lv} {st : List Value} {g : pg_S} {Q : pg_Q} {n : Fin 2} (v : Int64) (hd : decode M.2.1 pc = .ok (.lconst n, 1)) (hn : pc + 1 = pc') (hv : Int64.ofNat (n : Nat) = v) (k : pg_Go sc d M pc' lv (.long v :: st) g Q) : pg_Go sc d M pc lv (st) g Q := by
  subst hn
  intro p l e R s m args below meth c cells slots D cA ad A Z H locs ls cx hP hD hS hl
  exact lv_lconst cx.1 cx.2.1 hd hv (k p l e R s m args below meth c cells slots D cA ad A Z H locs ls cx hP hD hS hl)
theorem go_ldc {sc : pg_Sc} {d : Nat} {M : MI} {pc pc' : Nat} {lv : pg_Lv} {st : List Value} {g : pg_S} {Q : pg_Q} {i : Nat} {v : Int32} (hd : decode M.2.1 pc = .ok (.ldc i, 2)) (hn : pc + 2 = pc') (hw : Cond.constant M.1.cls i v ∈ pg_tb) (k : pg_Go sc d M pc' lv (.int v :: st) g Q) : pg_Go sc d M pc lv (st) g Q := by
  subst hn
  intro p l e R s m args below meth c cells slots D cA ad A Z H locs ls cx hP hD hS hl
  exact lv_ldc cx.1 cx.2.1 cx.2.2.2.1 (cx.2.2.2.2.1 _ hw) hd (k p l e R s m args below meth c cells slots D cA ad A Z H locs ls cx hP hD hS hl)
theorem go_ldcw {sc : pg_Sc} {d : Nat} {M : MI} {pc pc' : Nat} {lv : pg_Lv} {st : List Value} {g : pg_S} {Q : pg_Q} {i : Nat} {v : Int32} (hd : decode M.2.1 pc = .ok (.ldc_w i, 3)) (hn : pc + 3 = pc') (hw : Cond.constant M.1.cls i v ∈ pg_tb) (k : pg_Go sc d M pc' lv (.int v :: st) g Q) : pg_Go sc d M pc lv (st) g Q := by
  subst hn
  intro p l e R s m args below meth c cells slots D cA ad A Z H locs ls cx hP hD hS hl
  exact lv_ldcw cx.1 cx.2.1 cx.2.2.2.1 (cx.2.2.2.2.1 _ hw) hd (k p l e R s m args below meth c cells slots D cA ad A Z H locs ls cx hP hD hS hl)
theorem go_ldc2 {sc : pg_Sc} {d : Nat} {M : MI} {pc pc' : Nat} {lv : pg_Lv} {st : List Value} {g : pg_S} {Q : pg_Q} {i : Nat} {v : Int64} (hd : decode M.2.1 pc = .ok (.ldc2_w i, 3)) (hn : pc + 3 = pc') (hw : Cond.constantLong M.1.cls i v ∈ pg_tb) (k : pg_Go sc d M pc' lv (.long v :: st) g Q) : pg_Go sc d M pc lv (st) g Q := by
  subst hn
  intro p l e R s m args below meth c cells slots D cA ad A Z H locs ls cx hP hD hS hl
  exact lv_ldc2 cx.1 cx.2.1 cx.2.2.2.1 (cx.2.2.2.2.1 _ hw) hd (k p l e R s m args below meth c cells slots D cA ad A Z H locs ls cx hP hD hS hl)
def pg_lk (lv : pg_Lv) (i : Nat) : Option Value := (lv.find? (fun q => q.1 == i)).map (fun q => q.2)
theorem pg_lk_has {ls : Array Slot} {nL : Nat} {lv : pg_Lv} {ad : Nat → Nat} {i : Nat} {v : Value} (hl : lv_has ls nL (lv.map (pg_tq ad))) (h : pg_lk lv i = some v) : ls[i]? = some (.val (pg_tv ad v)) := by
  unfold pg_lk at h
  cases hf : lv.find? (fun q => q.1 == i) with
  | none => rw [hf] at h; cases h
  | some q =>
    rw [hf] at h
    have h1 := List.mem_of_find?_eq_some hf
    have h2 := List.find?_some hf
    simp only [Option.map_some, Option.some.injEq] at h
    have h3 := hl.2.2 (pg_tq ad q) (List.mem_map.mpr ⟨q, h1, rfl⟩)
    have h4 : q.1 = i := by simpa using h2
    rw [← h, ← h4]
    exact h3
theorem go_iload {sc : pg_Sc} {d : Nat} {M : MI} {pc pc' : Nat} {lv : pg_Lv} {st : List Value} {g : pg_S} {Q : pg_Q} {i : Nat} {x : Int32} (hd : decode M.2.1 pc = .ok (.iload i, 2)) (hn : pc + 2 = pc') (hv : pg_lk lv i = some (.int x)) (k : pg_Go sc d M pc' lv (.int x :: st) g Q) : pg_Go sc d M pc lv (st) g Q := by
  subst hn
  intro p l e R s m args below meth c cells slots D cA ad A Z H locs ls cx hP hD hS hl
  exact lv_iload cx.1 cx.2.1 hd (pg_lk_has hl hv) (k p l e R s m args below meth c cells slots D cA ad A Z H locs ls cx hP hD hS hl)
theorem go_iload_n {sc : pg_Sc} {d : Nat} {M : MI} {pc pc' : Nat} {lv : pg_Lv} {st : List Value} {g : pg_S} {Q : pg_Q} {i : Fin 4} {x : Int32} (hd : decode M.2.1 pc = .ok (.iload_n i, 1)) (hn : pc + 1 = pc') (hv : pg_lk lv (i : Nat) = some (.int x)) (k : pg_Go sc d M pc' lv (.int x :: st) g Q) : pg_Go sc d M pc lv (st) g Q := by
  subst hn
  intro p l e R s m args below meth c cells slots D cA ad A Z H locs ls cx hP hD hS hl
  exact lv_iload_n cx.1 cx.2.1 hd rfl (pg_lk_has hl hv) (k p l e R s m args below meth c cells slots D cA ad A Z H locs ls cx hP hD hS hl)
theorem go_lload {sc : pg_Sc} {d : Nat} {M : MI} {pc pc' : Nat} {lv : pg_Lv} {st : List Value} {g : pg_S} {Q : pg_Q} {i : Nat} {x : Int64} (hd : decode M.2.1 pc = .ok (.lload i, 2)) (hn : pc + 2 = pc') (hv : pg_lk lv i = some (.long x)) (k : pg_Go sc d M pc' lv (.long x :: st) g Q) : pg_Go sc d M pc lv (st) g Q := by
  subst hn
  intro p l e R s m args below meth c cells slots D cA ad A Z H locs ls cx hP hD hS hl
  exact lv_lload cx.1 cx.2.1 hd (pg_lk_has hl hv) (k p l e R s m args below meth c cells slots D cA ad A Z H locs ls cx hP hD hS hl)
theorem go_lload_n {sc : pg_Sc} {d : Nat} {M : MI} {pc pc' : Nat} {lv : pg_Lv} {st : List Value} {g : pg_S} {Q : pg_Q} {i : Fin 4} {x : Int64} (hd : decode M.2.1 pc = .ok (.lload_n i, 1)) (hn : pc + 1 = pc') (hv : pg_lk lv (i : Nat) = some (.long x)) (k : pg_Go sc d M pc' lv (.long x :: st) g Q) : pg_Go sc d M pc lv (st) g Q := by
  subst hn
  intro p l e R s m args below meth c cells slots D cA ad A Z H locs ls cx hP hD hS hl
  exact lv_lload_n cx.1 cx.2.1 hd rfl (pg_lk_has hl hv) (k p l e R s m args below meth c cells slots D cA ad A Z H locs ls cx hP hD hS hl)
theorem go_aload {sc : pg_Sc} {d : Nat} {M : MI} {pc pc' : Nat} {lv : pg_Lv} {st : List Value} {g : pg_S} {Q : pg_Q} {i x : Nat} (hd : decode M.2.1 pc = .ok (.aload i, 2)) (hn : pc + 2 = pc') (hv : pg_lk lv i = some (.ref x)) (k : pg_Go sc d M pc' lv (.ref x :: st) g Q) : pg_Go sc d M pc lv (st) g Q := by
  subst hn
  intro p l e R s m args below meth c cells slots D cA ad A Z H locs ls cx hP hD hS hl
  exact lv_aload cx.1 cx.2.1 hd (pg_lk_has hl hv) (k p l e R s m args below meth c cells slots D cA ad A Z H locs ls cx hP hD hS hl)
theorem go_aload_n {sc : pg_Sc} {d : Nat} {M : MI} {pc pc' : Nat} {lv : pg_Lv} {st : List Value} {g : pg_S} {Q : pg_Q} {i : Fin 4} {x : Nat} (hd : decode M.2.1 pc = .ok (.aload_n i, 1)) (hn : pc + 1 = pc') (hv : pg_lk lv (i : Nat) = some (.ref x)) (k : pg_Go sc d M pc' lv (.ref x :: st) g Q) : pg_Go sc d M pc lv (st) g Q := by
  subst hn
  intro p l e R s m args below meth c cells slots D cA ad A Z H locs ls cx hP hD hS hl
  exact lv_aload_n cx.1 cx.2.1 hd rfl (pg_lk_has hl hv) (k p l e R s m args below meth c cells slots D cA ad A Z H locs ls cx hP hD hS hl)
def pg_ins (i : Nat) (v : Value) : pg_Lv → pg_Lv
  | [] => [(i, v)]
  | q :: l => if q.1 < i then q :: pg_ins i v l else (i, v) :: q :: l
def pg_s1 (lv : pg_Lv) (i : Nat) (v : Value) : pg_Lv := pg_ins i v (lv.filter (fun q => !(q.1 == i) && !(q.1 + 1 == i && q.2.category == 2)))
def pg_s2 (lv : pg_Lv) (i : Nat) (v : Value) : pg_Lv := pg_ins i v (lv.filter (fun q => !(q.1 == i) && (!(q.1 == i + 1) && !(q.1 + 1 == i && q.2.category == 2))))
theorem pg_ins_mem {i : Nat} {v : Value} {q : Nat × Value} : ∀ {l : pg_Lv}, q ∈ pg_ins i v l → q = (i, v) ∨ q ∈ l
  | [], h => Or.inl (List.mem_singleton.mp h)
  | x :: l, h => by
    unfold pg_ins at h
    split at h
    · rcases List.mem_cons.mp h with h | h
      · exact Or.inr (List.mem_cons.mpr (Or.inl h))
      · rcases pg_ins_mem h with h | h
        · exact Or.inl h
        · exact Or.inr (List.mem_cons.mpr (Or.inr h))
    · rcases List.mem_cons.mp h with h | h
      · exact Or.inl h
      · exact Or.inr h
theorem pg_s1_has {ls : Array Slot} {nL i : Nat} {lv : pg_Lv} {v : Value} {ad : Nat → Nat} (h : lv_has ls nL ((i, pg_tv ad v) :: (lv.map (pg_tq ad)).filter (fun q => !(q.1 == i) && !(q.1 + 1 == i && q.2.category == 2)))) : lv_has ls nL ((pg_s1 lv i v).map (pg_tq ad)) := by
  refine ⟨h.1, h.2.1, fun q hq => h.2.2 q ?_⟩
  obtain ⟨x, hx, rfl⟩ := List.mem_map.mp hq
  rcases pg_ins_mem hx with rfl | hx
  · exact List.mem_cons_self
  · obtain ⟨h1, h2⟩ := List.mem_filter.mp hx
    exact List.mem_cons_of_mem _ (List.mem_filter.mpr ⟨List.mem_map.mpr ⟨x, h1, rfl⟩, by simpa only [pg_tq, pg_cat] using h2⟩)
theorem pg_s2_has {ls : Array Slot} {nL i : Nat} {lv : pg_Lv} {v : Value} {ad : Nat → Nat} (h : lv_has ls nL ((i, pg_tv ad v) :: (lv.map (pg_tq ad)).filter (fun q => !(q.1 == i) && (!(q.1 == i + 1) && !(q.1 + 1 == i && q.2.category == 2))))) : lv_has ls nL ((pg_s2 lv i v).map (pg_tq ad)) := by
  refine ⟨h.1, h.2.1, fun q hq => h.2.2 q ?_⟩
  obtain ⟨x, hx, rfl⟩ := List.mem_map.mp hq
  rcases pg_ins_mem hx with rfl | hx
  · exact List.mem_cons_self
  · obtain ⟨h1, h2⟩ := List.mem_filter.mp hx
    exact List.mem_cons_of_mem _ (List.mem_filter.mpr ⟨List.mem_map.mpr ⟨x, h1, rfl⟩, by simpa only [pg_tq, pg_cat] using h2⟩)
theorem go_istore {sc : pg_Sc} {d : Nat} {M : MI} {pc pc' : Nat} {lv : pg_Lv} {st : List Value} {g : pg_S} {Q : pg_Q} {i : Nat} {x : Int32} {lv' : pg_Lv} (hd : decode M.2.1 pc = .ok (.istore i, 2)) (hn : pc + 2 = pc') (hm : i < M.2.2.1) (hs : pg_s1 lv i (.int x) = lv') (k : pg_Go sc d M pc' lv' st g Q) : pg_Go sc d M pc lv (.int x :: st) g Q := by
  subst hs
  subst hn
  intro p l e R s m args below meth c cells slots D cA ad A Z H locs ls cx hP hD hS hl
  exact lv_istore cx.1 cx.2.1 hd hl hm rfl (fun ls hl => k p l e R s m args below meth c cells slots D cA ad A Z H locs ls cx hP hD hS (pg_s1_has (v := .int x) hl))
theorem go_istore_n {sc : pg_Sc} {d : Nat} {M : MI} {pc pc' : Nat} {lv : pg_Lv} {st : List Value} {g : pg_S} {Q : pg_Q} {i : Fin 4} {x : Int32} {lv' : pg_Lv} (hd : decode M.2.1 pc = .ok (.istore_n i, 1)) (hn : pc + 1 = pc') (hm : (i : Nat) < M.2.2.1) (hs : pg_s1 lv (i : Nat) (.int x) = lv') (k : pg_Go sc d M pc' lv' st g Q) : pg_Go sc d M pc lv (.int x :: st) g Q := by
  subst hs
  subst hn
  intro p l e R s m args below meth c cells slots D cA ad A Z H locs ls cx hP hD hS hl
  exact lv_istore_n cx.1 cx.2.1 hd rfl hl hm rfl (fun ls hl => k p l e R s m args below meth c cells slots D cA ad A Z H locs ls cx hP hD hS (pg_s1_has (v := .int x) hl))
theorem go_lstore {sc : pg_Sc} {d : Nat} {M : MI} {pc pc' : Nat} {lv : pg_Lv} {st : List Value} {g : pg_S} {Q : pg_Q} {i : Nat} {x : Int64} {lv' : pg_Lv} (hd : decode M.2.1 pc = .ok (.lstore i, 2)) (hn : pc + 2 = pc') (hm : i + 1 < M.2.2.1) (hs : pg_s2 lv i (.long x) = lv') (k : pg_Go sc d M pc' lv' st g Q) : pg_Go sc d M pc lv (.long x :: st) g Q := by
  subst hs
  subst hn
  intro p l e R s m args below meth c cells slots D cA ad A Z H locs ls cx hP hD hS hl
  exact lv_lstore cx.1 cx.2.1 hd hl hm rfl (fun ls hl => k p l e R s m args below meth c cells slots D cA ad A Z H locs ls cx hP hD hS (pg_s2_has (v := .long x) hl))
theorem go_lstore_n {sc : pg_Sc} {d : Nat} {M : MI} {pc pc' : Nat} {lv : pg_Lv} {st : List Value} {g : pg_S} {Q : pg_Q} {i : Fin 4} {x : Int64} {lv' : pg_Lv} (hd : decode M.2.1 pc = .ok (.lstore_n i, 1)) (hn : pc + 1 = pc') (hm : (i : Nat) + 1 < M.2.2.1) (hs : pg_s2 lv (i : Nat) (.long x) = lv') (k : pg_Go sc d M pc' lv' st g Q) : pg_Go sc d M pc lv (.long x :: st) g Q := by
  subst hs
  subst hn
  intro p l e R s m args below meth c cells slots D cA ad A Z H locs ls cx hP hD hS hl
  exact lv_lstore_n cx.1 cx.2.1 hd rfl hl hm rfl (fun ls hl => k p l e R s m args below meth c cells slots D cA ad A Z H locs ls cx hP hD hS (pg_s2_has (v := .long x) hl))
theorem go_astore {sc : pg_Sc} {d : Nat} {M : MI} {pc pc' : Nat} {lv : pg_Lv} {st : List Value} {g : pg_S} {Q : pg_Q} {i : Nat} {x : Nat} {lv' : pg_Lv} (hd : decode M.2.1 pc = .ok (.astore i, 2)) (hn : pc + 2 = pc') (hm : i < M.2.2.1) (hs : pg_s1 lv i (.ref x) = lv') (k : pg_Go sc d M pc' lv' st g Q) : pg_Go sc d M pc lv (.ref x :: st) g Q := by
  subst hs
  subst hn
  intro p l e R s m args below meth c cells slots D cA ad A Z H locs ls cx hP hD hS hl
  exact lv_astore cx.1 cx.2.1 hd hl hm rfl (fun ls hl => k p l e R s m args below meth c cells slots D cA ad A Z H locs ls cx hP hD hS (pg_s1_has (v := .ref x) hl))
theorem go_astore_n {sc : pg_Sc} {d : Nat} {M : MI} {pc pc' : Nat} {lv : pg_Lv} {st : List Value} {g : pg_S} {Q : pg_Q} {i : Fin 4} {x : Nat} {lv' : pg_Lv} (hd : decode M.2.1 pc = .ok (.astore_n i, 1)) (hn : pc + 1 = pc') (hm : (i : Nat) < M.2.2.1) (hs : pg_s1 lv (i : Nat) (.ref x) = lv') (k : pg_Go sc d M pc' lv' st g Q) : pg_Go sc d M pc lv (.ref x :: st) g Q := by
  subst hs
  subst hn
  intro p l e R s m args below meth c cells slots D cA ad A Z H locs ls cx hP hD hS hl
  exact lv_astore_n cx.1 cx.2.1 hd rfl hl hm rfl (fun ls hl => k p l e R s m args below meth c cells slots D cA ad A Z H locs ls cx hP hD hS (pg_s1_has (v := .ref x) hl))
theorem pg_lk_at {lv : pg_Lv} {ad : Nat → Nat} {i : Nat} {v : Value} (h : pg_lk lv i = some v) : ∃ k : Nat, (lv.map (pg_tq ad))[k]? = some (i, pg_tv ad v) := by
  unfold pg_lk at h
  cases hf : lv.find? (fun q => q.1 == i) with
  | none => rw [hf] at h; cases h
  | some q =>
    rw [hf] at h
    have h1 := List.mem_of_find?_eq_some hf
    have h2 := List.find?_some hf
    simp only [Option.map_some, Option.some.injEq] at h
    have h4 : q.1 = i := by simpa using h2
    have h5 : (i, pg_tv ad v) ∈ lv.map (pg_tq ad) := List.mem_map.mpr ⟨q, h1, by rw [← h, ← h4]; rfl⟩
    exact List.getElem?_of_mem h5
theorem go_iinc {sc : pg_Sc} {d : Nat} {M : MI} {pc pc' : Nat} {lv : pg_Lv} {st : List Value} {g : pg_S} {Q : pg_Q} {i : Nat} {n : Int} {x : Int32} (v : Int32) {lv' : pg_Lv} (hd : decode M.2.1 pc = .ok (.iinc i n, 3)) (hn : pc + 3 = pc') (hx : pg_lk lv i = some (.int x)) (hv : x + Int32.ofInt n = v) (hm : i < M.2.2.1) (hs : pg_s1 lv i (.int v) = lv') (k : pg_Go sc d M pc' lv' st g Q) : pg_Go sc d M pc lv st g Q := by
  subst hs
  subst hn
  intro p l e R s m args below meth c cells slots D cA ad A Z H locs ls cx hP hD hS hl
  obtain ⟨j, hj⟩ := pg_lk_at (ad := ad) hx
  exact lv_iinc cx.1 cx.2.1 hd hl hj hv hm rfl (fun ls hl => k p l e R s m args below meth c cells slots D cA ad A Z H locs ls cx hP hD hS (pg_s1_has (v := .int v) hl))
theorem go_iadd {sc : pg_Sc} {d : Nat} {M : MI} {pc pc' : Nat} {lv : pg_Lv} {st : List Value} {g : pg_S} {Q : pg_Q} {x y : Int32} (hd : decode M.2.1 pc = .ok (.iadd, 1)) (hn : pc + 1 = pc')  (k : pg_Go sc d M pc' lv (.int (x + y) :: st) g Q) : pg_Go sc d M pc lv (.int y :: .int x :: st) g Q := by
  subst hn
  intro p l e R s m args below meth c cells slots D cA ad A Z H locs ls cx hP hD hS hl
  exact lv_iadd cx.1 cx.2.1 hd (k p l e R s m args below meth c cells slots D cA ad A Z H locs ls cx hP hD hS hl)
theorem go_isub {sc : pg_Sc} {d : Nat} {M : MI} {pc pc' : Nat} {lv : pg_Lv} {st : List Value} {g : pg_S} {Q : pg_Q} {x y : Int32} (hd : decode M.2.1 pc = .ok (.isub, 1)) (hn : pc + 1 = pc')  (k : pg_Go sc d M pc' lv (.int (x - y) :: st) g Q) : pg_Go sc d M pc lv (.int y :: .int x :: st) g Q := by
  subst hn
  intro p l e R s m args below meth c cells slots D cA ad A Z H locs ls cx hP hD hS hl
  exact lv_isub cx.1 cx.2.1 hd (k p l e R s m args below meth c cells slots D cA ad A Z H locs ls cx hP hD hS hl)
theorem go_imul {sc : pg_Sc} {d : Nat} {M : MI} {pc pc' : Nat} {lv : pg_Lv} {st : List Value} {g : pg_S} {Q : pg_Q} {x y : Int32} (hd : decode M.2.1 pc = .ok (.imul, 1)) (hn : pc + 1 = pc')  (k : pg_Go sc d M pc' lv (.int (x * y) :: st) g Q) : pg_Go sc d M pc lv (.int y :: .int x :: st) g Q := by
  subst hn
  intro p l e R s m args below meth c cells slots D cA ad A Z H locs ls cx hP hD hS hl
  exact lv_imul cx.1 cx.2.1 hd (k p l e R s m args below meth c cells slots D cA ad A Z H locs ls cx hP hD hS hl)
theorem go_iand {sc : pg_Sc} {d : Nat} {M : MI} {pc pc' : Nat} {lv : pg_Lv} {st : List Value} {g : pg_S} {Q : pg_Q} {x y : Int32} (hd : decode M.2.1 pc = .ok (.iand, 1)) (hn : pc + 1 = pc')  (k : pg_Go sc d M pc' lv (.int (x &&& y) :: st) g Q) : pg_Go sc d M pc lv (.int y :: .int x :: st) g Q := by
  subst hn
  intro p l e R s m args below meth c cells slots D cA ad A Z H locs ls cx hP hD hS hl
  exact lv_iand cx.1 cx.2.1 hd (k p l e R s m args below meth c cells slots D cA ad A Z H locs ls cx hP hD hS hl)
theorem go_ior {sc : pg_Sc} {d : Nat} {M : MI} {pc pc' : Nat} {lv : pg_Lv} {st : List Value} {g : pg_S} {Q : pg_Q} {x y : Int32} (hd : decode M.2.1 pc = .ok (.ior, 1)) (hn : pc + 1 = pc')  (k : pg_Go sc d M pc' lv (.int (x ||| y) :: st) g Q) : pg_Go sc d M pc lv (.int y :: .int x :: st) g Q := by
  subst hn
  intro p l e R s m args below meth c cells slots D cA ad A Z H locs ls cx hP hD hS hl
  exact lv_ior cx.1 cx.2.1 hd (k p l e R s m args below meth c cells slots D cA ad A Z H locs ls cx hP hD hS hl)
theorem go_ixor {sc : pg_Sc} {d : Nat} {M : MI} {pc pc' : Nat} {lv : pg_Lv} {st : List Value} {g : pg_S} {Q : pg_Q} {x y : Int32} (hd : decode M.2.1 pc = .ok (.ixor, 1)) (hn : pc + 1 = pc')  (k : pg_Go sc d M pc' lv (.int (x ^^^ y) :: st) g Q) : pg_Go sc d M pc lv (.int y :: .int x :: st) g Q := by
  subst hn
  intro p l e R s m args below meth c cells slots D cA ad A Z H locs ls cx hP hD hS hl
  exact lv_ixor cx.1 cx.2.1 hd (k p l e R s m args below meth c cells slots D cA ad A Z H locs ls cx hP hD hS hl)
theorem go_ishl {sc : pg_Sc} {d : Nat} {M : MI} {pc pc' : Nat} {lv : pg_Lv} {st : List Value} {g : pg_S} {Q : pg_Q} {x y : Int32} (hd : decode M.2.1 pc = .ok (.ishl, 1)) (hn : pc + 1 = pc')  (k : pg_Go sc d M pc' lv (.int (x <<< (y &&& 31)) :: st) g Q) : pg_Go sc d M pc lv (.int y :: .int x :: st) g Q := by
  subst hn
  intro p l e R s m args below meth c cells slots D cA ad A Z H locs ls cx hP hD hS hl
  exact lv_ishl cx.1 cx.2.1 hd (k p l e R s m args below meth c cells slots D cA ad A Z H locs ls cx hP hD hS hl)
theorem go_ishr {sc : pg_Sc} {d : Nat} {M : MI} {pc pc' : Nat} {lv : pg_Lv} {st : List Value} {g : pg_S} {Q : pg_Q} {x y : Int32} (hd : decode M.2.1 pc = .ok (.ishr, 1)) (hn : pc + 1 = pc')  (k : pg_Go sc d M pc' lv (.int (x >>> (y &&& 31)) :: st) g Q) : pg_Go sc d M pc lv (.int y :: .int x :: st) g Q := by
  subst hn
  intro p l e R s m args below meth c cells slots D cA ad A Z H locs ls cx hP hD hS hl
  exact lv_ishr cx.1 cx.2.1 hd (k p l e R s m args below meth c cells slots D cA ad A Z H locs ls cx hP hD hS hl)
theorem go_iushr {sc : pg_Sc} {d : Nat} {M : MI} {pc pc' : Nat} {lv : pg_Lv} {st : List Value} {g : pg_S} {Q : pg_Q} {x y : Int32} (hd : decode M.2.1 pc = .ok (.iushr, 1)) (hn : pc + 1 = pc')  (k : pg_Go sc d M pc' lv (.int ((x.toUInt32 >>> (y.toUInt32 &&& Int32.toUInt32 31)).toInt32) :: st) g Q) : pg_Go sc d M pc lv (.int y :: .int x :: st) g Q := by
  subst hn
  intro p l e R s m args below meth c cells slots D cA ad A Z H locs ls cx hP hD hS hl
  exact lv_iushr cx.1 cx.2.1 hd rfl (k p l e R s m args below meth c cells slots D cA ad A Z H locs ls cx hP hD hS hl)
theorem go_idiv {sc : pg_Sc} {d : Nat} {M : MI} {pc pc' : Nat} {lv : pg_Lv} {st : List Value} {g : pg_S} {Q : pg_Q} {x y : Int32} (hd : decode M.2.1 pc = .ok (.idiv, 1)) (hn : pc + 1 = pc') (hz : ¬ y = 0) (k : pg_Go sc d M pc' lv (.int (x / y) :: st) g Q) : pg_Go sc d M pc lv (.int y :: .int x :: st) g Q := by
  subst hn
  intro p l e R s m args below meth c cells slots D cA ad A Z H locs ls cx hP hD hS hl
  exact lv_idiv cx.1 cx.2.1 hd hz (k p l e R s m args below meth c cells slots D cA ad A Z H locs ls cx hP hD hS hl)
theorem go_irem {sc : pg_Sc} {d : Nat} {M : MI} {pc pc' : Nat} {lv : pg_Lv} {st : List Value} {g : pg_S} {Q : pg_Q} {x y : Int32} (hd : decode M.2.1 pc = .ok (.irem, 1)) (hn : pc + 1 = pc') (hz : ¬ y = 0) (k : pg_Go sc d M pc' lv (.int (x - x / y * y) :: st) g Q) : pg_Go sc d M pc lv (.int y :: .int x :: st) g Q := by
  subst hn
  intro p l e R s m args below meth c cells slots D cA ad A Z H locs ls cx hP hD hS hl
  exact lv_irem cx.1 cx.2.1 hd hz (k p l e R s m args below meth c cells slots D cA ad A Z H locs ls cx hP hD hS hl)
theorem go_ineg {sc : pg_Sc} {d : Nat} {M : MI} {pc pc' : Nat} {lv : pg_Lv} {st : List Value} {g : pg_S} {Q : pg_Q} {x : Int32} (hd : decode M.2.1 pc = .ok (.ineg, 1)) (hn : pc + 1 = pc')  (k : pg_Go sc d M pc' lv (.int (-x) :: st) g Q) : pg_Go sc d M pc lv (.int x :: st) g Q := by
  subst hn
  intro p l e R s m args below meth c cells slots D cA ad A Z H locs ls cx hP hD hS hl
  exact lv_ineg cx.1 cx.2.1 hd (k p l e R s m args below meth c cells slots D cA ad A Z H locs ls cx hP hD hS hl)
theorem go_i2b {sc : pg_Sc} {d : Nat} {M : MI} {pc pc' : Nat} {lv : pg_Lv} {st : List Value} {g : pg_S} {Q : pg_Q} {x : Int32} (hd : decode M.2.1 pc = .ok (.i2b, 1)) (hn : pc + 1 = pc')  (k : pg_Go sc d M pc' lv (.int (x.toInt8.toInt32) :: st) g Q) : pg_Go sc d M pc lv (.int x :: st) g Q := by
  subst hn
  intro p l e R s m args below meth c cells slots D cA ad A Z H locs ls cx hP hD hS hl
  exact lv_i2b cx.1 cx.2.1 hd rfl (k p l e R s m args below meth c cells slots D cA ad A Z H locs ls cx hP hD hS hl)
theorem go_i2s {sc : pg_Sc} {d : Nat} {M : MI} {pc pc' : Nat} {lv : pg_Lv} {st : List Value} {g : pg_S} {Q : pg_Q} {x : Int32} (hd : decode M.2.1 pc = .ok (.i2s, 1)) (hn : pc + 1 = pc')  (k : pg_Go sc d M pc' lv (.int (x.toInt16.toInt32) :: st) g Q) : pg_Go sc d M pc lv (.int x :: st) g Q := by
  subst hn
  intro p l e R s m args below meth c cells slots D cA ad A Z H locs ls cx hP hD hS hl
  exact lv_i2s cx.1 cx.2.1 hd rfl (k p l e R s m args below meth c cells slots D cA ad A Z H locs ls cx hP hD hS hl)
theorem go_i2c {sc : pg_Sc} {d : Nat} {M : MI} {pc pc' : Nat} {lv : pg_Lv} {st : List Value} {g : pg_S} {Q : pg_Q} {x : Int32} (hd : decode M.2.1 pc = .ok (.i2c, 1)) (hn : pc + 1 = pc')  (k : pg_Go sc d M pc' lv (.int ((x.toUInt32 % 65536).toInt32) :: st) g Q) : pg_Go sc d M pc lv (.int x :: st) g Q := by
  subst hn
  intro p l e R s m args below meth c cells slots D cA ad A Z H locs ls cx hP hD hS hl
  exact lv_i2c cx.1 cx.2.1 hd rfl (k p l e R s m args below meth c cells slots D cA ad A Z H locs ls cx hP hD hS hl)
theorem go_i2l {sc : pg_Sc} {d : Nat} {M : MI} {pc pc' : Nat} {lv : pg_Lv} {st : List Value} {g : pg_S} {Q : pg_Q} {x : Int32} (hd : decode M.2.1 pc = .ok (.i2l, 1)) (hn : pc + 1 = pc')  (k : pg_Go sc d M pc' lv (.long (x.toInt64) :: st) g Q) : pg_Go sc d M pc lv (.int x :: st) g Q := by
  subst hn
  intro p l e R s m args below meth c cells slots D cA ad A Z H locs ls cx hP hD hS hl
  exact lv_i2l cx.1 cx.2.1 hd rfl (k p l e R s m args below meth c cells slots D cA ad A Z H locs ls cx hP hD hS hl)
theorem go_l2i {sc : pg_Sc} {d : Nat} {M : MI} {pc pc' : Nat} {lv : pg_Lv} {st : List Value} {g : pg_S} {Q : pg_Q} {x : Int64} (hd : decode M.2.1 pc = .ok (.l2i, 1)) (hn : pc + 1 = pc')  (k : pg_Go sc d M pc' lv (.int (x.toInt32) :: st) g Q) : pg_Go sc d M pc lv (.long x :: st) g Q := by
  subst hn
  intro p l e R s m args below meth c cells slots D cA ad A Z H locs ls cx hP hD hS hl
  exact lv_l2i cx.1 cx.2.1 hd rfl (k p l e R s m args below meth c cells slots D cA ad A Z H locs ls cx hP hD hS hl)
theorem go_ladd {sc : pg_Sc} {d : Nat} {M : MI} {pc pc' : Nat} {lv : pg_Lv} {st : List Value} {g : pg_S} {Q : pg_Q} {x y : Int64} (hd : decode M.2.1 pc = .ok (.ladd, 1)) (hn : pc + 1 = pc')  (k : pg_Go sc d M pc' lv (.long (x + y) :: st) g Q) : pg_Go sc d M pc lv (.long y :: .long x :: st) g Q := by
  subst hn
  intro p l e R s m args below meth c cells slots D cA ad A Z H locs ls cx hP hD hS hl
  exact lv_ladd cx.1 cx.2.1 hd (k p l e R s m args below meth c cells slots D cA ad A Z H locs ls cx hP hD hS hl)
theorem go_lsub {sc : pg_Sc} {d : Nat} {M : MI} {pc pc' : Nat} {lv : pg_Lv} {st : List Value} {g : pg_S} {Q : pg_Q} {x y : Int64} (hd : decode M.2.1 pc = .ok (.lsub, 1)) (hn : pc + 1 = pc')  (k : pg_Go sc d M pc' lv (.long (x - y) :: st) g Q) : pg_Go sc d M pc lv (.long y :: .long x :: st) g Q := by
  subst hn
  intro p l e R s m args below meth c cells slots D cA ad A Z H locs ls cx hP hD hS hl
  exact lv_lsub cx.1 cx.2.1 hd (k p l e R s m args below meth c cells slots D cA ad A Z H locs ls cx hP hD hS hl)
theorem go_lmul {sc : pg_Sc} {d : Nat} {M : MI} {pc pc' : Nat} {lv : pg_Lv} {st : List Value} {g : pg_S} {Q : pg_Q} {x y : Int64} (hd : decode M.2.1 pc = .ok (.lmul, 1)) (hn : pc + 1 = pc')  (k : pg_Go sc d M pc' lv (.long (x * y) :: st) g Q) : pg_Go sc d M pc lv (.long y :: .long x :: st) g Q := by
  subst hn
  intro p l e R s m args below meth c cells slots D cA ad A Z H locs ls cx hP hD hS hl
  exact lv_lmul cx.1 cx.2.1 hd (k p l e R s m args below meth c cells slots D cA ad A Z H locs ls cx hP hD hS hl)
theorem go_land {sc : pg_Sc} {d : Nat} {M : MI} {pc pc' : Nat} {lv : pg_Lv} {st : List Value} {g : pg_S} {Q : pg_Q} {x y : Int64} (hd : decode M.2.1 pc = .ok (.land, 1)) (hn : pc + 1 = pc')  (k : pg_Go sc d M pc' lv (.long (x &&& y) :: st) g Q) : pg_Go sc d M pc lv (.long y :: .long x :: st) g Q := by
  subst hn
  intro p l e R s m args below meth c cells slots D cA ad A Z H locs ls cx hP hD hS hl
  exact lv_land cx.1 cx.2.1 hd (k p l e R s m args below meth c cells slots D cA ad A Z H locs ls cx hP hD hS hl)
theorem go_lor {sc : pg_Sc} {d : Nat} {M : MI} {pc pc' : Nat} {lv : pg_Lv} {st : List Value} {g : pg_S} {Q : pg_Q} {x y : Int64} (hd : decode M.2.1 pc = .ok (.lor, 1)) (hn : pc + 1 = pc')  (k : pg_Go sc d M pc' lv (.long (x ||| y) :: st) g Q) : pg_Go sc d M pc lv (.long y :: .long x :: st) g Q := by
  subst hn
  intro p l e R s m args below meth c cells slots D cA ad A Z H locs ls cx hP hD hS hl
  exact lv_lor cx.1 cx.2.1 hd (k p l e R s m args below meth c cells slots D cA ad A Z H locs ls cx hP hD hS hl)
theorem go_lshl {sc : pg_Sc} {d : Nat} {M : MI} {pc pc' : Nat} {lv : pg_Lv} {st : List Value} {g : pg_S} {Q : pg_Q} {x : Int64} {y : Int32} (hd : decode M.2.1 pc = .ok (.lshl, 1)) (hn : pc + 1 = pc')  (k : pg_Go sc d M pc' lv (.long (x <<< (y.toInt64 &&& 63)) :: st) g Q) : pg_Go sc d M pc lv (.int y :: .long x :: st) g Q := by
  subst hn
  intro p l e R s m args below meth c cells slots D cA ad A Z H locs ls cx hP hD hS hl
  exact lv_lshl cx.1 cx.2.1 hd rfl (k p l e R s m args below meth c cells slots D cA ad A Z H locs ls cx hP hD hS hl)
theorem go_lshr {sc : pg_Sc} {d : Nat} {M : MI} {pc pc' : Nat} {lv : pg_Lv} {st : List Value} {g : pg_S} {Q : pg_Q} {x : Int64} {y : Int32} (hd : decode M.2.1 pc = .ok (.lshr, 1)) (hn : pc + 1 = pc')  (k : pg_Go sc d M pc' lv (.long (x >>> (y.toInt64 &&& 63)) :: st) g Q) : pg_Go sc d M pc lv (.int y :: .long x :: st) g Q := by
  subst hn
  intro p l e R s m args below meth c cells slots D cA ad A Z H locs ls cx hP hD hS hl
  exact lv_lshr cx.1 cx.2.1 hd rfl (k p l e R s m args below meth c cells slots D cA ad A Z H locs ls cx hP hD hS hl)
theorem go_lushr {sc : pg_Sc} {d : Nat} {M : MI} {pc pc' : Nat} {lv : pg_Lv} {st : List Value} {g : pg_S} {Q : pg_Q} {x : Int64} {y : Int32} (hd : decode M.2.1 pc = .ok (.lushr, 1)) (hn : pc + 1 = pc')  (k : pg_Go sc d M pc' lv (.long ((x.toUInt64 >>> (y.toInt64.toUInt64 &&& Int64.toUInt64 63)).toInt64) :: st) g Q) : pg_Go sc d M pc lv (.int y :: .long x :: st) g Q := by
  subst hn
  intro p l e R s m args below meth c cells slots D cA ad A Z H locs ls cx hP hD hS hl
  exact lv_lushr cx.1 cx.2.1 hd rfl (k p l e R s m args below meth c cells slots D cA ad A Z H locs ls cx hP hD hS hl)
theorem go_ldiv {sc : pg_Sc} {d : Nat} {M : MI} {pc pc' : Nat} {lv : pg_Lv} {st : List Value} {g : pg_S} {Q : pg_Q} {x y : Int64} (hd : decode M.2.1 pc = .ok (.ldiv, 1)) (hn : pc + 1 = pc') (hz : ¬ y = 0) (k : pg_Go sc d M pc' lv (.long (x / y) :: st) g Q) : pg_Go sc d M pc lv (.long y :: .long x :: st) g Q := by
  subst hn
  intro p l e R s m args below meth c cells slots D cA ad A Z H locs ls cx hP hD hS hl
  exact lv_ldiv cx.1 cx.2.1 hd hz (k p l e R s m args below meth c cells slots D cA ad A Z H locs ls cx hP hD hS hl)
theorem go_lrem {sc : pg_Sc} {d : Nat} {M : MI} {pc pc' : Nat} {lv : pg_Lv} {st : List Value} {g : pg_S} {Q : pg_Q} {x y : Int64} (hd : decode M.2.1 pc = .ok (.lrem, 1)) (hn : pc + 1 = pc') (hz : ¬ y = 0) (k : pg_Go sc d M pc' lv (.long (x - x / y * y) :: st) g Q) : pg_Go sc d M pc lv (.long y :: .long x :: st) g Q := by
  subst hn
  intro p l e R s m args below meth c cells slots D cA ad A Z H locs ls cx hP hD hS hl
  exact lv_lrem cx.1 cx.2.1 hd hz (k p l e R s m args below meth c cells slots D cA ad A Z H locs ls cx hP hD hS hl)
theorem go_lcmp {sc : pg_Sc} {d : Nat} {M : MI} {pc pc' : Nat} {lv : pg_Lv} {st : List Value} {g : pg_S} {Q : pg_Q} {x y : Int64} (hd : decode M.2.1 pc = .ok (.lcmp, 1)) (hn : pc + 1 = pc')  (k : pg_Go sc d M pc' lv (.int (lg_cmp x y) :: st) g Q) : pg_Go sc d M pc lv (.long y :: .long x :: st) g Q := by
  subst hn
  intro p l e R s m args below meth c cells slots D cA ad A Z H locs ls cx hP hD hS hl
  exact W.lcmp cx.1 cx.2.1 hd (k p l e R s m args below meth c cells slots D cA ad A Z H locs ls cx hP hD hS hl)
theorem go_dup {sc : pg_Sc} {d : Nat} {M : MI} {pc pc' : Nat} {lv : pg_Lv} {st : List Value} {g : pg_S} {Q : pg_Q} {v : Value} (hd : decode M.2.1 pc = .ok (.dup, 1)) (hn : pc + 1 = pc') (hc : v.category = 1) (k : pg_Go sc d M pc' lv (v :: v :: st) g Q) : pg_Go sc d M pc lv (v :: st) g Q := by
  subst hn
  intro p l e R s m args below meth c cells slots D cA ad A Z H locs ls cx hP hD hS hl
  exact lv_dup cx.1 cx.2.1 hd (by rw [pg_cat]; exact hc) (k p l e R s m args below meth c cells slots D cA ad A Z H locs ls cx hP hD hS hl)
theorem go_pop {sc : pg_Sc} {d : Nat} {M : MI} {pc pc' : Nat} {lv : pg_Lv} {st : List Value} {g : pg_S} {Q : pg_Q} {v : Value} (hd : decode M.2.1 pc = .ok (.pop, 1)) (hn : pc + 1 = pc') (hc : v.category = 1) (k : pg_Go sc d M pc' lv (st) g Q) : pg_Go sc d M pc lv (v :: st) g Q := by
  subst hn
  intro p l e R s m args below meth c cells slots D cA ad A Z H locs ls cx hP hD hS hl
  exact lv_pop (va := pg_tv ad v) cx.1 cx.2.1 hd (by rw [pg_cat]; exact hc) (k p l e R s m args below meth c cells slots D cA ad A Z H locs ls cx hP hD hS hl)
theorem go_dup2 {sc : pg_Sc} {d : Nat} {M : MI} {pc pc' : Nat} {lv : pg_Lv} {st : List Value} {g : pg_S} {Q : pg_Q} {v u : Value} (hd : decode M.2.1 pc = .ok (.dup2, 1)) (hn : pc + 1 = pc') (hc : v.category = 1) (hc2 : u.category = 1) (k : pg_Go sc d M pc' lv (v :: u :: v :: u :: st) g Q) : pg_Go sc d M pc lv (v :: u :: st) g Q := by
  subst hn
  intro p l e R s m args below meth c cells slots D cA ad A Z H locs ls cx hP hD hS hl
  exact lv_dup2_11 cx.1 cx.2.1 hd (by rw [pg_cat]; exact hc) (by rw [pg_cat]; exact hc2) (k p l e R s m args below meth c cells slots D cA ad A Z H locs ls cx hP hD hS hl)
theorem go_icmp_eq {sc : pg_Sc} {d : Nat} {M : MI} {pc pc' : Nat} {lv : pg_Lv} {st : List Value} {g : pg_S} {Q : pg_Q} {off : Int} {tgt : Nat} {x y : Int32} (hd : decode M.2.1 pc = .ok (.if_icmp .eq off, 3)) (hn : pc + 3 = pc') (ht : (pc : Int) + off = (tgt : Int)) (kt : x = y → pg_Go sc d M tgt lv st g Q) (kf : ¬ x = y → pg_Go sc d M pc' lv st g Q) : pg_Go sc d M pc lv (.int y :: .int x :: st) g Q := by
  subst hn
  intro p l e R s m args below meth c cells slots D cA ad A Z H locs ls cx hP hD hS hl
  exact lv_icmp_eq cx.1 cx.2.1 hd ht (fun h => kt h p l e R s m args below meth c cells slots D cA ad A Z H locs ls cx hP hD hS hl) (fun h => kf h p l e R s m args below meth c cells slots D cA ad A Z H locs ls cx hP hD hS hl)
theorem go_icmp_ne {sc : pg_Sc} {d : Nat} {M : MI} {pc pc' : Nat} {lv : pg_Lv} {st : List Value} {g : pg_S} {Q : pg_Q} {off : Int} {tgt : Nat} {x y : Int32} (hd : decode M.2.1 pc = .ok (.if_icmp .ne off, 3)) (hn : pc + 3 = pc') (ht : (pc : Int) + off = (tgt : Int)) (kt : ¬ x = y → pg_Go sc d M tgt lv st g Q) (kf : x = y → pg_Go sc d M pc' lv st g Q) : pg_Go sc d M pc lv (.int y :: .int x :: st) g Q := by
  subst hn
  intro p l e R s m args below meth c cells slots D cA ad A Z H locs ls cx hP hD hS hl
  exact lv_icmp_ne cx.1 cx.2.1 hd ht (fun h => kt h p l e R s m args below meth c cells slots D cA ad A Z H locs ls cx hP hD hS hl) (fun h => kf h p l e R s m args below meth c cells slots D cA ad A Z H locs ls cx hP hD hS hl)
theorem go_icmp_lt {sc : pg_Sc} {d : Nat} {M : MI} {pc pc' : Nat} {lv : pg_Lv} {st : List Value} {g : pg_S} {Q : pg_Q} {off : Int} {tgt : Nat} {x y : Int32} (hd : decode M.2.1 pc = .ok (.if_icmp .lt off, 3)) (hn : pc + 3 = pc') (ht : (pc : Int) + off = (tgt : Int)) (kt : x < y → pg_Go sc d M tgt lv st g Q) (kf : ¬ x < y → pg_Go sc d M pc' lv st g Q) : pg_Go sc d M pc lv (.int y :: .int x :: st) g Q := by
  subst hn
  intro p l e R s m args below meth c cells slots D cA ad A Z H locs ls cx hP hD hS hl
  exact lv_icmp_lt cx.1 cx.2.1 hd ht (fun h => kt h p l e R s m args below meth c cells slots D cA ad A Z H locs ls cx hP hD hS hl) (fun h => kf h p l e R s m args below meth c cells slots D cA ad A Z H locs ls cx hP hD hS hl)
theorem go_icmp_ge {sc : pg_Sc} {d : Nat} {M : MI} {pc pc' : Nat} {lv : pg_Lv} {st : List Value} {g : pg_S} {Q : pg_Q} {off : Int} {tgt : Nat} {x y : Int32} (hd : decode M.2.1 pc = .ok (.if_icmp .ge off, 3)) (hn : pc + 3 = pc') (ht : (pc : Int) + off = (tgt : Int)) (kt : y ≤ x → pg_Go sc d M tgt lv st g Q) (kf : ¬ y ≤ x → pg_Go sc d M pc' lv st g Q) : pg_Go sc d M pc lv (.int y :: .int x :: st) g Q := by
  subst hn
  intro p l e R s m args below meth c cells slots D cA ad A Z H locs ls cx hP hD hS hl
  exact lv_icmp_ge cx.1 cx.2.1 hd ht (fun h => kt h p l e R s m args below meth c cells slots D cA ad A Z H locs ls cx hP hD hS hl) (fun h => kf h p l e R s m args below meth c cells slots D cA ad A Z H locs ls cx hP hD hS hl)
theorem go_icmp_gt {sc : pg_Sc} {d : Nat} {M : MI} {pc pc' : Nat} {lv : pg_Lv} {st : List Value} {g : pg_S} {Q : pg_Q} {off : Int} {tgt : Nat} {x y : Int32} (hd : decode M.2.1 pc = .ok (.if_icmp .gt off, 3)) (hn : pc + 3 = pc') (ht : (pc : Int) + off = (tgt : Int)) (kt : y < x → pg_Go sc d M tgt lv st g Q) (kf : ¬ y < x → pg_Go sc d M pc' lv st g Q) : pg_Go sc d M pc lv (.int y :: .int x :: st) g Q := by
  subst hn
  intro p l e R s m args below meth c cells slots D cA ad A Z H locs ls cx hP hD hS hl
  exact lv_icmp_gt cx.1 cx.2.1 hd ht (fun h => kt h p l e R s m args below meth c cells slots D cA ad A Z H locs ls cx hP hD hS hl) (fun h => kf h p l e R s m args below meth c cells slots D cA ad A Z H locs ls cx hP hD hS hl)
theorem go_icmp_le {sc : pg_Sc} {d : Nat} {M : MI} {pc pc' : Nat} {lv : pg_Lv} {st : List Value} {g : pg_S} {Q : pg_Q} {off : Int} {tgt : Nat} {x y : Int32} (hd : decode M.2.1 pc = .ok (.if_icmp .le off, 3)) (hn : pc + 3 = pc') (ht : (pc : Int) + off = (tgt : Int)) (kt : x ≤ y → pg_Go sc d M tgt lv st g Q) (kf : ¬ x ≤ y → pg_Go sc d M pc' lv st g Q) : pg_Go sc d M pc lv (.int y :: .int x :: st) g Q := by
  subst hn
  intro p l e R s m args below meth c cells slots D cA ad A Z H locs ls cx hP hD hS hl
  exact lv_icmp_le cx.1 cx.2.1 hd ht (fun h => kt h p l e R s m args below meth c cells slots D cA ad A Z H locs ls cx hP hD hS hl) (fun h => kf h p l e R s m args below meth c cells slots D cA ad A Z H locs ls cx hP hD hS hl)
theorem go_if_eq {sc : pg_Sc} {d : Nat} {M : MI} {pc pc' : Nat} {lv : pg_Lv} {st : List Value} {g : pg_S} {Q : pg_Q} {off : Int} {tgt : Nat} {x : Int32} (hd : decode M.2.1 pc = .ok (.ifCond .eq off, 3)) (hn : pc + 3 = pc') (ht : (pc : Int) + off = (tgt : Int)) (kt : x = 0 → pg_Go sc d M tgt lv st g Q) (kf : ¬ x = 0 → pg_Go sc d M pc' lv st g Q) : pg_Go sc d M pc lv (.int x :: st) g Q := by
  subst hn
  intro p l e R s m args below meth c cells slots D cA ad A Z H locs ls cx hP hD hS hl
  exact lv_if_eq cx.1 cx.2.1 hd ht (fun h => kt h p l e R s m args below meth c cells slots D cA ad A Z H locs ls cx hP hD hS hl) (fun h => kf h p l e R s m args below meth c cells slots D cA ad A Z H locs ls cx hP hD hS hl)
theorem go_if_ne {sc : pg_Sc} {d : Nat} {M : MI} {pc pc' : Nat} {lv : pg_Lv} {st : List Value} {g : pg_S} {Q : pg_Q} {off : Int} {tgt : Nat} {x : Int32} (hd : decode M.2.1 pc = .ok (.ifCond .ne off, 3)) (hn : pc + 3 = pc') (ht : (pc : Int) + off = (tgt : Int)) (kt : ¬ x = 0 → pg_Go sc d M tgt lv st g Q) (kf : x = 0 → pg_Go sc d M pc' lv st g Q) : pg_Go sc d M pc lv (.int x :: st) g Q := by
  subst hn
  intro p l e R s m args below meth c cells slots D cA ad A Z H locs ls cx hP hD hS hl
  exact lv_if_ne cx.1 cx.2.1 hd ht (fun h => kt h p l e R s m args below meth c cells slots D cA ad A Z H locs ls cx hP hD hS hl) (fun h => kf h p l e R s m args below meth c cells slots D cA ad A Z H locs ls cx hP hD hS hl)
theorem go_if_lt {sc : pg_Sc} {d : Nat} {M : MI} {pc pc' : Nat} {lv : pg_Lv} {st : List Value} {g : pg_S} {Q : pg_Q} {off : Int} {tgt : Nat} {x : Int32} (hd : decode M.2.1 pc = .ok (.ifCond .lt off, 3)) (hn : pc + 3 = pc') (ht : (pc : Int) + off = (tgt : Int)) (kt : x < 0 → pg_Go sc d M tgt lv st g Q) (kf : ¬ x < 0 → pg_Go sc d M pc' lv st g Q) : pg_Go sc d M pc lv (.int x :: st) g Q := by
  subst hn
  intro p l e R s m args below meth c cells slots D cA ad A Z H locs ls cx hP hD hS hl
  exact lv_if_lt cx.1 cx.2.1 hd ht (fun h => kt h p l e R s m args below meth c cells slots D cA ad A Z H locs ls cx hP hD hS hl) (fun h => kf h p l e R s m args below meth c cells slots D cA ad A Z H locs ls cx hP hD hS hl)
theorem go_if_ge {sc : pg_Sc} {d : Nat} {M : MI} {pc pc' : Nat} {lv : pg_Lv} {st : List Value} {g : pg_S} {Q : pg_Q} {off : Int} {tgt : Nat} {x : Int32} (hd : decode M.2.1 pc = .ok (.ifCond .ge off, 3)) (hn : pc + 3 = pc') (ht : (pc : Int) + off = (tgt : Int)) (kt : 0 ≤ x → pg_Go sc d M tgt lv st g Q) (kf : ¬ 0 ≤ x → pg_Go sc d M pc' lv st g Q) : pg_Go sc d M pc lv (.int x :: st) g Q := by
  subst hn
  intro p l e R s m args below meth c cells slots D cA ad A Z H locs ls cx hP hD hS hl
  exact lv_if_ge cx.1 cx.2.1 hd ht (fun h => kt h p l e R s m args below meth c cells slots D cA ad A Z H locs ls cx hP hD hS hl) (fun h => kf h p l e R s m args below meth c cells slots D cA ad A Z H locs ls cx hP hD hS hl)
theorem go_if_gt {sc : pg_Sc} {d : Nat} {M : MI} {pc pc' : Nat} {lv : pg_Lv} {st : List Value} {g : pg_S} {Q : pg_Q} {off : Int} {tgt : Nat} {x : Int32} (hd : decode M.2.1 pc = .ok (.ifCond .gt off, 3)) (hn : pc + 3 = pc') (ht : (pc : Int) + off = (tgt : Int)) (kt : 0 < x → pg_Go sc d M tgt lv st g Q) (kf : ¬ 0 < x → pg_Go sc d M pc' lv st g Q) : pg_Go sc d M pc lv (.int x :: st) g Q := by
  subst hn
  intro p l e R s m args below meth c cells slots D cA ad A Z H locs ls cx hP hD hS hl
  exact lv_if_gt cx.1 cx.2.1 hd ht (fun h => kt h p l e R s m args below meth c cells slots D cA ad A Z H locs ls cx hP hD hS hl) (fun h => kf h p l e R s m args below meth c cells slots D cA ad A Z H locs ls cx hP hD hS hl)
theorem go_if_le {sc : pg_Sc} {d : Nat} {M : MI} {pc pc' : Nat} {lv : pg_Lv} {st : List Value} {g : pg_S} {Q : pg_Q} {off : Int} {tgt : Nat} {x : Int32} (hd : decode M.2.1 pc = .ok (.ifCond .le off, 3)) (hn : pc + 3 = pc') (ht : (pc : Int) + off = (tgt : Int)) (kt : x ≤ 0 → pg_Go sc d M tgt lv st g Q) (kf : ¬ x ≤ 0 → pg_Go sc d M pc' lv st g Q) : pg_Go sc d M pc lv (.int x :: st) g Q := by
  subst hn
  intro p l e R s m args below meth c cells slots D cA ad A Z H locs ls cx hP hD hS hl
  exact lv_if_le cx.1 cx.2.1 hd ht (fun h => kt h p l e R s m args below meth c cells slots D cA ad A Z H locs ls cx hP hD hS hl) (fun h => kf h p l e R s m args below meth c cells slots D cA ad A Z H locs ls cx hP hD hS hl)
theorem go_goto {sc : pg_Sc} {d : Nat} {M : MI} {pc pc' : Nat} {lv : pg_Lv} {st : List Value} {g : pg_S} {Q : pg_Q} {off : Int} (hd : decode M.2.1 pc = .ok (.goto off, 3)) (hn : (pc : Int) + off = (pc' : Int)) (k : pg_Go sc d M pc' lv st g Q) : pg_Go sc d M pc lv st g Q := by
  intro p l e R s m args below meth c cells slots D cA ad A Z H locs ls cx hP hD hS hl
  exact lv_goto cx.1 cx.2.1 hd hn (k p l e R s m args below meth c cells slots D cA ad A Z H locs ls cx hP hD hS hl)
theorem go_tableIn {sc : pg_Sc} {d : Nat} {M : MI} {pc pc' : Nat} {lv : pg_Lv} {st : List Value} {g : pg_S} {Q : pg_Q} {dflt lo hi : Int} {offs : Array Int} {len : Nat} {x : Int32} {off : Int} (hd : decode M.2.1 pc = .ok (.tableswitch dflt lo hi offs, len)) (h1 : ¬ x.toInt < lo) (h2 : ¬ hi < x.toInt) (ho : offs[(x.toInt - lo).toNat]? = some off) (hn : (pc : Int) + off = (pc' : Int)) (k : pg_Go sc d M pc' lv st g Q) : pg_Go sc d M pc lv (.int x :: st) g Q := by
  intro p l e R s m args below meth c cells slots D cA ad A Z H locs ls cx hP hD hS hl
  exact lv_tableIn cx.1 cx.2.1 hd h1 h2 ho hn (k p l e R s m args below meth c cells slots D cA ad A Z H locs ls cx hP hD hS hl)
theorem go_tableOut {sc : pg_Sc} {d : Nat} {M : MI} {pc pc' : Nat} {lv : pg_Lv} {st : List Value} {g : pg_S} {Q : pg_Q} {dflt lo hi : Int} {offs : Array Int} {len : Nat} {x : Int32} (hd : decode M.2.1 pc = .ok (.tableswitch dflt lo hi offs, len)) (h : x.toInt < lo ∨ hi < x.toInt) (hn : (pc : Int) + dflt = (pc' : Int)) (k : pg_Go sc d M pc' lv st g Q) : pg_Go sc d M pc lv (.int x :: st) g Q := by
  intro p l e R s m args below meth c cells slots D cA ad A Z H locs ls cx hP hD hS hl
  exact lv_tableOut cx.1 cx.2.1 hd h hn (k p l e R s m args below meth c cells slots D cA ad A Z H locs ls cx hP hD hS hl)
theorem go_lookup {sc : pg_Sc} {d : Nat} {M : MI} {pc pc' : Nat} {lv : pg_Lv} {st : List Value} {g : pg_S} {Q : pg_Q} {dflt : Int} {ps : Array (Int × Int)} {len : Nat} {x : Int32} {off : Int} (hd : decode M.2.1 pc = .ok (.lookupswitch dflt ps, len)) (hp : (ps.toList.zip (ps.toList.drop 1)).all (fun (a, next) => a.1 < next.1) = true) (ho : Op.lookupswitch.offset ps.toList dflt x.toInt = off) (hn : (pc : Int) + off = (pc' : Int)) (k : pg_Go sc d M pc' lv st g Q) : pg_Go sc d M pc lv (.int x :: st) g Q := by
  intro p l e R s m args below meth c cells slots D cA ad A Z H locs ls cx hP hD hS hl
  exact lv_lookup cx.1 cx.2.1 hd hp ho hn (k p l e R s m args below meth c cells slots D cA ad A Z H locs ls cx hP hD hS hl)
theorem go_iret {sc : pg_Sc} {d : Nat} {M : MI} {pc : Nat} {lv : pg_Lv} {g : pg_S} {Q : pg_Q} {r : Int32} (hd : decode M.2.1 pc = .ok (.ireturn, 1)) (hr : pg_nar M.2.2.2 r) (k : Q (some (.int r)) g) : pg_Go sc d M pc lv [.int r] g Q := by
  intro p l e R s m args below meth c cells slots D cA ad A Z H locs ls cx hP hD hS hl
  exact cx.2.2.2.2.2.2.2.2.2.1 pc ls H locs r g hd hr k hP hD hS
theorem go_lret {sc : pg_Sc} {d : Nat} {M : MI} {pc : Nat} {lv : pg_Lv} {g : pg_S} {Q : pg_Q} {r : Int64} (hd : decode M.2.1 pc = .ok (.lreturn, 1)) (hr : M.2.2.2 = some .long) (k : Q (some (.long r)) g) : pg_Go sc d M pc lv [.long r] g Q := by
  intro p l e R s m args below meth c cells slots D cA ad A Z H locs ls cx hP hD hS hl
  exact cx.2.2.2.2.2.2.2.2.2.2.1 pc ls H locs r g hd hr k hP hD hS
theorem go_vret {sc : pg_Sc} {d : Nat} {M : MI} {pc : Nat} {lv : pg_Lv} {g : pg_S} {Q : pg_Q} (hd : decode M.2.1 pc = .ok (.return_, 1)) (hr : M.2.2.2 = none) (k : Q none g) : pg_Go sc d M pc lv [] g Q := by
  intro p l e R s m args below meth c cells slots D cA ad A Z H locs ls cx hP hD hS hl
  exact cx.2.2.2.2.2.2.2.2.2.2.2 pc ls H locs g hd hr k hP hD hS
theorem pg_narI (r : Int32) : pg_nar (some .int) r := ⟨.int, rfl, by decide, rfl⟩
theorem pg_nar0 : pg_nar (some .boolean) 0 := ⟨.boolean, rfl, by decide, by decide⟩
theorem pg_nar1 : pg_nar (some .boolean) 1 := ⟨.boolean, rfl, by decide, by decide⟩
theorem pg_narB {c : Prop} [Decidable c] : pg_nar (some .boolean) (if c then 1 else 0) := by
  split
  · exact pg_nar1
  · exact pg_nar0
def pg_FL (own : String) (idx c j : Nat) : Prop := ∃ r : vw_C, vwCl[c]? = some r ∧ j < r.2.2 ∧ Cond.fieldLink own idx (r.2.1 j).1 (r.2.1 j).2.1 (r.2.1 j).2.2.1 ∈ pg_tb ∧ (∀ w ∈ u_ws r.1 r.2.1 r.2.2, w ∈ pg_tb) ∧ (∃ ty0 : Nat → FieldType, ∀ k, k < r.2.2 → parseFieldDescriptor (r.2.1 k).2.2.1 = some (ty0 k)) ∧ ∀ a, a < r.2.2 → ∀ b, b < r.2.2 → a ≠ b → (r.2.1 a).2.1 ≠ (r.2.1 b).2.1
def pg_FT (c j : Nat) (ty : FieldType) : Prop := ∀ r : vw_C, vwCl[c]? = some r → (r.2.1 j).2.2.2 = false ∧ parseFieldDescriptor (r.2.1 j).2.2.1 = some ty
theorem go_getI {sc : pg_Sc} {d : Nat} {M : MI} {pc pc' : Nat} {lv : pg_Lv} {st : List Value} {g : pg_S} {Q : pg_Q} {idx cc j a : Nat} {fs : List Nat}  (hd : decode M.2.1 pc = .ok (.getfield idx, 3)) (hn : pc + 3 = pc') (hf : pg_FL M.1.cls idx cc j) (hs : pg_sh[a]? = some (.inr (cc, fs))) (hv : fs[j]? = some (0)) (k : pg_Go sc d M pc' lv (.int (g.1 a j) :: st) g Q) : pg_Go sc d M pc lv (.ref a :: st) g Q := by
  subst hn
  intro p l e R s m args below meth c cells slots D cA ad A Z H locs ls cx hP hD hS hl
  obtain ⟨⟨C, T, N⟩, r1, r2, r3, r4, r5, r6⟩ := hf
  exact va_get (C := C) (T := T) (N := N) (ref := (T j).1) (index := idx) cx.1 cx.2.1 cx.2.2.2.2.1 r4 cx.2.2.2.1 cx.2.2.2.2.2.2.1 hP a (pg_ws_at hs) r1 j r2 (cx.2.2.2.2.1 _ r3) (fun _ h => h) (v := .int (g.1 a j)) (by show (fs.mapIdx _)[j]? = _; rw [List.getElem?_mapIdx, hv]; rfl) hd (k p l e R s m args below meth c cells slots D cA ad A Z H locs ls cx hP hD hS hl)
theorem go_getJ {sc : pg_Sc} {d : Nat} {M : MI} {pc pc' : Nat} {lv : pg_Lv} {st : List Value} {g : pg_S} {Q : pg_Q} {idx cc j a : Nat} {fs : List Nat}  (hd : decode M.2.1 pc = .ok (.getfield idx, 3)) (hn : pc + 3 = pc') (hf : pg_FL M.1.cls idx cc j) (hs : pg_sh[a]? = some (.inr (cc, fs))) (hv : fs[j]? = some (1)) (k : pg_Go sc d M pc' lv (.long (g.2 a j) :: st) g Q) : pg_Go sc d M pc lv (.ref a :: st) g Q := by
  subst hn
  intro p l e R s m args below meth c cells slots D cA ad A Z H locs ls cx hP hD hS hl
  obtain ⟨⟨C, T, N⟩, r1, r2, r3, r4, r5, r6⟩ := hf
  exact va_get (C := C) (T := T) (N := N) (ref := (T j).1) (index := idx) cx.1 cx.2.1 cx.2.2.2.2.1 r4 cx.2.2.2.1 cx.2.2.2.2.2.2.1 hP a (pg_ws_at hs) r1 j r2 (cx.2.2.2.2.1 _ r3) (fun _ h => h) (v := .long (g.2 a j)) (by show (fs.mapIdx _)[j]? = _; rw [List.getElem?_mapIdx, hv]; rfl) hd (k p l e R s m args below meth c cells slots D cA ad A Z H locs ls cx hP hD hS hl)
theorem go_getR {sc : pg_Sc} {d : Nat} {M : MI} {pc pc' : Nat} {lv : pg_Lv} {st : List Value} {g : pg_S} {Q : pg_Q} {idx cc j a : Nat} {fs : List Nat} {b : Nat} (hd : decode M.2.1 pc = .ok (.getfield idx, 3)) (hn : pc + 3 = pc') (hf : pg_FL M.1.cls idx cc j) (hs : pg_sh[a]? = some (.inr (cc, fs))) (hv : fs[j]? = some (b + 2)) (k : pg_Go sc d M pc' lv (.ref b :: st) g Q) : pg_Go sc d M pc lv (.ref a :: st) g Q := by
  subst hn
  intro p l e R s m args below meth c cells slots D cA ad A Z H locs ls cx hP hD hS hl
  obtain ⟨⟨C, T, N⟩, r1, r2, r3, r4, r5, r6⟩ := hf
  exact va_get (C := C) (T := T) (N := N) (ref := (T j).1) (index := idx) cx.1 cx.2.1 cx.2.2.2.2.1 r4 cx.2.2.2.1 cx.2.2.2.2.2.2.1 hP a (pg_ws_at hs) r1 j r2 (cx.2.2.2.2.1 _ r3) (fun _ h => h) (v := .ref (ad b)) (by show (fs.mapIdx _)[j]? = _; rw [List.getElem?_mapIdx, hv]; rfl) hd (k p l e R s m args below meth c cells slots D cA ad A Z H locs ls cx hP hD hS hl)
theorem go_putI {sc : pg_Sc} {d : Nat} {M : MI} {pc pc' : Nat} {lv : pg_Lv} {st : List Value} {g : pg_S} {Q : pg_Q} {idx cc j a : Nat} {fs : List Nat} {x : Int32}  (hd : decode M.2.1 pc = .ok (.putfield idx, 3)) (hn : pc + 3 = pc') (hf : pg_FL M.1.cls idx cc j) (hs : pg_sh[a]? = some (.inr (cc, fs))) (hv : fs[j]? = some 0) (ht : pg_FT cc j .int) (k : pg_Go sc d M pc' lv st (pg_ui g.1 a j x, g.2) Q) : pg_Go sc d M pc lv (.int x :: .ref a :: st) g Q := by
  subst hn
  intro p l e R s m args below meth c cells slots D cA ad A Z H locs ls cx hP hD hS hl
  obtain ⟨⟨C, T, N⟩, r1, r2, r3, r4, ⟨ty0, r5⟩, r6⟩ := hf
  obtain ⟨t1, t2⟩ := ht _ r1
  refine va_put (C := C) (T := T) (N := N) (ref := (T j).1) (index := idx) cx.1 cx.2.1 cx.2.2.2.2.1 r4 ty0 r5 r6 cx.2.2.2.1 cx.2.2.2.2.2.2.1 hP hD hS a (pg_ws_at hs) r1 j r2 (cx.2.2.2.2.1 _ r3) (fun _ h => h) t1 (v := .int x) t2 rfl rfl (by rw [List.length_mapIdx]; exact (List.getElem?_eq_some_iff.mp hv).1) hd (fun H locs hP hD hS => ?_)
  have ee := pg_ws_set (ad := ad) (cA := cA) (g := g) (g' := (pg_ui g.1 a j x, g.2)) hs (pg_ui_ne g.1 a j x) (fun _ _ => rfl)
  simp only [pg_el] at ee
  rw [← pg_fs_set hv] at ee
  rw [ee] at hP hD
  exact k p l e R s m args below meth c cells slots D cA ad A Z H locs ls cx hP hD hS hl
theorem go_putZ {sc : pg_Sc} {d : Nat} {M : MI} {pc pc' : Nat} {lv : pg_Lv} {st : List Value} {g : pg_S} {Q : pg_Q} {idx cc j a : Nat} {fs : List Nat} {x : Int32} (hz : x = 0 ∨ x = 1) (hd : decode M.2.1 pc = .ok (.putfield idx, 3)) (hn : pc + 3 = pc') (hf : pg_FL M.1.cls idx cc j) (hs : pg_sh[a]? = some (.inr (cc, fs))) (hv : fs[j]? = some 0) (ht : pg_FT cc j .boolean) (k : pg_Go sc d M pc' lv st (pg_ui g.1 a j x, g.2) Q) : pg_Go sc d M pc lv (.int x :: .ref a :: st) g Q := by
  subst hn
  intro p l e R s m args below meth c cells slots D cA ad A Z H locs ls cx hP hD hS hl
  obtain ⟨⟨C, T, N⟩, r1, r2, r3, r4, ⟨ty0, r5⟩, r6⟩ := hf
  obtain ⟨t1, t2⟩ := ht _ r1
  refine va_put (C := C) (T := T) (N := N) (ref := (T j).1) (index := idx) cx.1 cx.2.1 cx.2.2.2.2.1 r4 ty0 r5 r6 cx.2.2.2.1 cx.2.2.2.2.2.2.1 hP hD hS a (pg_ws_at hs) r1 j r2 (cx.2.2.2.2.1 _ r3) (fun _ h => h) t1 (v := .int x) t2 (by rcases hz with rfl | rfl <;> decide) (by rcases hz with rfl | rfl <;> decide) (by rw [List.length_mapIdx]; exact (List.getElem?_eq_some_iff.mp hv).1) hd (fun H locs hP hD hS => ?_)
  have ee := pg_ws_set (ad := ad) (cA := cA) (g := g) (g' := (pg_ui g.1 a j x, g.2)) hs (pg_ui_ne g.1 a j x) (fun _ _ => rfl)
  simp only [pg_el] at ee
  rw [← pg_fs_set hv] at ee
  rw [ee] at hP hD
  exact k p l e R s m args below meth c cells slots D cA ad A Z H locs ls cx hP hD hS hl
theorem go_putJ {sc : pg_Sc} {d : Nat} {M : MI} {pc pc' : Nat} {lv : pg_Lv} {st : List Value} {g : pg_S} {Q : pg_Q} {idx cc j a : Nat} {fs : List Nat} {x : Int64}  (hd : decode M.2.1 pc = .ok (.putfield idx, 3)) (hn : pc + 3 = pc') (hf : pg_FL M.1.cls idx cc j) (hs : pg_sh[a]? = some (.inr (cc, fs))) (hv : fs[j]? = some 1) (ht : pg_FT cc j .long) (k : pg_Go sc d M pc' lv st (g.1, pg_uj g.2 a j x) Q) : pg_Go sc d M pc lv (.long x :: .ref a :: st) g Q := by
  subst hn
  intro p l e R s m args below meth c cells slots D cA ad A Z H locs ls cx hP hD hS hl
  obtain ⟨⟨C, T, N⟩, r1, r2, r3, r4, ⟨ty0, r5⟩, r6⟩ := hf
  obtain ⟨t1, t2⟩ := ht _ r1
  refine va_put (C := C) (T := T) (N := N) (ref := (T j).1) (index := idx) cx.1 cx.2.1 cx.2.2.2.2.1 r4 ty0 r5 r6 cx.2.2.2.1 cx.2.2.2.2.2.2.1 hP hD hS a (pg_ws_at hs) r1 j r2 (cx.2.2.2.2.1 _ r3) (fun _ h => h) t1 (v := .long x) t2 rfl rfl (by rw [List.length_mapIdx]; exact (List.getElem?_eq_some_iff.mp hv).1) hd (fun H locs hP hD hS => ?_)
  have ee := pg_ws_set (ad := ad) (cA := cA) (g := g) (g' := (g.1, pg_uj g.2 a j x)) hs (fun _ _ => rfl) (pg_uj_ne g.2 a j x)
  simp only [pg_el] at ee
  rw [← pg_fs_setL hv] at ee
  rw [ee] at hP hD
  exact k p l e R s m args below meth c cells slots D cA ad A Z H locs ls cx hP hD hS hl
theorem go_iald {sc : pg_Sc} {d : Nat} {M : MI} {pc pc' : Nat} {lv : pg_Lv} {st : List Value} {g : pg_S} {Q : pg_Q} {a N : Nat} {rs : List Nat} {i : Int32} (n : Nat) (hd : decode M.2.1 pc = .ok (.iaload, 1)) (hn : pc + 1 = pc') (hs : pg_sh[a]? = some (.inl (0, N, rs))) (hi : i = nI n) (hN : n < N) (hB : N < 2 ^ 31) (k : pg_Go sc d M pc' lv (.int (g.1 a n) :: st) g Q) : pg_Go sc d M pc lv (.int i :: .ref a :: st) g Q := by
  subst hi
  subst hn
  intro p l e R s m args below meth c cells slots D cA ad A Z H locs ls cx hP hD hS hl
  refine va_iald cx.1 cx.2.1 cx.2.2.2.2.2.2.1 hP a 0 (pg_ws_at hs) rfl (vp_in_nI hN hB) hd ?_
  rw [nI_clamp (show n < 2 ^ 31 by omega)]
  exact (k p l e R s m args below meth c cells slots D cA ad A Z H locs ls cx hP hD hS hl)
theorem go_lald {sc : pg_Sc} {d : Nat} {M : MI} {pc pc' : Nat} {lv : pg_Lv} {st : List Value} {g : pg_S} {Q : pg_Q} {a N : Nat} {rs : List Nat} {i : Int32} (n : Nat) (hd : decode M.2.1 pc = .ok (.laload, 1)) (hn : pc + 1 = pc') (hs : pg_sh[a]? = some (.inl (1, N, rs))) (hi : i = nI n) (hN : n < N) (hB : N < 2 ^ 31) (k : pg_Go sc d M pc' lv (.long (g.2 a n) :: st) g Q) : pg_Go sc d M pc lv (.int i :: .ref a :: st) g Q := by
  subst hi
  subst hn
  intro p l e R s m args below meth c cells slots D cA ad A Z H locs ls cx hP hD hS hl
  refine va_lald cx.1 cx.2.1 cx.2.2.2.2.2.2.1 hP a 1 (pg_ws_at hs) rfl (vp_in_nI hN hB) hd ?_
  rw [nI_clamp (show n < 2 ^ 31 by omega)]
  exact (k p l e R s m args below meth c cells slots D cA ad A Z H locs ls cx hP hD hS hl)
theorem go_bald {sc : pg_Sc} {d : Nat} {M : MI} {pc pc' : Nat} {lv : pg_Lv} {st : List Value} {g : pg_S} {Q : pg_Q} {a N : Nat} {rs : List Nat} {i : Int32} (n : Nat) (hd : decode M.2.1 pc = .ok (.baload, 1)) (hn : pc + 1 = pc') (hs : pg_sh[a]? = some (.inl (2, N, rs))) (hi : i = nI n) (hN : n < N) (hB : N < 2 ^ 31) (k : pg_Go sc d M pc' lv (.int (g.1 a n) :: st) g Q) : pg_Go sc d M pc lv (.int i :: .ref a :: st) g Q := by
  subst hi
  subst hn
  intro p l e R s m args below meth c cells slots D cA ad A Z H locs ls cx hP hD hS hl
  refine va_bald cx.1 cx.2.1 cx.2.2.2.2.2.2.1 hP a 2 (pg_ws_at hs) rfl (vp_in_nI hN hB) hd ?_
  rw [nI_clamp (show n < 2 ^ 31 by omega)]
  exact (k p l e R s m args below meth c cells slots D cA ad A Z H locs ls cx hP hD hS hl)
theorem go_iast {sc : pg_Sc} {d : Nat} {M : MI} {pc pc' : Nat} {lv : pg_Lv} {st : List Value} {g : pg_S} {Q : pg_Q} {a N : Nat} {rs : List Nat} {i : Int32} {x : Int32} (n : Nat) (hd : decode M.2.1 pc = .ok (.iastore, 1)) (hn : pc + 1 = pc') (hs : pg_sh[a]? = some (.inl (0, N, rs))) (hi : i = nI n) (hN : n < N) (hB : N < 2 ^ 31) (k : pg_Go sc d M pc' lv st (pg_ui g.1 a n x, g.2) Q) : pg_Go sc d M pc lv (.int x :: .int i :: .ref a :: st) g Q := by
  subst hi
  subst hn
  intro p l e R s m args below meth c cells slots D cA ad A Z H locs ls cx hP hD hS hl
  refine va_iast cx.1 cx.2.1 cx.2.2.2.2.2.2.1 hP hD hS a 0 (pg_ws_at hs) rfl (vp_in_nI hN hB) hd (fun H locs hP hD hS => ?_)
  rw [nI_clamp (show n < 2 ^ 31 by omega)] at hP hD
  have ee := pg_ws_set (ad := ad) (cA := cA) (g := g) (g' := (pg_ui g.1 a n x, g.2)) hs (pg_ui_ne g.1 a n x) (fun _ _ => rfl)
  simp only [pg_el, pg_ui_eq] at ee
  rw [ee] at hP hD
  exact (k p l e R s m args below meth c cells slots D cA ad A Z H locs ls cx hP hD hS hl)
theorem go_last {sc : pg_Sc} {d : Nat} {M : MI} {pc pc' : Nat} {lv : pg_Lv} {st : List Value} {g : pg_S} {Q : pg_Q} {a N : Nat} {rs : List Nat} {i : Int32} {x : Int64} (n : Nat) (hd : decode M.2.1 pc = .ok (.lastore, 1)) (hn : pc + 1 = pc') (hs : pg_sh[a]? = some (.inl (1, N, rs))) (hi : i = nI n) (hN : n < N) (hB : N < 2 ^ 31) (k : pg_Go sc d M pc' lv st (g.1, pg_uj g.2 a n x) Q) : pg_Go sc d M pc lv (.long x :: .int i :: .ref a :: st) g Q := by
  subst hi
  subst hn
  intro p l e R s m args below meth c cells slots D cA ad A Z H locs ls cx hP hD hS hl
  refine va_last cx.1 cx.2.1 cx.2.2.2.2.2.2.1 hP hD hS a 1 (pg_ws_at hs) rfl (vp_in_nI hN hB) hd (fun H locs hP hD hS => ?_)
  rw [nI_clamp (show n < 2 ^ 31 by omega)] at hP hD
  have ee := pg_ws_set (ad := ad) (cA := cA) (g := g) (g' := (g.1, pg_uj g.2 a n x)) hs (fun _ _ => rfl) (pg_uj_ne g.2 a n x)
  simp only [pg_el, pg_uj_eq] at ee
  rw [ee] at hP hD
  exact (k p l e R s m args below meth c cells slots D cA ad A Z H locs ls cx hP hD hS hl)
theorem go_bast {sc : pg_Sc} {d : Nat} {M : MI} {pc pc' : Nat} {lv : pg_Lv} {st : List Value} {g : pg_S} {Q : pg_Q} {a N : Nat} {rs : List Nat} {i : Int32} {x : Int32} (n : Nat) (hd : decode M.2.1 pc = .ok (.bastore, 1)) (hn : pc + 1 = pc') (hs : pg_sh[a]? = some (.inl (2, N, rs))) (hi : i = nI n) (hN : n < N) (hB : N < 2 ^ 31) (k : pg_Go sc d M pc' lv st (pg_ui g.1 a n (x.toInt8.toInt32), g.2) Q) : pg_Go sc d M pc lv (.int x :: .int i :: .ref a :: st) g Q := by
  subst hi
  subst hn
  intro p l e R s m args below meth c cells slots D cA ad A Z H locs ls cx hP hD hS hl
  refine va_bast cx.1 cx.2.1 cx.2.2.2.2.2.2.1 hP hD hS a 2 (pg_ws_at hs) rfl (vp_in_nI hN hB) hd (fun H locs hP hD hS => ?_)
  rw [nI_clamp (show n < 2 ^ 31 by omega)] at hP hD
  have ee := pg_ws_set (ad := ad) (cA := cA) (g := g) (g' := (pg_ui g.1 a n (x.toInt8.toInt32), g.2)) hs (pg_ui_ne g.1 a n _) (fun _ _ => rfl)
  simp only [pg_el, pg_ui_eq] at ee
  rw [vp_nar_byte, ee] at hP hD
  exact (k p l e R s m args below meth c cells slots D cA ad A Z H locs ls cx hP hD hS hl)
theorem va_aldA {p : Program} {l : Launch} {e : Env} {R : Room} {s : State} {m : MethodId} {args : Array Value} {below : List Frame} {meth : Method} {c : Code} {H : Heap} {locs : List Loc} {cells slots : Nat} {Q : State → Prop} {cc : ByteArray} {pc : Nat} {ls : Array Slot} {rest : List Value} {D : va_G} {cl : List vw_C} {a : Nat} {tys : List (ClassId × FieldType)} {ws : va_W} (hexec : p.tables.exec = Jvm.exec) (hb : c.code = cc) (hK : va_K D cl tys s) (hP : va_P D cl ws H) (q0 t0 : Nat) {cA : ClassId} {ty : FieldType} {n : Nat} {f : Nat → Option Nat} (ha : ws[q0]? = some (a, .inl (cA, n, .inr (.inr (.inr (.inr f)))))) (ht : tys[t0]? = some (cA, ty)) (hty : ty.isReference = true) {i : Int32} (hin : vp_in i n) (hdg : decode cc pc = .ok (.aaload, 1))
    (kk : W p l e R s m args below meth c H locs cells slots Q (F0 m (pc + 1) ls (va_rf (f i.toNatClampNeg) :: rest))) : W p l e R s m args below meth c H locs cells slots Q (F0 m pc ls (.int i :: .ref a :: rest)) := by
  have hlt : i.toNatClampNeg < n := Nat.not_le.mp fun q => hin (Or.inr q)
  exact W.aald (v := va_rf (f i.toNatClampNeg)) (ty := ty) hexec hb (hP q0 _ ha) ((hK.2 t0 _ ht).1 n (fun j => va_rf (f j))) hty (fun q => by cases q) (by show ¬ (i < 0 ∨ (arrV _ _ _).slots.size ≤ _); rw [arrV_size]; exact hin) (by show (arrV _ _ _).slots[_]? = _; rw [arrV_read _ _ hlt]) rfl rfl hdg kk
theorem go_aald {sc : pg_Sc} {d : Nat} {M : MI} {pc pc' : Nat} {lv : pg_Lv} {st : List Value} {g : pg_S} {Q : pg_Q} {a b t N : Nat} {rs : List Nat} {i : Int32} (n : Nat) (hd : decode M.2.1 pc = .ok (.aaload, 1)) (hn : pc + 1 = pc') (hs : pg_sh[a]? = some (.inl (t + 3, N, rs))) (ht : t < 3) (hi : i = nI n) (hN : n < N) (hB : N < 2 ^ 31) (hb : rs[n]? = some b) (k : pg_Go sc d M pc' lv (.ref b :: st) g Q) : pg_Go sc d M pc lv (.int i :: .ref a :: st) g Q := by
  subst hi
  subst hn
  intro p l e R s m args below meth c cells slots D cA ad A Z H locs ls cx hP hD hS hl
  obtain ⟨ty, h1, h2⟩ : ∃ ty : FieldType, (pg_tys cA)[t + 3]? = some (cA (t + 3), ty) ∧ ty.isReference = true := by
    match t, ht with
    | 0, _ => exact ⟨_, rfl, rfl⟩
    | 1, _ => exact ⟨_, rfl, rfl⟩
    | 2, _ => exact ⟨_, rfl, rfl⟩
  refine va_aldA cx.1 cx.2.1 cx.2.2.2.2.2.2.1 hP a (t + 3) (pg_ws_at hs) h1 h2 (vp_in_nI hN hB) hd ?_
  rw [nI_clamp (show n < 2 ^ 31 by omega)]
  simp only [hb, Option.map_some]
  exact (k p l e R s m args below meth c cells slots D cA ad A Z H locs ls cx hP hD hS hl)
theorem go_copy {sc : pg_Sc} {d : Nat} {M : MI} {pc pc' : Nat} {lv : pg_Lv} {st : List Value} {g : pg_S} {Q : pg_Q} {idx a b N N' : Nat} {rs rs' : List Nat} {x : Int32} (n : Nat) (hd : decode M.2.1 pc = .ok (.invokestatic idx, 3)) (hn : pc + 3 = pc') (w1 : Cond.methodLink M.1.cls idx arraycopyName ∈ pg_tb) (w2 : Cond.native arraycopyName ∈ pg_tb) (w3 : Cond.static arraycopyName ∈ pg_tb) (w4 : Cond.initialized "java/lang/System" ∈ pg_tb) (hs : pg_sh[a]? = some (.inl (0, N, rs))) (hs' : pg_sh[b]? = some (.inl (0, N', rs'))) (hx : x = nI n) (hB : n < 2 ^ 31) (h1 : n ≤ N) (h2 : n ≤ N') (hdd : 1 ≤ d) (hst : st = []) (k : pg_Go sc d M pc' lv st (pg_uc g.1 a n b, g.2) Q) : pg_Go sc d M pc lv (.int x :: .int 0 :: .ref b :: .int 0 :: .ref a :: st) g Q := by
  subst hx
  subst hst
  subst hn
  intro p l e R s m args below meth c cells slots D cA ad A Z H locs ls cx hP hD hS hl
  have e0 : (0 : Int32).toNatClampNeg = 0 := by decide
  have en : (nI n).toNatClampNeg = n := nI_clamp hB
  refine va_copyi (ty := .int) cx.1 cx.2.1 (cx.2.2.1.trans hl.1.symm) cx.2.2.2.1 (cx.2.2.2.2.1 _ w1) (cx.2.2.2.2.1 _ w2) (cx.2.2.2.2.1 _ w3) (cx.2.2.2.2.1 _ w4) cx.2.2.2.2.2.2.1 hP hD hS a b 0 0 (pg_ws_at hs) (pg_ws_at hs') rfl rfl rfl (by decide) (by decide) (nI_pos hB) (by rw [e0, en]; omega) (by rw [e0, en]; omega) (fun _ _ => rfl) (Nat.le_trans hdd cx.2.2.2.2.2.1.1) (Nat.le_trans (show (0 : Nat) + (nativeFrameWords "java/lang/System" "arraycopy" 5 + 11) ≤ 64 * 1 by decide) (Nat.le_trans (Nat.mul_le_mul_left 64 hdd) cx.2.2.2.2.2.1.2.1)) hd (fun H locs hP hD hS => ?_)
  rw [e0, en] at hP hD
  have ee := pg_ws_set (ad := ad) (cA := cA) (g := g) (g' := (pg_uc g.1 a n b, g.2)) hs' (pg_uc_ne g.1 a n b) (fun _ _ => rfl)
  simp only [pg_el, pg_uc_eq] at ee
  rw [ee] at hP hD
  exact (k p l e R s m args below meth c cells slots D cA ad A Z H locs ls cx hP hD hS hl)
theorem go_gs0 {sc : pg_Sc} {d : Nat} {M : MI} {pc pc' : Nat} {lv : pg_Lv} {st : List Value} {g : pg_S} {Q : pg_Q}  (hd : decode M.2.1 pc = .ok (.getstatic 49, 3)) (hn : pc + 3 = pc') (hc : M.1.cls = RX5) (k : pg_Go sc d M pc' lv (.ref 900 :: st) g Q) : pg_Go sc d M pc lv (st) g Q := by
  subst hn
  intro p l e R s m args below meth c cells slots D cA ad A Z H locs ls cx hP hD hS hl
  obtain ⟨⟨a1, a2⟩, ⟨b1, b2⟩, ⟨c1, c2⟩, ⟨d1, d2⟩, e1, f1, g1, h1, i1, j1, k1, l1⟩ := cx.2.2.2.2.2.2.2.2.1
  exact va_getsN cx.1 cx.2.1 a1 hS (by rw [← hc]; exact cx.2.2.2.1) (va_Nw.use rfl j1) (fun _ h => h) hd (k p l e R s m args below meth c cells slots D cA ad A Z H locs ls cx hP hD hS hl)
theorem go_gs1 {sc : pg_Sc} {d : Nat} {M : MI} {pc pc' : Nat} {lv : pg_Lv} {st : List Value} {g : pg_S} {Q : pg_Q}  (hd : decode M.2.1 pc = .ok (.getstatic 75, 3)) (hn : pc + 3 = pc') (hc : M.1.cls = RX4) (k : pg_Go sc d M pc' lv (.ref 901 :: st) g Q) : pg_Go sc d M pc lv (st) g Q := by
  subst hn
  intro p l e R s m args below meth c cells slots D cA ad A Z H locs ls cx hP hD hS hl
  obtain ⟨⟨a1, a2⟩, ⟨b1, b2⟩, ⟨c1, c2⟩, ⟨d1, d2⟩, e1, f1, g1, h1, i1, j1, k1, l1⟩ := cx.2.2.2.2.2.2.2.2.1
  exact va_getsN cx.1 cx.2.1 b1 hS (by rw [← hc]; exact cx.2.2.2.1) (va_Nw.use rfl k1) (fun _ h => h) hd (k p l e R s m args below meth c cells slots D cA ad A Z H locs ls cx hP hD hS hl)
theorem go_gs1b {sc : pg_Sc} {d : Nat} {M : MI} {pc pc' : Nat} {lv : pg_Lv} {st : List Value} {g : pg_S} {Q : pg_Q} {idx : Nat} (hd : decode M.2.1 pc = .ok (.getstatic idx, 3)) (hn : pc + 3 = pc') (hw : Cond.fieldLink M.1.cls idx "PicturePegs" "LAW_MOST" "[I" ∈ pg_tb) (k : pg_Go sc d M pc' lv (.ref 901 :: st) g Q) : pg_Go sc d M pc lv (st) g Q := by
  subst hn
  intro p l e R s m args below meth c cells slots D cA ad A Z H locs ls cx hP hD hS hl
  obtain ⟨⟨a1, a2⟩, ⟨b1, b2⟩, ⟨c1, c2⟩, ⟨d1, d2⟩, e1, f1, g1, h1, i1, j1, k1, l1⟩ := cx.2.2.2.2.2.2.2.2.1
  exact va_gets cx.1 cx.2.1 b1 hS cx.2.2.2.1 (cx.2.2.2.2.1 _ hw) (fun _ h => h) hd (k p l e R s m args below meth c cells slots D cA ad A Z H locs ls cx hP hD hS hl)
theorem go_gs2 {sc : pg_Sc} {d : Nat} {M : MI} {pc pc' : Nat} {lv : pg_Lv} {st : List Value} {g : pg_S} {Q : pg_Q} {idx : Nat} (hd : decode M.2.1 pc = .ok (.getstatic idx, 3)) (hn : pc + 3 = pc') (hw : Cond.fieldLink M.1.cls idx "PicturePegs" "KIND_ABOVE" "[I" ∈ pg_tb) (k : pg_Go sc d M pc' lv (.ref 902 :: st) g Q) : pg_Go sc d M pc lv (st) g Q := by
  subst hn
  intro p l e R s m args below meth c cells slots D cA ad A Z H locs ls cx hP hD hS hl
  obtain ⟨⟨a1, a2⟩, ⟨b1, b2⟩, ⟨c1, c2⟩, ⟨d1, d2⟩, e1, f1, g1, h1, i1, j1, k1, l1⟩ := cx.2.2.2.2.2.2.2.2.1
  exact va_gets cx.1 cx.2.1 c1 hS cx.2.2.2.1 (cx.2.2.2.2.1 _ hw) (fun _ h => h) hd (k p l e R s m args below meth c cells slots D cA ad A Z H locs ls cx hP hD hS hl)
theorem go_gs3 {sc : pg_Sc} {d : Nat} {M : MI} {pc pc' : Nat} {lv : pg_Lv} {st : List Value} {g : pg_S} {Q : pg_Q} {idx : Nat} (hd : decode M.2.1 pc = .ok (.getstatic idx, 3)) (hn : pc + 3 = pc') (hw : Cond.fieldLink M.1.cls idx "PicturePegs$Acts" "BODY_OF" "[I" ∈ pg_tb) (k : pg_Go sc d M pc' lv (.ref 903 :: st) g Q) : pg_Go sc d M pc lv (st) g Q := by
  subst hn
  intro p l e R s m args below meth c cells slots D cA ad A Z H locs ls cx hP hD hS hl
  obtain ⟨⟨a1, a2⟩, ⟨b1, b2⟩, ⟨c1, c2⟩, ⟨d1, d2⟩, e1, f1, g1, h1, i1, j1, k1, l1⟩ := cx.2.2.2.2.2.2.2.2.1
  exact va_gets cx.1 cx.2.1 d1 hS cx.2.2.2.1 (cx.2.2.2.2.1 _ hw) (fun _ h => h) hd (k p l e R s m args below meth c cells slots D cA ad A Z H locs ls cx hP hD hS hl)
theorem go_gs4 {sc : pg_Sc} {d : Nat} {M : MI} {pc pc' : Nat} {lv : pg_Lv} {st : List Value} {g : pg_S} {Q : pg_Q} {idx : Nat} (hd : decode M.2.1 pc = .ok (.getstatic idx, 3)) (hn : pc + 3 = pc') (hw : Cond.fieldLink M.1.cls idx "java/lang/String" "COMPACT_STRINGS" "Z" ∈ pg_tb) (k : pg_Go sc d M pc' lv (.int 1 :: st) g Q) : pg_Go sc d M pc lv (st) g Q := by
  subst hn
  intro p l e R s m args below meth c cells slots D cA ad A Z H locs ls cx hP hD hS hl
  obtain ⟨⟨a1, a2⟩, ⟨b1, b2⟩, ⟨c1, c2⟩, ⟨d1, d2⟩, e1, f1, g1, h1, i1, j1, k1, l1⟩ := cx.2.2.2.2.2.2.2.2.1
  exact va_gets cx.1 cx.2.1 e1 hS cx.2.2.2.1 (cx.2.2.2.2.1 _ hw) (fun _ h => h) hd (k p l e R s m args below meth c cells slots D cA ad A Z H locs ls cx hP hD hS hl)
theorem go_gs5 {sc : pg_Sc} {d : Nat} {M : MI} {pc pc' : Nat} {lv : pg_Lv} {st : List Value} {g : pg_S} {Q : pg_Q} {idx : Nat} (hd : decode M.2.1 pc = .ok (.getstatic idx, 3)) (hn : pc + 3 = pc') (hw : Cond.fieldLink M.1.cls idx "jdk/internal/util/Preconditions" "SIOOBE_FORMATTER" "Ljava/util/function/BiFunction;" ∈ pg_tb) (k1 : pg_Go sc d M pc' lv (.null :: st) g Q) (k2 : pg_Go sc d M pc' lv (.ref 907 :: st) g Q) : pg_Go sc d M pc lv st g Q := by
  subst hn
  intro p l e R s m args below meth c cells slots D cA ad A Z H locs ls cx hP hD hS hl
  rcases cx.2.2.2.2.2.2.2.2.1.2.2.2.2.2.1 with f1 | f1
  · exact va_gets cx.1 cx.2.1 f1 hS cx.2.2.2.1 (cx.2.2.2.2.1 _ hw) (fun _ h => h) hd (k1 p l e R s m args below meth c cells slots D cA ad A Z H locs ls cx hP hD hS hl)
  · exact va_gets cx.1 cx.2.1 f1 hS cx.2.2.2.1 (cx.2.2.2.2.1 _ hw) (fun _ h => h) hd (k2 p l e R s m args below meth c cells slots D cA ad A Z H locs ls cx hP hD hS hl)
theorem go_ro0 {sc : pg_Sc} {d : Nat} {M : MI} {pc pc' : Nat} {lv : pg_Lv} {st : List Value} {g : pg_S} {Q : pg_Q} {i : Int32} (n : Nat) (hd : decode M.2.1 pc = .ok (.iaload, 1)) (hn : pc + 1 = pc') (hi : i = nI n) (hN : n < 4) (k : pg_Go sc d M pc' lv (.int (pg_t0.getD n 0) :: st) g Q) : pg_Go sc d M pc lv (.int i :: .ref 900 :: st) g Q := by
  subst hn
  intro p l e R s m args below meth c cells slots D cA ad A Z H locs ls cx hP hD hS hl
  obtain ⟨⟨a1, a2⟩, ⟨b1, b2⟩, ⟨c1, c2⟩, ⟨d1, d2⟩, e1, f1, g1, h1, i1, j1, k1, l1⟩ := cx.2.2.2.2.2.2.2.2.1
  subst hi
  exact va_ti cx.1 cx.2.1 a2 hS (vp_in_nI hN (by decide)) (by rw [nI_clamp (show n < 2 ^ 31 by omega)]; rfl) hd (k p l e R s m args below meth c cells slots D cA ad A Z H locs ls cx hP hD hS hl)
theorem go_ro1 {sc : pg_Sc} {d : Nat} {M : MI} {pc pc' : Nat} {lv : pg_Lv} {st : List Value} {g : pg_S} {Q : pg_Q} {i : Int32} (n : Nat) (hd : decode M.2.1 pc = .ok (.iaload, 1)) (hn : pc + 1 = pc') (hi : i = nI n) (hN : n < 4) (k : pg_Go sc d M pc' lv (.int (pg_t1.getD n 0) :: st) g Q) : pg_Go sc d M pc lv (.int i :: .ref 901 :: st) g Q := by
  subst hn
  intro p l e R s m args below meth c cells slots D cA ad A Z H locs ls cx hP hD hS hl
  obtain ⟨⟨a1, a2⟩, ⟨b1, b2⟩, ⟨c1, c2⟩, ⟨d1, d2⟩, e1, f1, g1, h1, i1, j1, k1, l1⟩ := cx.2.2.2.2.2.2.2.2.1
  subst hi
  exact va_ti cx.1 cx.2.1 b2 hS (vp_in_nI hN (by decide)) (by rw [nI_clamp (show n < 2 ^ 31 by omega)]; rfl) hd (k p l e R s m args below meth c cells slots D cA ad A Z H locs ls cx hP hD hS hl)
theorem go_ro2 {sc : pg_Sc} {d : Nat} {M : MI} {pc pc' : Nat} {lv : pg_Lv} {st : List Value} {g : pg_S} {Q : pg_Q} {i : Int32} (n : Nat) (hd : decode M.2.1 pc = .ok (.iaload, 1)) (hn : pc + 1 = pc') (hi : i = nI n) (hN : n < 6) (k : pg_Go sc d M pc' lv (.int (pg_t2.getD n 0) :: st) g Q) : pg_Go sc d M pc lv (.int i :: .ref 902 :: st) g Q := by
  subst hn
  intro p l e R s m args below meth c cells slots D cA ad A Z H locs ls cx hP hD hS hl
  obtain ⟨⟨a1, a2⟩, ⟨b1, b2⟩, ⟨c1, c2⟩, ⟨d1, d2⟩, e1, f1, g1, h1, i1, j1, k1, l1⟩ := cx.2.2.2.2.2.2.2.2.1
  subst hi
  exact va_ti cx.1 cx.2.1 c2 hS (vp_in_nI hN (by decide)) (by rw [nI_clamp (show n < 2 ^ 31 by omega)]; rfl) hd (k p l e R s m args below meth c cells slots D cA ad A Z H locs ls cx hP hD hS hl)
theorem go_ro3 {sc : pg_Sc} {d : Nat} {M : MI} {pc pc' : Nat} {lv : pg_Lv} {st : List Value} {g : pg_S} {Q : pg_Q} {i : Int32} (n : Nat) (hd : decode M.2.1 pc = .ok (.iaload, 1)) (hn : pc + 1 = pc') (hi : i = nI n) (hN : n < 24) (k : pg_Go sc d M pc' lv (.int (pg_t3.getD n 0) :: st) g Q) : pg_Go sc d M pc lv (.int i :: .ref 903 :: st) g Q := by
  subst hn
  intro p l e R s m args below meth c cells slots D cA ad A Z H locs ls cx hP hD hS hl
  obtain ⟨⟨a1, a2⟩, ⟨b1, b2⟩, ⟨c1, c2⟩, ⟨d1, d2⟩, e1, f1, g1, h1, i1, j1, k1, l1⟩ := cx.2.2.2.2.2.2.2.2.1
  subst hi
  exact va_ti cx.1 cx.2.1 d2 hS (vp_in_nI hN (by decide)) (by rw [nI_clamp (show n < 2 ^ 31 by omega)]; rfl) hd (k p l e R s m args below meth c cells slots D cA ad A Z H locs ls cx hP hD hS hl)
theorem go_scr {sc : pg_Sc} {d : Nat} {M : MI} {pc pc' : Nat} {lv : pg_Lv} {st : List Value} {g : pg_S} {Q : pg_Q} {i : Int32} (n : Nat) (hd : decode M.2.1 pc = .ok (.iaload, 1)) (hn : pc + 1 = pc') (hi : i = nI n) (hN : n < sc.1) (hB : sc.1 < 2 ^ 31) (k : pg_Go sc d M pc' lv (.int (sc.2 n) :: st) g Q) : pg_Go sc d M pc lv (.int i :: .ref 906 :: st) g Q := by
  subst hn
  intro p l e R s m args below meth c cells slots D cA ad A Z H locs ls cx hP hD hS hl
  obtain ⟨⟨a1, a2⟩, ⟨b1, b2⟩, ⟨c1, c2⟩, ⟨d1, d2⟩, e1, f1, g1, h1, i1, j1, k1, l1⟩ := cx.2.2.2.2.2.2.2.2.1
  subst hi
  exact va_ti cx.1 cx.2.1 h1 hS (vp_in_nI hN hB) (by rw [nI_clamp (show n < 2 ^ 31 by omega)]; rfl) hd (k p l e R s m args below meth c cells slots D cA ad A Z H locs ls cx hP hD hS hl)
theorem go_scrlen {sc : pg_Sc} {d : Nat} {M : MI} {pc pc' : Nat} {lv : pg_Lv} {st : List Value} {g : pg_S} {Q : pg_Q}  (hd : decode M.2.1 pc = .ok (.arraylength, 1)) (hn : pc + 1 = pc')  (k : pg_Go sc d M pc' lv (.int (nI sc.1) :: st) g Q) : pg_Go sc d M pc lv (.ref 906 :: st) g Q := by
  subst hn
  intro p l e R s m args below meth c cells slots D cA ad A Z H locs ls cx hP hD hS hl
  obtain ⟨⟨a1, a2⟩, ⟨b1, b2⟩, ⟨c1, c2⟩, ⟨d1, d2⟩, e1, f1, g1, h1, i1, j1, k1, l1⟩ := cx.2.2.2.2.2.2.2.2.1
  exact va_tlen cx.1 cx.2.1 h1 hS rfl hd (k p l e R s m args below meth c cells slots D cA ad A Z H locs ls cx hP hD hS hl)
theorem go_ldcS {sc : pg_Sc} {d : Nat} {M : MI} {pc pc' : Nat} {lv : pg_Lv} {st : List Value} {g : pg_S} {Q : pg_Q}  (hd : decode M.2.1 pc = .ok (.ldc 96, 2)) (hn : pc + 2 = pc') (hc : M.1.cls = RX4) (k : pg_Go sc d M pc' lv (.ref 904 :: st) g Q) : pg_Go sc d M pc lv (st) g Q := by
  subst hn
  intro p l e R s m args below meth c cells slots D cA ad A Z H locs ls cx hP hD hS hl
  obtain ⟨⟨a1, a2⟩, ⟨b1, b2⟩, ⟨c1, c2⟩, ⟨d1, d2⟩, e1, f1, g1, h1, i1, j1, k1, l1⟩ := cx.2.2.2.2.2.2.2.2.1
  exact va_ldcS cx.1 cx.2.1 (by show s.vm.findClass RX4 = _; rw [← hc]; exact cx.2.2.2.1) i1 hd (k p l e R s m args below meth c cells slots D cA ad A Z H locs ls cx hP hD hS hl)
theorem go_strC {sc : pg_Sc} {d : Nat} {M : MI} {pc pc' : Nat} {lv : pg_Lv} {st : List Value} {g : pg_S} {Q : pg_Q} {idx : Nat} (hd : decode M.2.1 pc = .ok (.getfield idx, 3)) (hn : pc + 3 = pc') (hw : Cond.fieldLink M.1.cls idx "java/lang/String" "coder" "B" ∈ pg_tb) (k : pg_Go sc d M pc' lv (.int 0 :: st) g Q) : pg_Go sc d M pc lv (.ref 904 :: st) g Q := by
  subst hn
  intro p l e R s m args below meth c cells slots D cA ad A Z H locs ls cx hP hD hS hl
  obtain ⟨⟨a1, a2⟩, ⟨b1, b2⟩, ⟨c1, c2⟩, ⟨d1, d2⟩, e1, f1, g1, h1, i1, j1, k1, l1⟩ := cx.2.2.2.2.2.2.2.2.1
  exact vk_getf cx.1 cx.2.1 (g1.1 0 (by decide)).2.1 hS cx.2.2.2.1 (cx.2.2.2.2.1 _ hw) (fun _ h => h) hd (k p l e R s m args below meth c cells slots D cA ad A Z H locs ls cx hP hD hS hl)
theorem go_strV {sc : pg_Sc} {d : Nat} {M : MI} {pc pc' : Nat} {lv : pg_Lv} {st : List Value} {g : pg_S} {Q : pg_Q} {idx : Nat} (hd : decode M.2.1 pc = .ok (.getfield idx, 3)) (hn : pc + 3 = pc') (hw : Cond.fieldLink M.1.cls idx "java/lang/String" "value" "[B" ∈ pg_tb) (k : pg_Go sc d M pc' lv (.ref 905 :: st) g Q) : pg_Go sc d M pc lv (.ref 904 :: st) g Q := by
  subst hn
  intro p l e R s m args below meth c cells slots D cA ad A Z H locs ls cx hP hD hS hl
  obtain ⟨⟨a1, a2⟩, ⟨b1, b2⟩, ⟨c1, c2⟩, ⟨d1, d2⟩, e1, f1, g1, h1, i1, j1, k1, l1⟩ := cx.2.2.2.2.2.2.2.2.1
  exact vk_getf cx.1 cx.2.1 (g1.1 0 (by decide)).2.2.1 hS cx.2.2.2.1 (cx.2.2.2.2.1 _ hw) (fun _ h => h) hd (k p l e R s m args below meth c cells slots D cA ad A Z H locs ls cx hP hD hS hl)
theorem go_strlen {sc : pg_Sc} {d : Nat} {M : MI} {pc pc' : Nat} {lv : pg_Lv} {st : List Value} {g : pg_S} {Q : pg_Q}  (hd : decode M.2.1 pc = .ok (.arraylength, 1)) (hn : pc + 1 = pc')  (k : pg_Go sc d M pc' lv (.int (nI 140) :: st) g Q) : pg_Go sc d M pc lv (.ref 905 :: st) g Q := by
  subst hn
  intro p l e R s m args below meth c cells slots D cA ad A Z H locs ls cx hP hD hS hl
  obtain ⟨⟨a1, a2⟩, ⟨b1, b2⟩, ⟨c1, c2⟩, ⟨d1, d2⟩, e1, f1, g1, h1, i1, j1, k1, l1⟩ := cx.2.2.2.2.2.2.2.2.1
  exact va_tlen cx.1 cx.2.1 (g1.1 0 (by decide)).2.2.2 hS rfl hd (k p l e R s m args below meth c cells slots D cA ad A Z H locs ls cx hP hD hS hl)
theorem go_strb {sc : pg_Sc} {d : Nat} {M : MI} {pc pc' : Nat} {lv : pg_Lv} {st : List Value} {g : pg_S} {Q : pg_Q} {i : Int32} (n : Nat) (hd : decode M.2.1 pc = .ok (.baload, 1)) (hn : pc + 1 = pc') (hi : i = nI n) (hN : n < 140) (k : pg_Go sc d M pc' lv (.int (pg_tx.getD n 0) :: st) g Q) : pg_Go sc d M pc lv (.int i :: .ref 905 :: st) g Q := by
  subst hn
  intro p l e R s m args below meth c cells slots D cA ad A Z H locs ls cx hP hD hS hl
  obtain ⟨⟨a1, a2⟩, ⟨b1, b2⟩, ⟨c1, c2⟩, ⟨d1, d2⟩, e1, f1, g1, h1, i1, j1, k1, l1⟩ := cx.2.2.2.2.2.2.2.2.1
  subst hi
  exact va_tb cx.1 cx.2.1 (g1.1 0 (by decide)).2.2.2 hS (vp_in_nI hN (by decide)) (by rw [nI_clamp (show n < 2 ^ 31 by omega)]; rfl) hd (k p l e R s m args below meth c cells slots D cA ad A Z H locs ls cx hP hD hS hl)
def pg_ki (K : Int32 → pg_S → Prop) : pg_Q := fun r g => match r with
  | some (.int v) => K v g
  | _ => False
def pg_kl (K : Int64 → pg_S → Prop) : pg_Q := fun r g => match r with
  | some (.long v) => K v g
  | _ => False
def pg_kv (K : pg_S → Prop) : pg_Q := fun r g => match r with
  | none => K g
  | _ => False
def pg_isI : Option FieldType → Bool
  | none => false
  | some .long => false
  | some _ => true
theorem pg_good {M : MI} (h : Cond.code M.1 M.2.1 M.2.2.1 M.2.2.2 ∈ pg_tb) : GoodIn pg_tb (Cond.code M.1 M.2.1 M.2.2.1 M.2.2.2 :: pg_tb) := by
  intro w hw
  rcases List.mem_cons.mp hw with rfl | hw
  · exact pg_tb_good _ h
  · exact pg_tb_good _ hw
theorem pg_blind {sc : pg_Sc} {ad : Nat → Nat} {D : va_G} {cA : Nat → ClassId} {av : List Value} {sz : Nat} {g : pg_S} {A : Nat → Prop} : FrameBlind (va_Pc av (fun U => U.heap.size = sz ∧ va_P D vwCl (pg_ws ad cA g) U.heap ∧ va_K D vwCl (pg_tys cA) U ∧ va_D (fun _ => True) (pg_ws ad cA g) ∧ pg_RO sc ad A U U.heap)) := by
  intro a U f mk q
  obtain ⟨q0, q1, qP, qK, qD, qR⟩ := q
  exact ⟨q0, q1, qP, va_K.moved (u := U) (U := U.calling f mk a) (Vm.Alike.refl U.vm) qK, qD, pg_RO.same (U := U.calling f mk a) qR rfl⟩
theorem pg_pre {sc : pg_Sc} {ad : Nat → Nat} {D : va_G} {cA : Nat → ClassId} {av : List Value} {g : pg_S} {A : Nat → Prop} {s : State} {H : Heap} {locs : List Loc} (hK : va_K D vwCl (pg_tys cA) s) (hR : pg_RO sc ad A s s.heap) (hA : ∀ q, s.heap.size ≤ q → A q) (hP : va_P D vwCl (pg_ws ad cA g) H) (hD : va_D A (pg_ws ad cA g)) (hS : va_S A s.heap H locs) : ∀ U : State, U.heap = H → s.WarmedH U.vm → va_Pc av (fun U => U.heap.size = H.size ∧ va_P D vwCl (pg_ws ad cA g) U.heap ∧ va_K D vwCl (pg_tys cA) U ∧ va_D (fun _ => True) (pg_ws ad cA g) ∧ pg_RO sc ad (va_A (pg_ws ad cA g) H.size) U U.heap) av.toArray U := by
  intro U hU hW
  have hF : ∀ q, va_A (pg_ws ad cA g) H.size q → A q := by
    intro q hq
    rcases hq with ⟨k, e, h⟩ | h
    · exact hD.2 k _ h
    · exact hA q (Nat.le_trans hS.1 h)
  exact ⟨rfl, by rw [hU], by rw [hU]; exact hP, va_K.moved hW.alike hK, ⟨hD.1, fun _ _ _ => trivial⟩, by rw [hU]; exact hR.go hW hS.2.1 hF⟩
set_option maxHeartbeats 1000000 in
theorem go_cVi {sc : pg_Sc} {d : Nat} {M : MI} {pc pc' : Nat} {lv : pg_Lv} {st : List Value} {g : pg_S} {Q : pg_Q} {idx n d' : Nat} {M' : MI} {As : List Value} {b cn : Nat} {fs : List Nat} (hd : decode M.2.1 pc = .ok (.invokevirtual idx, 3)) (hn : pc + 3 = pc') (cw : pg_CV M.1.cls idx M' n) (hs : pg_sh[b]? = some (.inr (cn, fs))) (hcl : (vwCl[cn]?).map (fun r => r.1) = some M'.1.cls) (hdd : d' < d) (hrt : pg_isI M'.2.2.2 = true) (hlen : As.length = n) (hst : (st.map fun v => v.category).sum ≤ 8) (k : pg_Cal sc d' M' (.ref b :: As) g (pg_ki (fun v g' => pg_Go sc d M pc' lv (.int v :: st) g' Q))) : pg_Go sc d M pc lv (As.reverse ++ .ref b :: st) g Q := by
  subst hn
  intro p l e R s m args below meth c cells slots D cA ad A Z H locs ls cx hP hD hS hl
  obtain ⟨w1, w2, w3, w4, w5, w6, w7⟩ := cw
  obtain ⟨rc, rc1, rc2⟩ : ∃ rc : vw_C, vwCl[cn]? = some rc ∧ rc.1 = M'.1.cls := by
    cases hr : vwCl[cn]? with
    | none => rw [hr] at hcl; cases hcl
    | some rc => rw [hr] at hcl; exact ⟨rc, rfl, Option.some.inj hcl⟩
  have hrecv := va_recv (ci := cn) cx.2.2.2.2.2.2.1 hP rc1 (pg_ws_at hs)
  rw [rc2] at hrecv
  have hroom : (pg_rm d').frames + 1 ≤ R.frames ∧ 8 + (M'.2.2.1 + 11) + (pg_rm d').locals ≤ R.locals := by
    have h1 := cx.2.2.2.2.2.1.1
    have h2 := cx.2.2.2.2.2.1.2.1
    refine ⟨by show d' + 1 ≤ R.frames; omega, ?_⟩
    show 8 + (M'.2.2.1 + 11) + 64 * d' ≤ R.locals
    omega
  have hpre := pg_pre (sc := sc) (av := (.ref b :: As : List Value).map (pg_tv ad)) (g := g) cx.2.2.2.2.2.2.1 cx.2.2.2.2.2.2.2.2.1 cx.2.2.2.2.2.2.2.1 hP hD hS
  have hM := k l D cA ad H.size
  have hQ : pg_Qc M'.2.2.2 (pg_ki (fun v g' => pg_Go sc d M (pc + 3) lv (.int v :: st) g' Q)) D cA ad (va_A (pg_ws ad cA g) H.size) = va_Qi (fun r g => pg_ki (fun v g' => pg_Go sc d M (pc + 3) lv (.int v :: st) g' Q) (some (.int r)) g) (pg_B D cA ad (va_A (pg_ws ad cA g) H.size)) (va_A (pg_ws ad cA g) H.size) := by
    cases hty : M'.2.2.2 with
      | none => rw [hty] at hrt; cases hrt
      | some ty => rw [hty] at hrt; cases ty <;> first | rfl | cases hrt
  rw [hQ] at hM
  have hF : ∀ q, va_A (pg_ws ad cA g) H.size q → A q := by
    intro q hq
    rcases hq with ⟨i, e, h⟩ | h
    · exact hD.2 i _ h
    · exact cx.2.2.2.2.2.2.2.1 q (Nat.le_trans hS.1 h)
  refine va_calli (va_runV (As := As.map (pg_tv ad)) (rest := st.map (pg_tv ad)) ⟨cx.1, cx.2.1, cx.2.2.1, cx.2.2.2.1, cx.2.2.2.2.1⟩ hM ⟨callB_of n cx.2.2.2.2.1 (pg_good w5) rfl rfl rfl (cx.2.2.2.2.1 _ w4) (cx.2.2.2.2.1 _ w1) w7 hroom, cx.2.2.2.2.1 _ w2, cx.2.2.2.2.1 _ w3⟩ ⟨pg_blind, hrecv, hpre⟩ rfl (by rw [List.length_map]; exact hlen) (hl.1) (by show List.map _ _ = _; rw [List.map_append, List.map_reverse]; rfl) (lv_room (by rw [pg_stk]; exact hst)) hd ⟨cx.2.2.2.2.2.1.2.2.1, cx.2.2.2.2.2.1.2.2.2⟩) hS (fun q _ h => hF q h) hF (fun r u t H1 locs1 ht hvm hw hB hz1 hk1 hS => ?_)
  obtain ⟨hP1, hK1, hD1⟩ := hB
  rw [ht] at hP1
  exact hw p l e R s m args below meth c cells slots D cA ad A Z H1 locs1 ls cx hP1 ⟨hD1.1, fun i q h => hF _ (hD1.2 i q h)⟩ hS hl
set_option maxHeartbeats 1000000 in
theorem go_cVl {sc : pg_Sc} {d : Nat} {M : MI} {pc pc' : Nat} {lv : pg_Lv} {st : List Value} {g : pg_S} {Q : pg_Q} {idx n d' : Nat} {M' : MI} {As : List Value} {b cn : Nat} {fs : List Nat} (hd : decode M.2.1 pc = .ok (.invokevirtual idx, 3)) (hn : pc + 3 = pc') (cw : pg_CV M.1.cls idx M' n) (hs : pg_sh[b]? = some (.inr (cn, fs))) (hcl : (vwCl[cn]?).map (fun r => r.1) = some M'.1.cls) (hdd : d' < d) (hrt : M'.2.2.2 = some .long) (hlen : As.length = n) (hst : (st.map fun v => v.category).sum ≤ 8) (k : pg_Cal sc d' M' (.ref b :: As) g (pg_kl (fun v g' => pg_Go sc d M pc' lv (.long v :: st) g' Q))) : pg_Go sc d M pc lv (As.reverse ++ .ref b :: st) g Q := by
  subst hn
  intro p l e R s m args below meth c cells slots D cA ad A Z H locs ls cx hP hD hS hl
  obtain ⟨w1, w2, w3, w4, w5, w6, w7⟩ := cw
  obtain ⟨rc, rc1, rc2⟩ : ∃ rc : vw_C, vwCl[cn]? = some rc ∧ rc.1 = M'.1.cls := by
    cases hr : vwCl[cn]? with
    | none => rw [hr] at hcl; cases hcl
    | some rc => rw [hr] at hcl; exact ⟨rc, rfl, Option.some.inj hcl⟩
  have hrecv := va_recv (ci := cn) cx.2.2.2.2.2.2.1 hP rc1 (pg_ws_at hs)
  rw [rc2] at hrecv
  have hroom : (pg_rm d').frames + 1 ≤ R.frames ∧ 8 + (M'.2.2.1 + 11) + (pg_rm d').locals ≤ R.locals := by
    have h1 := cx.2.2.2.2.2.1.1
    have h2 := cx.2.2.2.2.2.1.2.1
    refine ⟨by show d' + 1 ≤ R.frames; omega, ?_⟩
    show 8 + (M'.2.2.1 + 11) + 64 * d' ≤ R.locals
    omega
  have hpre := pg_pre (sc := sc) (av := (.ref b :: As : List Value).map (pg_tv ad)) (g := g) cx.2.2.2.2.2.2.1 cx.2.2.2.2.2.2.2.2.1 cx.2.2.2.2.2.2.2.1 hP hD hS
  have hM := k l D cA ad H.size
  have hQ : pg_Qc M'.2.2.2 (pg_kl (fun v g' => pg_Go sc d M (pc + 3) lv (.long v :: st) g' Q)) D cA ad (va_A (pg_ws ad cA g) H.size) = va_Ql (fun r g => pg_kl (fun v g' => pg_Go sc d M (pc + 3) lv (.long v :: st) g' Q) (some (.long r)) g) (pg_B D cA ad (va_A (pg_ws ad cA g) H.size)) (va_A (pg_ws ad cA g) H.size) := by
    rw [hrt]; rfl
  rw [hQ] at hM
  have hF : ∀ q, va_A (pg_ws ad cA g) H.size q → A q := by
    intro q hq
    rcases hq with ⟨i, e, h⟩ | h
    · exact hD.2 i _ h
    · exact cx.2.2.2.2.2.2.2.1 q (Nat.le_trans hS.1 h)
  refine va_calll (va_runV (As := As.map (pg_tv ad)) (rest := st.map (pg_tv ad)) ⟨cx.1, cx.2.1, cx.2.2.1, cx.2.2.2.1, cx.2.2.2.2.1⟩ hM ⟨callB_of n cx.2.2.2.2.1 (pg_good w5) rfl rfl rfl (cx.2.2.2.2.1 _ w4) (cx.2.2.2.2.1 _ w1) w7 hroom, cx.2.2.2.2.1 _ w2, cx.2.2.2.2.1 _ w3⟩ ⟨pg_blind, hrecv, hpre⟩ rfl (by rw [List.length_map]; exact hlen) (hl.1) (by show List.map _ _ = _; rw [List.map_append, List.map_reverse]; rfl) (lv_room (by rw [pg_stk]; exact hst)) hd ⟨cx.2.2.2.2.2.1.2.2.1, cx.2.2.2.2.2.1.2.2.2⟩) hS (fun q _ h => hF q h) hF (fun r u t H1 locs1 ht hvm hw hB hz1 hk1 hS => ?_)
  obtain ⟨hP1, hK1, hD1⟩ := hB
  rw [ht] at hP1
  exact hw p l e R s m args below meth c cells slots D cA ad A Z H1 locs1 ls cx hP1 ⟨hD1.1, fun i q h => hF _ (hD1.2 i q h)⟩ hS hl
set_option maxHeartbeats 1000000 in
theorem go_cVv {sc : pg_Sc} {d : Nat} {M : MI} {pc pc' : Nat} {lv : pg_Lv} {st : List Value} {g : pg_S} {Q : pg_Q} {idx n d' : Nat} {M' : MI} {As : List Value} {b cn : Nat} {fs : List Nat} (hd : decode M.2.1 pc = .ok (.invokevirtual idx, 3)) (hn : pc + 3 = pc') (cw : pg_CV M.1.cls idx M' n) (hs : pg_sh[b]? = some (.inr (cn, fs))) (hcl : (vwCl[cn]?).map (fun r => r.1) = some M'.1.cls) (hdd : d' < d) (hrt : M'.2.2.2 = none) (hlen : As.length = n) (hst : (st.map fun v => v.category).sum ≤ 8) (k : pg_Cal sc d' M' (.ref b :: As) g (pg_kv (fun g' => pg_Go sc d M pc' lv st g' Q))) : pg_Go sc d M pc lv (As.reverse ++ .ref b :: st) g Q := by
  subst hn
  intro p l e R s m args below meth c cells slots D cA ad A Z H locs ls cx hP hD hS hl
  obtain ⟨w1, w2, w3, w4, w5, w6, w7⟩ := cw
  obtain ⟨rc, rc1, rc2⟩ : ∃ rc : vw_C, vwCl[cn]? = some rc ∧ rc.1 = M'.1.cls := by
    cases hr : vwCl[cn]? with
    | none => rw [hr] at hcl; cases hcl
    | some rc => rw [hr] at hcl; exact ⟨rc, rfl, Option.some.inj hcl⟩
  have hrecv := va_recv (ci := cn) cx.2.2.2.2.2.2.1 hP rc1 (pg_ws_at hs)
  rw [rc2] at hrecv
  have hroom : (pg_rm d').frames + 1 ≤ R.frames ∧ 8 + (M'.2.2.1 + 11) + (pg_rm d').locals ≤ R.locals := by
    have h1 := cx.2.2.2.2.2.1.1
    have h2 := cx.2.2.2.2.2.1.2.1
    refine ⟨by show d' + 1 ≤ R.frames; omega, ?_⟩
    show 8 + (M'.2.2.1 + 11) + 64 * d' ≤ R.locals
    omega
  have hpre := pg_pre (sc := sc) (av := (.ref b :: As : List Value).map (pg_tv ad)) (g := g) cx.2.2.2.2.2.2.1 cx.2.2.2.2.2.2.2.2.1 cx.2.2.2.2.2.2.2.1 hP hD hS
  have hM := k l D cA ad H.size
  have hQ : pg_Qc M'.2.2.2 (pg_kv (fun g' => pg_Go sc d M (pc + 3) lv st g' Q)) D cA ad (va_A (pg_ws ad cA g) H.size) = va_Qv (fun g => pg_kv (fun g' => pg_Go sc d M (pc + 3) lv st g' Q) none g) (pg_B D cA ad (va_A (pg_ws ad cA g) H.size)) (va_A (pg_ws ad cA g) H.size) := by
    rw [hrt]; rfl
  rw [hQ] at hM
  have hF : ∀ q, va_A (pg_ws ad cA g) H.size q → A q := by
    intro q hq
    rcases hq with ⟨i, e, h⟩ | h
    · exact hD.2 i _ h
    · exact cx.2.2.2.2.2.2.2.1 q (Nat.le_trans hS.1 h)
  refine va_callv (va_runV (As := As.map (pg_tv ad)) (rest := st.map (pg_tv ad)) ⟨cx.1, cx.2.1, cx.2.2.1, cx.2.2.2.1, cx.2.2.2.2.1⟩ hM ⟨callB_of n cx.2.2.2.2.1 (pg_good w5) rfl rfl rfl (cx.2.2.2.2.1 _ w4) (cx.2.2.2.2.1 _ w1) w7 hroom, cx.2.2.2.2.1 _ w2, cx.2.2.2.2.1 _ w3⟩ ⟨pg_blind, hrecv, hpre⟩ rfl (by rw [List.length_map]; exact hlen) (hl.1) (by show List.map _ _ = _; rw [List.map_append, List.map_reverse]; rfl) (lv_room (by rw [pg_stk]; exact hst)) hd ⟨cx.2.2.2.2.2.1.2.2.1, cx.2.2.2.2.2.1.2.2.2⟩) hS (fun q _ h => hF q h) hF (fun u t H1 locs1 ht hvm hw hB hz1 hk1 hS => ?_)
  obtain ⟨hP1, hK1, hD1⟩ := hB
  rw [ht] at hP1
  exact hw p l e R s m args below meth c cells slots D cA ad A Z H1 locs1 ls cx hP1 ⟨hD1.1, fun i q h => hF _ (hD1.2 i q h)⟩ hS hl
set_option maxHeartbeats 1000000 in
theorem go_cSi {sc : pg_Sc} {d : Nat} {M : MI} {pc pc' : Nat} {lv : pg_Lv} {st : List Value} {g : pg_S} {Q : pg_Q} {idx n d' : Nat} {M' : MI} {As : List Value}  (hd : decode M.2.1 pc = .ok (.invokestatic idx, 3)) (hn : pc + 3 = pc') (cw : pg_CS M.1.cls idx M' n) (hdd : d' < d) (hrt : pg_isI M'.2.2.2 = true) (hlen : As.length = n) (hst : (st.map fun v => v.category).sum ≤ 8) (k : pg_Cal sc d' M' (As) g (pg_ki (fun v g' => pg_Go sc d M pc' lv (.int v :: st) g' Q))) : pg_Go sc d M pc lv (As.reverse ++ st) g Q := by
  subst hn
  intro p l e R s m args below meth c cells slots D cA ad A Z H locs ls cx hP hD hS hl
  obtain ⟨w1, w2, w4, w5, w6, w7⟩ := cw
  have hroom : (pg_rm d').frames + 1 ≤ R.frames ∧ 8 + (M'.2.2.1 + 11) + (pg_rm d').locals ≤ R.locals := by
    have h1 := cx.2.2.2.2.2.1.1
    have h2 := cx.2.2.2.2.2.1.2.1
    refine ⟨by show d' + 1 ≤ R.frames; omega, ?_⟩
    show 8 + (M'.2.2.1 + 11) + 64 * d' ≤ R.locals
    omega
  have hpre := pg_pre (sc := sc) (av := (As : List Value).map (pg_tv ad)) (g := g) cx.2.2.2.2.2.2.1 cx.2.2.2.2.2.2.2.2.1 cx.2.2.2.2.2.2.2.1 hP hD hS
  have hM := k l D cA ad H.size
  have hQ : pg_Qc M'.2.2.2 (pg_ki (fun v g' => pg_Go sc d M (pc + 3) lv (.int v :: st) g' Q)) D cA ad (va_A (pg_ws ad cA g) H.size) = va_Qi (fun r g => pg_ki (fun v g' => pg_Go sc d M (pc + 3) lv (.int v :: st) g' Q) (some (.int r)) g) (pg_B D cA ad (va_A (pg_ws ad cA g) H.size)) (va_A (pg_ws ad cA g) H.size) := by
    cases hty : M'.2.2.2 with
      | none => rw [hty] at hrt; cases hrt
      | some ty => rw [hty] at hrt; cases ty <;> first | rfl | cases hrt
  rw [hQ] at hM
  have hF : ∀ q, va_A (pg_ws ad cA g) H.size q → A q := by
    intro q hq
    rcases hq with ⟨i, e, h⟩ | h
    · exact hD.2 i _ h
    · exact cx.2.2.2.2.2.2.2.1 q (Nat.le_trans hS.1 h)
  refine va_calli (va_runS (As := As.map (pg_tv ad)) (rest := st.map (pg_tv ad)) ⟨cx.1, cx.2.1, cx.2.2.1, cx.2.2.2.1, cx.2.2.2.2.1⟩ hM ⟨callB_of n cx.2.2.2.2.1 (pg_good w5) rfl rfl rfl (cx.2.2.2.2.1 _ w4) (cx.2.2.2.2.1 _ w1) w7 hroom, cx.2.2.2.2.1 _ w2⟩ ⟨pg_blind, hpre⟩ rfl (by rw [List.length_map]; exact hlen) (hl.1) (by show List.map _ _ = _; rw [List.map_append, List.map_reverse]) (lv_room (by rw [pg_stk]; exact hst)) hd ⟨cx.2.2.2.2.2.1.2.2.1, cx.2.2.2.2.2.1.2.2.2⟩) hS (fun q _ h => hF q h) hF (fun r u t H1 locs1 ht hvm hw hB hz1 hk1 hS => ?_)
  obtain ⟨hP1, hK1, hD1⟩ := hB
  rw [ht] at hP1
  exact hw p l e R s m args below meth c cells slots D cA ad A Z H1 locs1 ls cx hP1 ⟨hD1.1, fun i q h => hF _ (hD1.2 i q h)⟩ hS hl
set_option maxHeartbeats 1000000 in
theorem go_cSl {sc : pg_Sc} {d : Nat} {M : MI} {pc pc' : Nat} {lv : pg_Lv} {st : List Value} {g : pg_S} {Q : pg_Q} {idx n d' : Nat} {M' : MI} {As : List Value}  (hd : decode M.2.1 pc = .ok (.invokestatic idx, 3)) (hn : pc + 3 = pc') (cw : pg_CS M.1.cls idx M' n) (hdd : d' < d) (hrt : M'.2.2.2 = some .long) (hlen : As.length = n) (hst : (st.map fun v => v.category).sum ≤ 8) (k : pg_Cal sc d' M' (As) g (pg_kl (fun v g' => pg_Go sc d M pc' lv (.long v :: st) g' Q))) : pg_Go sc d M pc lv (As.reverse ++ st) g Q := by
  subst hn
  intro p l e R s m args below meth c cells slots D cA ad A Z H locs ls cx hP hD hS hl
  obtain ⟨w1, w2, w4, w5, w6, w7⟩ := cw
  have hroom : (pg_rm d').frames + 1 ≤ R.frames ∧ 8 + (M'.2.2.1 + 11) + (pg_rm d').locals ≤ R.locals := by
    have h1 := cx.2.2.2.2.2.1.1
    have h2 := cx.2.2.2.2.2.1.2.1
    refine ⟨by show d' + 1 ≤ R.frames; omega, ?_⟩
    show 8 + (M'.2.2.1 + 11) + 64 * d' ≤ R.locals
    omega
  have hpre := pg_pre (sc := sc) (av := (As : List Value).map (pg_tv ad)) (g := g) cx.2.2.2.2.2.2.1 cx.2.2.2.2.2.2.2.2.1 cx.2.2.2.2.2.2.2.1 hP hD hS
  have hM := k l D cA ad H.size
  have hQ : pg_Qc M'.2.2.2 (pg_kl (fun v g' => pg_Go sc d M (pc + 3) lv (.long v :: st) g' Q)) D cA ad (va_A (pg_ws ad cA g) H.size) = va_Ql (fun r g => pg_kl (fun v g' => pg_Go sc d M (pc + 3) lv (.long v :: st) g' Q) (some (.long r)) g) (pg_B D cA ad (va_A (pg_ws ad cA g) H.size)) (va_A (pg_ws ad cA g) H.size) := by
    rw [hrt]; rfl
  rw [hQ] at hM
  have hF : ∀ q, va_A (pg_ws ad cA g) H.size q → A q := by
    intro q hq
    rcases hq with ⟨i, e, h⟩ | h
    · exact hD.2 i _ h
    · exact cx.2.2.2.2.2.2.2.1 q (Nat.le_trans hS.1 h)
  refine va_calll (va_runS (As := As.map (pg_tv ad)) (rest := st.map (pg_tv ad)) ⟨cx.1, cx.2.1, cx.2.2.1, cx.2.2.2.1, cx.2.2.2.2.1⟩ hM ⟨callB_of n cx.2.2.2.2.1 (pg_good w5) rfl rfl rfl (cx.2.2.2.2.1 _ w4) (cx.2.2.2.2.1 _ w1) w7 hroom, cx.2.2.2.2.1 _ w2⟩ ⟨pg_blind, hpre⟩ rfl (by rw [List.length_map]; exact hlen) (hl.1) (by show List.map _ _ = _; rw [List.map_append, List.map_reverse]) (lv_room (by rw [pg_stk]; exact hst)) hd ⟨cx.2.2.2.2.2.1.2.2.1, cx.2.2.2.2.2.1.2.2.2⟩) hS (fun q _ h => hF q h) hF (fun r u t H1 locs1 ht hvm hw hB hz1 hk1 hS => ?_)
  obtain ⟨hP1, hK1, hD1⟩ := hB
  rw [ht] at hP1
  exact hw p l e R s m args below meth c cells slots D cA ad A Z H1 locs1 ls cx hP1 ⟨hD1.1, fun i q h => hF _ (hD1.2 i q h)⟩ hS hl
set_option maxHeartbeats 1000000 in
theorem go_cSv {sc : pg_Sc} {d : Nat} {M : MI} {pc pc' : Nat} {lv : pg_Lv} {st : List Value} {g : pg_S} {Q : pg_Q} {idx n d' : Nat} {M' : MI} {As : List Value}  (hd : decode M.2.1 pc = .ok (.invokestatic idx, 3)) (hn : pc + 3 = pc') (cw : pg_CS M.1.cls idx M' n) (hdd : d' < d) (hrt : M'.2.2.2 = none) (hlen : As.length = n) (hst : (st.map fun v => v.category).sum ≤ 8) (k : pg_Cal sc d' M' (As) g (pg_kv (fun g' => pg_Go sc d M pc' lv st g' Q))) : pg_Go sc d M pc lv (As.reverse ++ st) g Q := by
  subst hn
  intro p l e R s m args below meth c cells slots D cA ad A Z H locs ls cx hP hD hS hl
  obtain ⟨w1, w2, w4, w5, w6, w7⟩ := cw
  have hroom : (pg_rm d').frames + 1 ≤ R.frames ∧ 8 + (M'.2.2.1 + 11) + (pg_rm d').locals ≤ R.locals := by
    have h1 := cx.2.2.2.2.2.1.1
    have h2 := cx.2.2.2.2.2.1.2.1
    refine ⟨by show d' + 1 ≤ R.frames; omega, ?_⟩
    show 8 + (M'.2.2.1 + 11) + 64 * d' ≤ R.locals
    omega
  have hpre := pg_pre (sc := sc) (av := (As : List Value).map (pg_tv ad)) (g := g) cx.2.2.2.2.2.2.1 cx.2.2.2.2.2.2.2.2.1 cx.2.2.2.2.2.2.2.1 hP hD hS
  have hM := k l D cA ad H.size
  have hQ : pg_Qc M'.2.2.2 (pg_kv (fun g' => pg_Go sc d M (pc + 3) lv st g' Q)) D cA ad (va_A (pg_ws ad cA g) H.size) = va_Qv (fun g => pg_kv (fun g' => pg_Go sc d M (pc + 3) lv st g' Q) none g) (pg_B D cA ad (va_A (pg_ws ad cA g) H.size)) (va_A (pg_ws ad cA g) H.size) := by
    rw [hrt]; rfl
  rw [hQ] at hM
  have hF : ∀ q, va_A (pg_ws ad cA g) H.size q → A q := by
    intro q hq
    rcases hq with ⟨i, e, h⟩ | h
    · exact hD.2 i _ h
    · exact cx.2.2.2.2.2.2.2.1 q (Nat.le_trans hS.1 h)
  refine va_callv (va_runS (As := As.map (pg_tv ad)) (rest := st.map (pg_tv ad)) ⟨cx.1, cx.2.1, cx.2.2.1, cx.2.2.2.1, cx.2.2.2.2.1⟩ hM ⟨callB_of n cx.2.2.2.2.1 (pg_good w5) rfl rfl rfl (cx.2.2.2.2.1 _ w4) (cx.2.2.2.2.1 _ w1) w7 hroom, cx.2.2.2.2.1 _ w2⟩ ⟨pg_blind, hpre⟩ rfl (by rw [List.length_map]; exact hlen) (hl.1) (by show List.map _ _ = _; rw [List.map_append, List.map_reverse]) (lv_room (by rw [pg_stk]; exact hst)) hd ⟨cx.2.2.2.2.2.1.2.2.1, cx.2.2.2.2.2.1.2.2.2⟩) hS (fun q _ h => hF q h) hF (fun u t H1 locs1 ht hvm hw hB hz1 hk1 hS => ?_)
  obtain ⟨hP1, hK1, hD1⟩ := hB
  rw [ht] at hP1
  exact hw p l e R s m args below meth c cells slots D cA ad A Z H1 locs1 ls cx hP1 ⟨hD1.1, fun i q h => hF _ (hD1.2 i q h)⟩ hS hl
set_option maxHeartbeats 1000000 in
theorem go_cNi {sc : pg_Sc} {d : Nat} {M : MI} {pc pc' : Nat} {lv : pg_Lv} {st : List Value} {g : pg_S} {Q : pg_Q} {idx n d' : Nat} {M' : MI} {As : List Value}  (hd : decode M.2.1 pc = .ok (.invokestatic idx, 3)) (hn : pc + 3 = pc') (hMy : M'.1 = yX6_upTo) (hMc : M.1.cls = RX1) (hix : idx = 18) (cw : pg_CN M.1.cls idx M' n) (hdd : d' < d) (hrt : pg_isI M'.2.2.2 = true) (hlen : As.length = n) (hst : (st.map fun v => v.category).sum ≤ 8) (k : pg_Cal sc d' M' (As) g (pg_ki (fun v g' => pg_Go sc d M pc' lv (.int v :: st) g' Q))) : pg_Go sc d M pc lv (As.reverse ++ st) g Q := by
  subst hn
  intro p l e R s m args below meth c cells slots D cA ad A Z H locs ls cx hP hD hS hl
  obtain ⟨w2, w4, w5, w6, w7⟩ := cw
  have hnw : va_Nw (.methodLinkNest M.1.cls idx M'.1 "PicturePegs") s := by rw [hMy, hMc, hix]; exact cx.2.2.2.2.2.2.2.2.1.2.2.2.2.2.2.2.2.2.2.2
  have hroom : (pg_rm d').frames + 1 ≤ R.frames ∧ 8 + (M'.2.2.1 + 11) + (pg_rm d').locals ≤ R.locals := by
    have h1 := cx.2.2.2.2.2.1.1
    have h2 := cx.2.2.2.2.2.1.2.1
    refine ⟨by show d' + 1 ≤ R.frames; omega, ?_⟩
    show 8 + (M'.2.2.1 + 11) + 64 * d' ≤ R.locals
    omega
  have hpre := pg_pre (sc := sc) (av := (As : List Value).map (pg_tv ad)) (g := g) cx.2.2.2.2.2.2.1 cx.2.2.2.2.2.2.2.2.1 cx.2.2.2.2.2.2.2.1 hP hD hS
  have hM := k l D cA ad H.size
  have hQ : pg_Qc M'.2.2.2 (pg_ki (fun v g' => pg_Go sc d M (pc + 3) lv (.int v :: st) g' Q)) D cA ad (va_A (pg_ws ad cA g) H.size) = va_Qi (fun r g => pg_ki (fun v g' => pg_Go sc d M (pc + 3) lv (.int v :: st) g' Q) (some (.int r)) g) (pg_B D cA ad (va_A (pg_ws ad cA g) H.size)) (va_A (pg_ws ad cA g) H.size) := by
    cases hty : M'.2.2.2 with
      | none => rw [hty] at hrt; cases hrt
      | some ty => rw [hty] at hrt; cases ty <;> first | rfl | cases hrt
  rw [hQ] at hM
  have hF : ∀ q, va_A (pg_ws ad cA g) H.size q → A q := by
    intro q hq
    rcases hq with ⟨i, e, h⟩ | h
    · exact hD.2 i _ h
    · exact cx.2.2.2.2.2.2.2.1 q (Nat.le_trans hS.1 h)
  refine va_calli (va_runSN (As := As.map (pg_tv ad)) (rest := st.map (pg_tv ad)) ⟨cx.1, cx.2.1, cx.2.2.1, cx.2.2.2.1, cx.2.2.2.2.1⟩ hM ⟨va_cnB n cx.2.2.2.2.1 (pg_good w5) rfl rfl rfl hnw (cx.2.2.2.2.1 _ w4) w7 hroom, cx.2.2.2.2.1 _ w2, trivial⟩ ⟨pg_blind, hpre⟩ rfl (by rw [List.length_map]; exact hlen) (hl.1) (by show List.map _ _ = _; rw [List.map_append, List.map_reverse]) (lv_room (by rw [pg_stk]; exact hst)) hd ⟨cx.2.2.2.2.2.1.2.2.1, cx.2.2.2.2.2.1.2.2.2⟩) hS (fun q _ h => hF q h) hF (fun r u t H1 locs1 ht hvm hw hB hz1 hk1 hS => ?_)
  obtain ⟨hP1, hK1, hD1⟩ := hB
  rw [ht] at hP1
  exact hw p l e R s m args below meth c cells slots D cA ad A Z H1 locs1 ls cx hP1 ⟨hD1.1, fun i q h => hF _ (hD1.2 i q h)⟩ hS hl
theorem go_cVi0 {sc : pg_Sc} {d : Nat} {M : MI} {pc pc' : Nat} {lv : pg_Lv} {st : List Value} {g : pg_S} {Q : pg_Q} {idx d' : Nat} {M' : MI}  {b cn : Nat} {fs : List Nat} (hd : decode M.2.1 pc = .ok (.invokevirtual idx, 3)) (hn : pc + 3 = pc') (cw : pg_CV M.1.cls idx M' 0) (hs : pg_sh[b]? = some (.inr (cn, fs))) (hcl : (vwCl[cn]?).map (fun r => r.1) = some M'.1.cls) (hdd : d' < d) (hrt : pg_isI M'.2.2.2 = true) (hst : (st.map fun v => v.category).sum ≤ 8) (k : pg_Cal sc d' M' [.ref b] g (pg_ki (fun v g' => pg_Go sc d M pc' lv (.int v :: st) g' Q))) : pg_Go sc d M pc lv (.ref b :: st) g Q := go_cVi (As := []) hd hn cw hs hcl hdd hrt rfl hst k
theorem go_cVi1 {sc : pg_Sc} {d : Nat} {M : MI} {pc pc' : Nat} {lv : pg_Lv} {st : List Value} {g : pg_S} {Q : pg_Q} {idx d' : Nat} {M' : MI} {a1 : Value} {b cn : Nat} {fs : List Nat} (hd : decode M.2.1 pc = .ok (.invokevirtual idx, 3)) (hn : pc + 3 = pc') (cw : pg_CV M.1.cls idx M' 1) (hs : pg_sh[b]? = some (.inr (cn, fs))) (hcl : (vwCl[cn]?).map (fun r => r.1) = some M'.1.cls) (hdd : d' < d) (hrt : pg_isI M'.2.2.2 = true) (hst : (st.map fun v => v.category).sum ≤ 8) (k : pg_Cal sc d' M' [.ref b, a1] g (pg_ki (fun v g' => pg_Go sc d M pc' lv (.int v :: st) g' Q))) : pg_Go sc d M pc lv (a1 :: .ref b :: st) g Q := go_cVi (As := [a1]) hd hn cw hs hcl hdd hrt rfl hst k
theorem go_cVi2 {sc : pg_Sc} {d : Nat} {M : MI} {pc pc' : Nat} {lv : pg_Lv} {st : List Value} {g : pg_S} {Q : pg_Q} {idx d' : Nat} {M' : MI} {a1 a2 : Value} {b cn : Nat} {fs : List Nat} (hd : decode M.2.1 pc = .ok (.invokevirtual idx, 3)) (hn : pc + 3 = pc') (cw : pg_CV M.1.cls idx M' 2) (hs : pg_sh[b]? = some (.inr (cn, fs))) (hcl : (vwCl[cn]?).map (fun r => r.1) = some M'.1.cls) (hdd : d' < d) (hrt : pg_isI M'.2.2.2 = true) (hst : (st.map fun v => v.category).sum ≤ 8) (k : pg_Cal sc d' M' [.ref b, a1, a2] g (pg_ki (fun v g' => pg_Go sc d M pc' lv (.int v :: st) g' Q))) : pg_Go sc d M pc lv (a2 :: a1 :: .ref b :: st) g Q := go_cVi (As := [a1, a2]) hd hn cw hs hcl hdd hrt rfl hst k
theorem go_cVi3 {sc : pg_Sc} {d : Nat} {M : MI} {pc pc' : Nat} {lv : pg_Lv} {st : List Value} {g : pg_S} {Q : pg_Q} {idx d' : Nat} {M' : MI} {a1 a2 a3 : Value} {b cn : Nat} {fs : List Nat} (hd : decode M.2.1 pc = .ok (.invokevirtual idx, 3)) (hn : pc + 3 = pc') (cw : pg_CV M.1.cls idx M' 3) (hs : pg_sh[b]? = some (.inr (cn, fs))) (hcl : (vwCl[cn]?).map (fun r => r.1) = some M'.1.cls) (hdd : d' < d) (hrt : pg_isI M'.2.2.2 = true) (hst : (st.map fun v => v.category).sum ≤ 8) (k : pg_Cal sc d' M' [.ref b, a1, a2, a3] g (pg_ki (fun v g' => pg_Go sc d M pc' lv (.int v :: st) g' Q))) : pg_Go sc d M pc lv (a3 :: a2 :: a1 :: .ref b :: st) g Q := go_cVi (As := [a1, a2, a3]) hd hn cw hs hcl hdd hrt rfl hst k
theorem go_cVi4 {sc : pg_Sc} {d : Nat} {M : MI} {pc pc' : Nat} {lv : pg_Lv} {st : List Value} {g : pg_S} {Q : pg_Q} {idx d' : Nat} {M' : MI} {a1 a2 a3 a4 : Value} {b cn : Nat} {fs : List Nat} (hd : decode M.2.1 pc = .ok (.invokevirtual idx, 3)) (hn : pc + 3 = pc') (cw : pg_CV M.1.cls idx M' 4) (hs : pg_sh[b]? = some (.inr (cn, fs))) (hcl : (vwCl[cn]?).map (fun r => r.1) = some M'.1.cls) (hdd : d' < d) (hrt : pg_isI M'.2.2.2 = true) (hst : (st.map fun v => v.category).sum ≤ 8) (k : pg_Cal sc d' M' [.ref b, a1, a2, a3, a4] g (pg_ki (fun v g' => pg_Go sc d M pc' lv (.int v :: st) g' Q))) : pg_Go sc d M pc lv (a4 :: a3 :: a2 :: a1 :: .ref b :: st) g Q := go_cVi (As := [a1, a2, a3, a4]) hd hn cw hs hcl hdd hrt rfl hst k
theorem go_cVl0 {sc : pg_Sc} {d : Nat} {M : MI} {pc pc' : Nat} {lv : pg_Lv} {st : List Value} {g : pg_S} {Q : pg_Q} {idx d' : Nat} {M' : MI}  {b cn : Nat} {fs : List Nat} (hd : decode M.2.1 pc = .ok (.invokevirtual idx, 3)) (hn : pc + 3 = pc') (cw : pg_CV M.1.cls idx M' 0) (hs : pg_sh[b]? = some (.inr (cn, fs))) (hcl : (vwCl[cn]?).map (fun r => r.1) = some M'.1.cls) (hdd : d' < d) (hrt : M'.2.2.2 = some .long) (hst : (st.map fun v => v.category).sum ≤ 8) (k : pg_Cal sc d' M' [.ref b] g (pg_kl (fun v g' => pg_Go sc d M pc' lv (.long v :: st) g' Q))) : pg_Go sc d M pc lv (.ref b :: st) g Q := go_cVl (As := []) hd hn cw hs hcl hdd hrt rfl hst k
theorem go_cVl1 {sc : pg_Sc} {d : Nat} {M : MI} {pc pc' : Nat} {lv : pg_Lv} {st : List Value} {g : pg_S} {Q : pg_Q} {idx d' : Nat} {M' : MI} {a1 : Value} {b cn : Nat} {fs : List Nat} (hd : decode M.2.1 pc = .ok (.invokevirtual idx, 3)) (hn : pc + 3 = pc') (cw : pg_CV M.1.cls idx M' 1) (hs : pg_sh[b]? = some (.inr (cn, fs))) (hcl : (vwCl[cn]?).map (fun r => r.1) = some M'.1.cls) (hdd : d' < d) (hrt : M'.2.2.2 = some .long) (hst : (st.map fun v => v.category).sum ≤ 8) (k : pg_Cal sc d' M' [.ref b, a1] g (pg_kl (fun v g' => pg_Go sc d M pc' lv (.long v :: st) g' Q))) : pg_Go sc d M pc lv (a1 :: .ref b :: st) g Q := go_cVl (As := [a1]) hd hn cw hs hcl hdd hrt rfl hst k
theorem go_cVl2 {sc : pg_Sc} {d : Nat} {M : MI} {pc pc' : Nat} {lv : pg_Lv} {st : List Value} {g : pg_S} {Q : pg_Q} {idx d' : Nat} {M' : MI} {a1 a2 : Value} {b cn : Nat} {fs : List Nat} (hd : decode M.2.1 pc = .ok (.invokevirtual idx, 3)) (hn : pc + 3 = pc') (cw : pg_CV M.1.cls idx M' 2) (hs : pg_sh[b]? = some (.inr (cn, fs))) (hcl : (vwCl[cn]?).map (fun r => r.1) = some M'.1.cls) (hdd : d' < d) (hrt : M'.2.2.2 = some .long) (hst : (st.map fun v => v.category).sum ≤ 8) (k : pg_Cal sc d' M' [.ref b, a1, a2] g (pg_kl (fun v g' => pg_Go sc d M pc' lv (.long v :: st) g' Q))) : pg_Go sc d M pc lv (a2 :: a1 :: .ref b :: st) g Q := go_cVl (As := [a1, a2]) hd hn cw hs hcl hdd hrt rfl hst k
theorem go_cVl3 {sc : pg_Sc} {d : Nat} {M : MI} {pc pc' : Nat} {lv : pg_Lv} {st : List Value} {g : pg_S} {Q : pg_Q} {idx d' : Nat} {M' : MI} {a1 a2 a3 : Value} {b cn : Nat} {fs : List Nat} (hd : decode M.2.1 pc = .ok (.invokevirtual idx, 3)) (hn : pc + 3 = pc') (cw : pg_CV M.1.cls idx M' 3) (hs : pg_sh[b]? = some (.inr (cn, fs))) (hcl : (vwCl[cn]?).map (fun r => r.1) = some M'.1.cls) (hdd : d' < d) (hrt : M'.2.2.2 = some .long) (hst : (st.map fun v => v.category).sum ≤ 8) (k : pg_Cal sc d' M' [.ref b, a1, a2, a3] g (pg_kl (fun v g' => pg_Go sc d M pc' lv (.long v :: st) g' Q))) : pg_Go sc d M pc lv (a3 :: a2 :: a1 :: .ref b :: st) g Q := go_cVl (As := [a1, a2, a3]) hd hn cw hs hcl hdd hrt rfl hst k
theorem go_cVl4 {sc : pg_Sc} {d : Nat} {M : MI} {pc pc' : Nat} {lv : pg_Lv} {st : List Value} {g : pg_S} {Q : pg_Q} {idx d' : Nat} {M' : MI} {a1 a2 a3 a4 : Value} {b cn : Nat} {fs : List Nat} (hd : decode M.2.1 pc = .ok (.invokevirtual idx, 3)) (hn : pc + 3 = pc') (cw : pg_CV M.1.cls idx M' 4) (hs : pg_sh[b]? = some (.inr (cn, fs))) (hcl : (vwCl[cn]?).map (fun r => r.1) = some M'.1.cls) (hdd : d' < d) (hrt : M'.2.2.2 = some .long) (hst : (st.map fun v => v.category).sum ≤ 8) (k : pg_Cal sc d' M' [.ref b, a1, a2, a3, a4] g (pg_kl (fun v g' => pg_Go sc d M pc' lv (.long v :: st) g' Q))) : pg_Go sc d M pc lv (a4 :: a3 :: a2 :: a1 :: .ref b :: st) g Q := go_cVl (As := [a1, a2, a3, a4]) hd hn cw hs hcl hdd hrt rfl hst k
theorem go_cVv0 {sc : pg_Sc} {d : Nat} {M : MI} {pc pc' : Nat} {lv : pg_Lv} {st : List Value} {g : pg_S} {Q : pg_Q} {idx d' : Nat} {M' : MI}  {b cn : Nat} {fs : List Nat} (hd : decode M.2.1 pc = .ok (.invokevirtual idx, 3)) (hn : pc + 3 = pc') (cw : pg_CV M.1.cls idx M' 0) (hs : pg_sh[b]? = some (.inr (cn, fs))) (hcl : (vwCl[cn]?).map (fun r => r.1) = some M'.1.cls) (hdd : d' < d) (hrt : M'.2.2.2 = none) (hst : (st.map fun v => v.category).sum ≤ 8) (k : pg_Cal sc d' M' [.ref b] g (pg_kv (fun g' => pg_Go sc d M pc' lv st g' Q))) : pg_Go sc d M pc lv (.ref b :: st) g Q := go_cVv (As := []) hd hn cw hs hcl hdd hrt rfl hst k
theorem go_cVv1 {sc : pg_Sc} {d : Nat} {M : MI} {pc pc' : Nat} {lv : pg_Lv} {st : List Value} {g : pg_S} {Q : pg_Q} {idx d' : Nat} {M' : MI} {a1 : Value} {b cn : Nat} {fs : List Nat} (hd : decode M.2.1 pc = .ok (.invokevirtual idx, 3)) (hn : pc + 3 = pc') (cw : pg_CV M.1.cls idx M' 1) (hs : pg_sh[b]? = some (.inr (cn, fs))) (hcl : (vwCl[cn]?).map (fun r => r.1) = some M'.1.cls) (hdd : d' < d) (hrt : M'.2.2.2 = none) (hst : (st.map fun v => v.category).sum ≤ 8) (k : pg_Cal sc d' M' [.ref b, a1] g (pg_kv (fun g' => pg_Go sc d M pc' lv st g' Q))) : pg_Go sc d M pc lv (a1 :: .ref b :: st) g Q := go_cVv (As := [a1]) hd hn cw hs hcl hdd hrt rfl hst k
theorem go_cVv2 {sc : pg_Sc} {d : Nat} {M : MI} {pc pc' : Nat} {lv : pg_Lv} {st : List Value} {g : pg_S} {Q : pg_Q} {idx d' : Nat} {M' : MI} {a1 a2 : Value} {b cn : Nat} {fs : List Nat} (hd : decode M.2.1 pc = .ok (.invokevirtual idx, 3)) (hn : pc + 3 = pc') (cw : pg_CV M.1.cls idx M' 2) (hs : pg_sh[b]? = some (.inr (cn, fs))) (hcl : (vwCl[cn]?).map (fun r => r.1) = some M'.1.cls) (hdd : d' < d) (hrt : M'.2.2.2 = none) (hst : (st.map fun v => v.category).sum ≤ 8) (k : pg_Cal sc d' M' [.ref b, a1, a2] g (pg_kv (fun g' => pg_Go sc d M pc' lv st g' Q))) : pg_Go sc d M pc lv (a2 :: a1 :: .ref b :: st) g Q := go_cVv (As := [a1, a2]) hd hn cw hs hcl hdd hrt rfl hst k
theorem go_cVv3 {sc : pg_Sc} {d : Nat} {M : MI} {pc pc' : Nat} {lv : pg_Lv} {st : List Value} {g : pg_S} {Q : pg_Q} {idx d' : Nat} {M' : MI} {a1 a2 a3 : Value} {b cn : Nat} {fs : List Nat} (hd : decode M.2.1 pc = .ok (.invokevirtual idx, 3)) (hn : pc + 3 = pc') (cw : pg_CV M.1.cls idx M' 3) (hs : pg_sh[b]? = some (.inr (cn, fs))) (hcl : (vwCl[cn]?).map (fun r => r.1) = some M'.1.cls) (hdd : d' < d) (hrt : M'.2.2.2 = none) (hst : (st.map fun v => v.category).sum ≤ 8) (k : pg_Cal sc d' M' [.ref b, a1, a2, a3] g (pg_kv (fun g' => pg_Go sc d M pc' lv st g' Q))) : pg_Go sc d M pc lv (a3 :: a2 :: a1 :: .ref b :: st) g Q := go_cVv (As := [a1, a2, a3]) hd hn cw hs hcl hdd hrt rfl hst k
theorem go_cVv4 {sc : pg_Sc} {d : Nat} {M : MI} {pc pc' : Nat} {lv : pg_Lv} {st : List Value} {g : pg_S} {Q : pg_Q} {idx d' : Nat} {M' : MI} {a1 a2 a3 a4 : Value} {b cn : Nat} {fs : List Nat} (hd : decode M.2.1 pc = .ok (.invokevirtual idx, 3)) (hn : pc + 3 = pc') (cw : pg_CV M.1.cls idx M' 4) (hs : pg_sh[b]? = some (.inr (cn, fs))) (hcl : (vwCl[cn]?).map (fun r => r.1) = some M'.1.cls) (hdd : d' < d) (hrt : M'.2.2.2 = none) (hst : (st.map fun v => v.category).sum ≤ 8) (k : pg_Cal sc d' M' [.ref b, a1, a2, a3, a4] g (pg_kv (fun g' => pg_Go sc d M pc' lv st g' Q))) : pg_Go sc d M pc lv (a4 :: a3 :: a2 :: a1 :: .ref b :: st) g Q := go_cVv (As := [a1, a2, a3, a4]) hd hn cw hs hcl hdd hrt rfl hst k
theorem go_cSi0 {sc : pg_Sc} {d : Nat} {M : MI} {pc pc' : Nat} {lv : pg_Lv} {st : List Value} {g : pg_S} {Q : pg_Q} {idx d' : Nat} {M' : MI}   (hd : decode M.2.1 pc = .ok (.invokestatic idx, 3)) (hn : pc + 3 = pc') (cw : pg_CS M.1.cls idx M' 0) (hdd : d' < d) (hrt : pg_isI M'.2.2.2 = true) (hst : (st.map fun v => v.category).sum ≤ 8) (k : pg_Cal sc d' M' [] g (pg_ki (fun v g' => pg_Go sc d M pc' lv (.int v :: st) g' Q))) : pg_Go sc d M pc lv (st) g Q := go_cSi (As := []) hd hn cw hdd hrt rfl hst k
theorem go_cSi1 {sc : pg_Sc} {d : Nat} {M : MI} {pc pc' : Nat} {lv : pg_Lv} {st : List Value} {g : pg_S} {Q : pg_Q} {idx d' : Nat} {M' : MI} {a1 : Value}  (hd : decode M.2.1 pc = .ok (.invokestatic idx, 3)) (hn : pc + 3 = pc') (cw : pg_CS M.1.cls idx M' 1) (hdd : d' < d) (hrt : pg_isI M'.2.2.2 = true) (hst : (st.map fun v => v.category).sum ≤ 8) (k : pg_Cal sc d' M' [a1] g (pg_ki (fun v g' => pg_Go sc d M pc' lv (.int v :: st) g' Q))) : pg_Go sc d M pc lv (a1 :: st) g Q := go_cSi (As := [a1]) hd hn cw hdd hrt rfl hst k
theorem go_cSi2 {sc : pg_Sc} {d : Nat} {M : MI} {pc pc' : Nat} {lv : pg_Lv} {st : List Value} {g : pg_S} {Q : pg_Q} {idx d' : Nat} {M' : MI} {a1 a2 : Value}  (hd : decode M.2.1 pc = .ok (.invokestatic idx, 3)) (hn : pc + 3 = pc') (cw : pg_CS M.1.cls idx M' 2) (hdd : d' < d) (hrt : pg_isI M'.2.2.2 = true) (hst : (st.map fun v => v.category).sum ≤ 8) (k : pg_Cal sc d' M' [a1, a2] g (pg_ki (fun v g' => pg_Go sc d M pc' lv (.int v :: st) g' Q))) : pg_Go sc d M pc lv (a2 :: a1 :: st) g Q := go_cSi (As := [a1, a2]) hd hn cw hdd hrt rfl hst k
theorem go_cSi3 {sc : pg_Sc} {d : Nat} {M : MI} {pc pc' : Nat} {lv : pg_Lv} {st : List Value} {g : pg_S} {Q : pg_Q} {idx d' : Nat} {M' : MI} {a1 a2 a3 : Value}  (hd : decode M.2.1 pc = .ok (.invokestatic idx, 3)) (hn : pc + 3 = pc') (cw : pg_CS M.1.cls idx M' 3) (hdd : d' < d) (hrt : pg_isI M'.2.2.2 = true) (hst : (st.map fun v => v.category).sum ≤ 8) (k : pg_Cal sc d' M' [a1, a2, a3] g (pg_ki (fun v g' => pg_Go sc d M pc' lv (.int v :: st) g' Q))) : pg_Go sc d M pc lv (a3 :: a2 :: a1 :: st) g Q := go_cSi (As := [a1, a2, a3]) hd hn cw hdd hrt rfl hst k
theorem go_cSi4 {sc : pg_Sc} {d : Nat} {M : MI} {pc pc' : Nat} {lv : pg_Lv} {st : List Value} {g : pg_S} {Q : pg_Q} {idx d' : Nat} {M' : MI} {a1 a2 a3 a4 : Value}  (hd : decode M.2.1 pc = .ok (.invokestatic idx, 3)) (hn : pc + 3 = pc') (cw : pg_CS M.1.cls idx M' 4) (hdd : d' < d) (hrt : pg_isI M'.2.2.2 = true) (hst : (st.map fun v => v.category).sum ≤ 8) (k : pg_Cal sc d' M' [a1, a2, a3, a4] g (pg_ki (fun v g' => pg_Go sc d M pc' lv (.int v :: st) g' Q))) : pg_Go sc d M pc lv (a4 :: a3 :: a2 :: a1 :: st) g Q := go_cSi (As := [a1, a2, a3, a4]) hd hn cw hdd hrt rfl hst k
theorem go_cSl0 {sc : pg_Sc} {d : Nat} {M : MI} {pc pc' : Nat} {lv : pg_Lv} {st : List Value} {g : pg_S} {Q : pg_Q} {idx d' : Nat} {M' : MI}   (hd : decode M.2.1 pc = .ok (.invokestatic idx, 3)) (hn : pc + 3 = pc') (cw : pg_CS M.1.cls idx M' 0) (hdd : d' < d) (hrt : M'.2.2.2 = some .long) (hst : (st.map fun v => v.category).sum ≤ 8) (k : pg_Cal sc d' M' [] g (pg_kl (fun v g' => pg_Go sc d M pc' lv (.long v :: st) g' Q))) : pg_Go sc d M pc lv (st) g Q := go_cSl (As := []) hd hn cw hdd hrt rfl hst k
theorem go_cSl1 {sc : pg_Sc} {d : Nat} {M : MI} {pc pc' : Nat} {lv : pg_Lv} {st : List Value} {g : pg_S} {Q : pg_Q} {idx d' : Nat} {M' : MI} {a1 : Value}  (hd : decode M.2.1 pc = .ok (.invokestatic idx, 3)) (hn : pc + 3 = pc') (cw : pg_CS M.1.cls idx M' 1) (hdd : d' < d) (hrt : M'.2.2.2 = some .long) (hst : (st.map fun v => v.category).sum ≤ 8) (k : pg_Cal sc d' M' [a1] g (pg_kl (fun v g' => pg_Go sc d M pc' lv (.long v :: st) g' Q))) : pg_Go sc d M pc lv (a1 :: st) g Q := go_cSl (As := [a1]) hd hn cw hdd hrt rfl hst k
theorem go_cSl2 {sc : pg_Sc} {d : Nat} {M : MI} {pc pc' : Nat} {lv : pg_Lv} {st : List Value} {g : pg_S} {Q : pg_Q} {idx d' : Nat} {M' : MI} {a1 a2 : Value}  (hd : decode M.2.1 pc = .ok (.invokestatic idx, 3)) (hn : pc + 3 = pc') (cw : pg_CS M.1.cls idx M' 2) (hdd : d' < d) (hrt : M'.2.2.2 = some .long) (hst : (st.map fun v => v.category).sum ≤ 8) (k : pg_Cal sc d' M' [a1, a2] g (pg_kl (fun v g' => pg_Go sc d M pc' lv (.long v :: st) g' Q))) : pg_Go sc d M pc lv (a2 :: a1 :: st) g Q := go_cSl (As := [a1, a2]) hd hn cw hdd hrt rfl hst k
theorem go_cSl3 {sc : pg_Sc} {d : Nat} {M : MI} {pc pc' : Nat} {lv : pg_Lv} {st : List Value} {g : pg_S} {Q : pg_Q} {idx d' : Nat} {M' : MI} {a1 a2 a3 : Value}  (hd : decode M.2.1 pc = .ok (.invokestatic idx, 3)) (hn : pc + 3 = pc') (cw : pg_CS M.1.cls idx M' 3) (hdd : d' < d) (hrt : M'.2.2.2 = some .long) (hst : (st.map fun v => v.category).sum ≤ 8) (k : pg_Cal sc d' M' [a1, a2, a3] g (pg_kl (fun v g' => pg_Go sc d M pc' lv (.long v :: st) g' Q))) : pg_Go sc d M pc lv (a3 :: a2 :: a1 :: st) g Q := go_cSl (As := [a1, a2, a3]) hd hn cw hdd hrt rfl hst k
theorem go_cSl4 {sc : pg_Sc} {d : Nat} {M : MI} {pc pc' : Nat} {lv : pg_Lv} {st : List Value} {g : pg_S} {Q : pg_Q} {idx d' : Nat} {M' : MI} {a1 a2 a3 a4 : Value}  (hd : decode M.2.1 pc = .ok (.invokestatic idx, 3)) (hn : pc + 3 = pc') (cw : pg_CS M.1.cls idx M' 4) (hdd : d' < d) (hrt : M'.2.2.2 = some .long) (hst : (st.map fun v => v.category).sum ≤ 8) (k : pg_Cal sc d' M' [a1, a2, a3, a4] g (pg_kl (fun v g' => pg_Go sc d M pc' lv (.long v :: st) g' Q))) : pg_Go sc d M pc lv (a4 :: a3 :: a2 :: a1 :: st) g Q := go_cSl (As := [a1, a2, a3, a4]) hd hn cw hdd hrt rfl hst k
theorem go_cSv0 {sc : pg_Sc} {d : Nat} {M : MI} {pc pc' : Nat} {lv : pg_Lv} {st : List Value} {g : pg_S} {Q : pg_Q} {idx d' : Nat} {M' : MI}   (hd : decode M.2.1 pc = .ok (.invokestatic idx, 3)) (hn : pc + 3 = pc') (cw : pg_CS M.1.cls idx M' 0) (hdd : d' < d) (hrt : M'.2.2.2 = none) (hst : (st.map fun v => v.category).sum ≤ 8) (k : pg_Cal sc d' M' [] g (pg_kv (fun g' => pg_Go sc d M pc' lv st g' Q))) : pg_Go sc d M pc lv (st) g Q := go_cSv (As := []) hd hn cw hdd hrt rfl hst k
theorem go_cSv1 {sc : pg_Sc} {d : Nat} {M : MI} {pc pc' : Nat} {lv : pg_Lv} {st : List Value} {g : pg_S} {Q : pg_Q} {idx d' : Nat} {M' : MI} {a1 : Value}  (hd : decode M.2.1 pc = .ok (.invokestatic idx, 3)) (hn : pc + 3 = pc') (cw : pg_CS M.1.cls idx M' 1) (hdd : d' < d) (hrt : M'.2.2.2 = none) (hst : (st.map fun v => v.category).sum ≤ 8) (k : pg_Cal sc d' M' [a1] g (pg_kv (fun g' => pg_Go sc d M pc' lv st g' Q))) : pg_Go sc d M pc lv (a1 :: st) g Q := go_cSv (As := [a1]) hd hn cw hdd hrt rfl hst k
theorem go_cSv2 {sc : pg_Sc} {d : Nat} {M : MI} {pc pc' : Nat} {lv : pg_Lv} {st : List Value} {g : pg_S} {Q : pg_Q} {idx d' : Nat} {M' : MI} {a1 a2 : Value}  (hd : decode M.2.1 pc = .ok (.invokestatic idx, 3)) (hn : pc + 3 = pc') (cw : pg_CS M.1.cls idx M' 2) (hdd : d' < d) (hrt : M'.2.2.2 = none) (hst : (st.map fun v => v.category).sum ≤ 8) (k : pg_Cal sc d' M' [a1, a2] g (pg_kv (fun g' => pg_Go sc d M pc' lv st g' Q))) : pg_Go sc d M pc lv (a2 :: a1 :: st) g Q := go_cSv (As := [a1, a2]) hd hn cw hdd hrt rfl hst k
theorem go_cSv3 {sc : pg_Sc} {d : Nat} {M : MI} {pc pc' : Nat} {lv : pg_Lv} {st : List Value} {g : pg_S} {Q : pg_Q} {idx d' : Nat} {M' : MI} {a1 a2 a3 : Value}  (hd : decode M.2.1 pc = .ok (.invokestatic idx, 3)) (hn : pc + 3 = pc') (cw : pg_CS M.1.cls idx M' 3) (hdd : d' < d) (hrt : M'.2.2.2 = none) (hst : (st.map fun v => v.category).sum ≤ 8) (k : pg_Cal sc d' M' [a1, a2, a3] g (pg_kv (fun g' => pg_Go sc d M pc' lv st g' Q))) : pg_Go sc d M pc lv (a3 :: a2 :: a1 :: st) g Q := go_cSv (As := [a1, a2, a3]) hd hn cw hdd hrt rfl hst k
theorem go_cSv4 {sc : pg_Sc} {d : Nat} {M : MI} {pc pc' : Nat} {lv : pg_Lv} {st : List Value} {g : pg_S} {Q : pg_Q} {idx d' : Nat} {M' : MI} {a1 a2 a3 a4 : Value}  (hd : decode M.2.1 pc = .ok (.invokestatic idx, 3)) (hn : pc + 3 = pc') (cw : pg_CS M.1.cls idx M' 4) (hdd : d' < d) (hrt : M'.2.2.2 = none) (hst : (st.map fun v => v.category).sum ≤ 8) (k : pg_Cal sc d' M' [a1, a2, a3, a4] g (pg_kv (fun g' => pg_Go sc d M pc' lv st g' Q))) : pg_Go sc d M pc lv (a4 :: a3 :: a2 :: a1 :: st) g Q := go_cSv (As := [a1, a2, a3, a4]) hd hn cw hdd hrt rfl hst k
theorem go_cNi0 {sc : pg_Sc} {d : Nat} {M : MI} {pc pc' : Nat} {lv : pg_Lv} {st : List Value} {g : pg_S} {Q : pg_Q} {idx d' : Nat} {M' : MI}   (hd : decode M.2.1 pc = .ok (.invokestatic idx, 3)) (hn : pc + 3 = pc') (hMy : M'.1 = yX6_upTo) (hMc : M.1.cls = RX1) (hix : idx = 18) (cw : pg_CN M.1.cls idx M' 0) (hdd : d' < d) (hrt : pg_isI M'.2.2.2 = true) (hst : (st.map fun v => v.category).sum ≤ 8) (k : pg_Cal sc d' M' [] g (pg_ki (fun v g' => pg_Go sc d M pc' lv (.int v :: st) g' Q))) : pg_Go sc d M pc lv (st) g Q := go_cNi (As := []) hd hn hMy hMc hix cw hdd hrt rfl hst k
theorem go_cNi1 {sc : pg_Sc} {d : Nat} {M : MI} {pc pc' : Nat} {lv : pg_Lv} {st : List Value} {g : pg_S} {Q : pg_Q} {idx d' : Nat} {M' : MI} {a1 : Value}  (hd : decode M.2.1 pc = .ok (.invokestatic idx, 3)) (hn : pc + 3 = pc') (hMy : M'.1 = yX6_upTo) (hMc : M.1.cls = RX1) (hix : idx = 18) (cw : pg_CN M.1.cls idx M' 1) (hdd : d' < d) (hrt : pg_isI M'.2.2.2 = true) (hst : (st.map fun v => v.category).sum ≤ 8) (k : pg_Cal sc d' M' [a1] g (pg_ki (fun v g' => pg_Go sc d M pc' lv (.int v :: st) g' Q))) : pg_Go sc d M pc lv (a1 :: st) g Q := go_cNi (As := [a1]) hd hn hMy hMc hix cw hdd hrt rfl hst k
theorem go_cNi2 {sc : pg_Sc} {d : Nat} {M : MI} {pc pc' : Nat} {lv : pg_Lv} {st : List Value} {g : pg_S} {Q : pg_Q} {idx d' : Nat} {M' : MI} {a1 a2 : Value}  (hd : decode M.2.1 pc = .ok (.invokestatic idx, 3)) (hn : pc + 3 = pc') (hMy : M'.1 = yX6_upTo) (hMc : M.1.cls = RX1) (hix : idx = 18) (cw : pg_CN M.1.cls idx M' 2) (hdd : d' < d) (hrt : pg_isI M'.2.2.2 = true) (hst : (st.map fun v => v.category).sum ≤ 8) (k : pg_Cal sc d' M' [a1, a2] g (pg_ki (fun v g' => pg_Go sc d M pc' lv (.int v :: st) g' Q))) : pg_Go sc d M pc lv (a2 :: a1 :: st) g Q := go_cNi (As := [a1, a2]) hd hn hMy hMc hix cw hdd hrt rfl hst k
theorem go_cNi3 {sc : pg_Sc} {d : Nat} {M : MI} {pc pc' : Nat} {lv : pg_Lv} {st : List Value} {g : pg_S} {Q : pg_Q} {idx d' : Nat} {M' : MI} {a1 a2 a3 : Value}  (hd : decode M.2.1 pc = .ok (.invokestatic idx, 3)) (hn : pc + 3 = pc') (hMy : M'.1 = yX6_upTo) (hMc : M.1.cls = RX1) (hix : idx = 18) (cw : pg_CN M.1.cls idx M' 3) (hdd : d' < d) (hrt : pg_isI M'.2.2.2 = true) (hst : (st.map fun v => v.category).sum ≤ 8) (k : pg_Cal sc d' M' [a1, a2, a3] g (pg_ki (fun v g' => pg_Go sc d M pc' lv (.int v :: st) g' Q))) : pg_Go sc d M pc lv (a3 :: a2 :: a1 :: st) g Q := go_cNi (As := [a1, a2, a3]) hd hn hMy hMc hix cw hdd hrt rfl hst k
theorem go_cNi4 {sc : pg_Sc} {d : Nat} {M : MI} {pc pc' : Nat} {lv : pg_Lv} {st : List Value} {g : pg_S} {Q : pg_Q} {idx d' : Nat} {M' : MI} {a1 a2 a3 a4 : Value}  (hd : decode M.2.1 pc = .ok (.invokestatic idx, 3)) (hn : pc + 3 = pc') (hMy : M'.1 = yX6_upTo) (hMc : M.1.cls = RX1) (hix : idx = 18) (cw : pg_CN M.1.cls idx M' 4) (hdd : d' < d) (hrt : pg_isI M'.2.2.2 = true) (hst : (st.map fun v => v.category).sum ≤ 8) (k : pg_Cal sc d' M' [a1, a2, a3, a4] g (pg_ki (fun v g' => pg_Go sc d M pc' lv (.int v :: st) g' Q))) : pg_Go sc d M pc lv (a4 :: a3 :: a2 :: a1 :: st) g Q := go_cNi (As := [a1, a2, a3, a4]) hd hn hMy hMc hix cw hdd hrt rfl hst k
