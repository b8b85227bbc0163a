def remF (x y : Int32) : Int32 := x - x / y * y
def fmF (x y : Int32) : Int32 := if x ^^^ y < 0 ∧ remF x y ≠ 0 then remF x y + y else remF x y
def absF (x : Int32) : Int32 := if 0 ≤ x then x else 0 - x
theorem fm_noRow0 : (NativeRow.find? natives yJ9_floorMod_7cf53.cls yJ9_floorMod_7cf53.name yJ9_floorMod_7cf53.desc).isNone = true := by decide +kernel
theorem fm_noRow (p : Program) : NativeRow.find? p.tables.natives yJ9_floorMod_7cf53.cls yJ9_floorMod_7cf53.name yJ9_floorMod_7cf53.desc = none := by
  cases p <;> exact Option.isNone_iff_eq_none.mp fm_noRow0
def fm_spec (a b : Int32) : Spec where
  pre := .and (.code yJ9_floorMod_7cf53 cJ9_floorMod_7cf53 3 (some .int)) (.and (.count 2) (.and (.eq (.arg 0) (.int a)) (.eq (.arg 1) (.int b))))
  post := .and .returned (.eq .result (.int (fmF a b)))
  changes := some []
set_option maxHeartbeats 4000000 in
theorem fm_meets (l : Launch) (a b : Int32) (hb : ¬ b = 0) : MeetsLoose l yJ9_floorMod_7cf53 (fm_spec a b) := by
  refine MeetsLoose.of_body_ov (code := cJ9_floorMod_7cf53) (maxLocals := 3) (ret := some .int) fm_noRow ?_ ?_
  · intro args s h
    simp only [fm_spec, Cond.before_and, Bool.and_eq_true] at h
    exact h.1
  · intro p e s m args below meth c s₁ B
    have hpre := B.pre
    simp only [fm_spec, Cond.before_and, Bool.and_eq_true] at hpre
    obtain ⟨-, h0, h1, h2⟩ := hpre
    obtain rfl : args = #[.int a, .int b] := by
      obtain ⟨al⟩ := args
      simp only [Cond.before, Cond.holds, Cond.value, Term.eval, List.size_toArray, beq_iff_eq, Option.some.injEq] at h0 h1 h2
      match al, h0 with
      | [x, y], _ =>
        simp at h1 h2
        cases x <;> simp at h1
        cases y <;> simp at h2
        rw [h1, h2]
    have hloc : argsToLocals #[.int a, .int b] 3 = #[.val (.int a), .val (.int b), .unset] := rfl
    have fin : ∀ r : Int32, (∀ fs, Steps p.tables e below (s₁.setTop (entryFrame m #[.int a, .int b] 3)) (s₁.setFrames fs) ∨ handOver s₁ (some (.int r)) below ≠ some fs) →
        (fmF a b = r) →
        ∃ s₂ o, Steps p.tables e below (s₁.setTop (entryFrame m #[.int a, .int b] 3)) s₂ ∧ s₂.status = .running ∧ Ended s₂ below o ∧
          (fm_spec a b).ensures #[.int a, .int b] s o s₂ := by
      intro r hwalk hpost
      obtain ⟨fs, hfs⟩ := handOver_isSome (s := s₁) (some (.int r)) B.hears₁
      refine ⟨s₁.setFrames fs, .returned (some (.int r)), (hwalk fs).resolve_right (fun h => h hfs), B.here.running, B.ended hfs (by intro h; cases h), ?_, State.sameBut_nil.mpr ?_⟩
      · simp [fm_spec, Cond.after, Cond.holds, Cond.value, Term.eval, hpost]
      · rw [State.frames_setFrames _ B.cur₁, B.back]
    by_cases c1 : 0 ≤ a ^^^ b
    · refine fin (a - a / b * b) (fun fs => ?_) (by unfold fmF; rw [if_neg (fun q => absurd c1 (by have q1 := q.1; rw [Int32.le_iff_toInt_le]; rw [Int32.lt_iff_toInt_lt] at q1; omega))]; rfl)
      by_cases hfs : handOver s₁ (some (.int (a - a / b * b))) below = some fs
      · left
        unfold entryFrame; rw [hloc]
        refine Steps.instrAtOv (c := _) (by simpa using B.here) ?_
        simp [jvm, wpRun, exec, B.here.top, B.exec, B.bytes, dJ9_floorMod_7cf53_0]
        refine Steps.instrAtOv (c := _) (by simpa using B.here) ?_
        simp [jvm, wpRun, exec, B.here.top, B.exec, B.bytes, dJ9_floorMod_7cf53_1]
        refine Steps.instrAtOv (c := _) (by simpa using B.here) ?_
        simp [jvm, wpRun, exec, B.here.top, B.exec, B.bytes, dJ9_floorMod_7cf53_2, hb]
        refine Steps.instrAtOv (c := _) (by simpa using B.here) ?_
        simp [jvm, wpRun, exec, B.here.top, B.exec, B.bytes, dJ9_floorMod_7cf53_3]
        refine ⟨#[.val (.int a), .val (.int b), .val (.int (a - a / b * b))], rfl, ?_⟩
        refine Steps.instrAtOv (c := _) (by simpa using B.here) ?_
        simp [jvm, wpRun, exec, B.here.top, B.exec, B.bytes, dJ9_floorMod_7cf53_4]
        refine Steps.instrAtOv (c := _) (by simpa using B.here) ?_
        simp [jvm, wpRun, exec, B.here.top, B.exec, B.bytes, dJ9_floorMod_7cf53_5]
        refine Steps.instrAtOv (c := _) (by simpa using B.here) ?_
        simp [jvm, wpRun, exec, B.here.top, B.exec, B.bytes, dJ9_floorMod_7cf53_6]
        refine Steps.instrAtOv (c := _) (by simpa using B.here) ?_
        simp [jvm, wpRun, exec, B.here.top, B.exec, B.bytes, dJ9_floorMod_7cf53_7, ifCond.holds, c1]
        refine Steps.instrAtOv (c := _) (by simpa using B.here) ?_
        simp [jvm, wpRun, exec, B.here.top, B.exec, B.bytes, dJ9_floorMod_7cf53_18]
        refine Steps.instrAtOv (c := _) (by simpa using B.here) ?_
        simp [jvm, wpRun, exec, B.here.top, B.exec, B.bytes, dJ9_floorMod_7cf53_19, B.method₁, B.returns, narrow]
        intro acts
        rw [ret_to B.frames₁ B.method₁ B.notSynchronized rfl rfl hfs]
        exact Steps.refl _
      · exact Or.inr hfs
    · have c1' : a ^^^ b < 0 := by rw [Int32.lt_iff_toInt_lt]; rw [Int32.le_iff_toInt_le] at c1; omega
      by_cases c2 : remF a b = 0
      · have c2' : a - a / b * b = 0 := c2
        refine fin (0) (fun fs => ?_) (by unfold fmF; rw [if_neg (fun q => q.2 c2)]; exact c2)
        by_cases hfs : handOver s₁ (some (.int (0))) below = some fs
        · left
          unfold entryFrame; rw [hloc]
          refine Steps.instrAtOv (c := _) (by simpa using B.here) ?_
          simp [jvm, wpRun, exec, B.here.top, B.exec, B.bytes, dJ9_floorMod_7cf53_0]
          refine Steps.instrAtOv (c := _) (by simpa using B.here) ?_
          simp [jvm, wpRun, exec, B.here.top, B.exec, B.bytes, dJ9_floorMod_7cf53_1]
          refine Steps.instrAtOv (c := _) (by simpa using B.here) ?_
          simp [jvm, wpRun, exec, B.here.top, B.exec, B.bytes, dJ9_floorMod_7cf53_2, hb]
          refine Steps.instrAtOv (c := _) (by simpa using B.here) ?_
          simp [jvm, wpRun, exec, B.here.top, B.exec, B.bytes, dJ9_floorMod_7cf53_3]
          refine ⟨#[.val (.int a), .val (.int b), .val (.int (a - a / b * b))], rfl, ?_⟩
          refine Steps.instrAtOv (c := _) (by simpa using B.here) ?_
          simp [jvm, wpRun, exec, B.here.top, B.exec, B.bytes, dJ9_floorMod_7cf53_4]
          refine Steps.instrAtOv (c := _) (by simpa using B.here) ?_
          simp [jvm, wpRun, exec, B.here.top, B.exec, B.bytes, dJ9_floorMod_7cf53_5]
          refine Steps.instrAtOv (c := _) (by simpa using B.here) ?_
          simp [jvm, wpRun, exec, B.here.top, B.exec, B.bytes, dJ9_floorMod_7cf53_6]
          refine Steps.instrAtOv (c := _) (by simpa using B.here) ?_
          simp [jvm, wpRun, exec, B.here.top, B.exec, B.bytes, dJ9_floorMod_7cf53_7, ifCond.holds, c1, c2, c2']
          refine Steps.instrAtOv (c := _) (by simpa using B.here) ?_
          simp [jvm, wpRun, exec, B.here.top, B.exec, B.bytes, dJ9_floorMod_7cf53_10]
          refine Steps.instrAtOv (c := _) (by simpa using B.here) ?_
          simp [jvm, wpRun, exec, B.here.top, B.exec, B.bytes, dJ9_floorMod_7cf53_11, ifCond.holds, c1, c2, c2']
          refine Steps.instrAtOv (c := _) (by simpa using B.here) ?_
          simp [jvm, wpRun, exec, B.here.top, B.exec, B.bytes, dJ9_floorMod_7cf53_18]
          refine Steps.instrAtOv (c := _) (by simpa using B.here) ?_
          simp [jvm, wpRun, exec, B.here.top, B.exec, B.bytes, dJ9_floorMod_7cf53_19, B.method₁, B.returns, narrow]
          intro acts
          rw [ret_to B.frames₁ B.method₁ B.notSynchronized rfl rfl hfs]
          exact Steps.refl _
        · exact Or.inr hfs
      · have c2' : ¬ a - a / b * b = 0 := c2
        refine fin (a - a / b * b + b) (fun fs => ?_) (by unfold fmF; rw [if_pos ⟨c1', c2⟩]; rfl)
        by_cases hfs : handOver s₁ (some (.int (a - a / b * b + b))) below = some fs
        · left
          unfold entryFrame; rw [hloc]
          refine Steps.instrAtOv (c := _) (by simpa using B.here) ?_
          simp [jvm, wpRun, exec, B.here.top, B.exec, B.bytes, dJ9_floorMod_7cf53_0]
          refine Steps.instrAtOv (c := _) (by simpa using B.here) ?_
          simp [jvm, wpRun, exec, B.here.top, B.exec, B.bytes, dJ9_floorMod_7cf53_1]
          refine Steps.instrAtOv (c := _) (by simpa using B.here) ?_
          simp [jvm, wpRun, exec, B.here.top, B.exec, B.bytes, dJ9_floorMod_7cf53_2, hb]
          refine Steps.instrAtOv (c := _) (by simpa using B.here) ?_
          simp [jvm, wpRun, exec, B.here.top, B.exec, B.bytes, dJ9_floorMod_7cf53_3]
          refine ⟨#[.val (.int a), .val (.int b), .val (.int (a - a / b * b))], rfl, ?_⟩
          refine Steps.instrAtOv (c := _) (by simpa using B.here) ?_
          simp [jvm, wpRun, exec, B.here.top, B.exec, B.bytes, dJ9_floorMod_7cf53_4]
          refine Steps.instrAtOv (c := _) (by simpa using B.here) ?_
          simp [jvm, wpRun, exec, B.here.top, B.exec, B.bytes, dJ9_floorMod_7cf53_5]
          refine Steps.instrAtOv (c := _) (by simpa using B.here) ?_
          simp [jvm, wpRun, exec, B.here.top, B.exec, B.bytes, dJ9_floorMod_7cf53_6]
          refine Steps.instrAtOv (c := _) (by simpa using B.here) ?_
          simp [jvm, wpRun, exec, B.here.top, B.exec, B.bytes, dJ9_floorMod_7cf53_7, ifCond.holds, c1, c2, c2']
          refine Steps.instrAtOv (c := _) (by simpa using B.here) ?_
          simp [jvm, wpRun, exec, B.here.top, B.exec, B.bytes, dJ9_floorMod_7cf53_10]
          refine Steps.instrAtOv (c := _) (by simpa using B.here) ?_
          simp [jvm, wpRun, exec, B.here.top, B.exec, B.bytes, dJ9_floorMod_7cf53_11, ifCond.holds, c1, c2, c2']
          refine Steps.instrAtOv (c := _) (by simpa using B.here) ?_
          simp [jvm, wpRun, exec, B.here.top, B.exec, B.bytes, dJ9_floorMod_7cf53_14]
          refine Steps.instrAtOv (c := _) (by simpa using B.here) ?_
          simp [jvm, wpRun, exec, B.here.top, B.exec, B.bytes, dJ9_floorMod_7cf53_15]
          refine Steps.instrAtOv (c := _) (by simpa using B.here) ?_
          simp [jvm, wpRun, exec, B.here.top, B.exec, B.bytes, dJ9_floorMod_7cf53_16]
          refine Steps.instrAtOv (c := _) (by simpa using B.here) ?_
          simp [jvm, wpRun, exec, B.here.top, B.exec, B.bytes, dJ9_floorMod_7cf53_17, B.method₁, B.returns, narrow]
          intro acts
          rw [ret_to B.frames₁ B.method₁ B.notSynchronized rfl rfl hfs]
          exact Steps.refl _
        · exact Or.inr hfs
theorem go_mabs {sc : pg_Sc} {d : Nat} {M : MI} {pc pc' : Nat} {lv : pg_Lv} {st : List Value} {g : pg_S} {Q : pg_Q} {idx : Nat} {x : Int32} (hd : decode M.2.1 pc = .ok (.invokestatic idx, 3)) (hn : pc + 3 = pc') (w1 : Cond.methodLink M.1.cls idx Lib.Math.abs.name ∈ pg_tb) (w2 : Cond.static Lib.Math.abs.name ∈ pg_tb) (w3 : Cond.initialized "java/lang/Math" ∈ pg_tb) (w4 : Cond.code Lib.Math.abs.name Lib.Math.abs.code 1 (some .int) ∈ pg_tb) (hdd : 1 ≤ d) (hst : (st.map fun v => v.category).sum ≤ 8) (k : pg_Go sc d M pc' lv (.int (absF x) :: st) g Q) : pg_Go sc d M pc lv (.int x :: st) g Q := by
  subst hn
  intro p l e R s m args below meth c cells slots D cA ad A Z H locs ls cx hP hD hS hl
  exact va_mabs cx.1 cx.2.1 (cx.2.2.1.trans hl.1.symm) cx.2.2.2.1 (cx.2.2.2.2.1 _ w1) (cx.2.2.2.2.1 _ w2) (cx.2.2.2.2.1 _ w3) (cx.2.2.2.2.1 _ w4) (Nat.le_trans hdd cx.2.2.2.2.2.1.1) (Nat.le_trans (by rw [pg_stk]; omega) (Nat.le_trans (Nat.mul_le_mul_left 64 hdd) cx.2.2.2.2.2.1.2.1)) cx.2.2.2.2.2.1.2.2.1 cx.2.2.2.2.2.1.2.2.2 hd (k p l e R s m args below meth c cells slots D cA ad A Z H locs ls cx hP hD hS hl)
theorem go_mmax {sc : pg_Sc} {d : Nat} {M : MI} {pc pc' : Nat} {lv : pg_Lv} {st : List Value} {g : pg_S} {Q : pg_Q} {idx : Nat} {x y : Int32} (hd : decode M.2.1 pc = .ok (.invokestatic idx, 3)) (hn : pc + 3 = pc') (w1 : Cond.methodLink M.1.cls idx Lib.Math.max.name ∈ pg_tb) (w2 : Cond.static Lib.Math.max.name ∈ pg_tb) (w3 : Cond.initialized "java/lang/Math" ∈ pg_tb) (w4 : Cond.code Lib.Math.max.name Lib.Math.max.code 2 (some .int) ∈ pg_tb) (hdd : 1 ≤ d) (hst : (st.map fun v => v.category).sum ≤ 8) (k : pg_Go sc d M pc' lv (.int (if x < y then y else x) :: st) g Q) : pg_Go sc d M pc lv (.int y :: .int x :: st) g Q := by
  subst hn
  intro p l e R s m args below meth c cells slots D cA ad A Z H locs ls cx hP hD hS hl
  exact va_mmax cx.1 cx.2.1 (cx.2.2.1.trans hl.1.symm) cx.2.2.2.1 (cx.2.2.2.2.1 _ w1) (cx.2.2.2.2.1 _ w2) (cx.2.2.2.2.1 _ w3) (cx.2.2.2.2.1 _ w4) (Nat.le_trans hdd cx.2.2.2.2.2.1.1) (Nat.le_trans (by rw [pg_stk]; omega) (Nat.le_trans (Nat.mul_le_mul_left 64 hdd) cx.2.2.2.2.2.1.2.1)) cx.2.2.2.2.2.1.2.2.1 cx.2.2.2.2.2.1.2.2.2 hd (k p l e R s m args below meth c cells slots D cA ad A Z H locs ls cx hP hD hS hl)
theorem go_mmin {sc : pg_Sc} {d : Nat} {M : MI} {pc pc' : Nat} {lv : pg_Lv} {st : List Value} {g : pg_S} {Q : pg_Q} {idx : Nat} {x y : Int32} (hd : decode M.2.1 pc = .ok (.invokestatic idx, 3)) (hn : pc + 3 = pc') (w1 : Cond.methodLink M.1.cls idx Lib.Math.min.name ∈ pg_tb) (w2 : Cond.static Lib.Math.min.name ∈ pg_tb) (w3 : Cond.initialized "java/lang/Math" ∈ pg_tb) (w4 : Cond.code Lib.Math.min.name Lib.Math.min.code 2 (some .int) ∈ pg_tb) (hdd : 1 ≤ d) (hst : (st.map fun v => v.category).sum ≤ 8) (k : pg_Go sc d M pc' lv (.int (if y < x then y else x) :: st) g Q) : pg_Go sc d M pc lv (.int y :: .int x :: st) g Q := by
  subst hn
  intro p l e R s m args below meth c cells slots D cA ad A Z H locs ls cx hP hD hS hl
  exact va_mmin cx.1 cx.2.1 (cx.2.2.1.trans hl.1.symm) cx.2.2.2.1 (cx.2.2.2.2.1 _ w1) (cx.2.2.2.2.1 _ w2) (cx.2.2.2.2.1 _ w3) (cx.2.2.2.2.1 _ w4) (Nat.le_trans hdd cx.2.2.2.2.2.1.1) (Nat.le_trans (by rw [pg_stk]; omega) (Nat.le_trans (Nat.mul_le_mul_left 64 hdd) cx.2.2.2.2.2.1.2.1)) cx.2.2.2.2.2.1.2.2.1 cx.2.2.2.2.2.1.2.2.2 hd (k p l e R s m args below meth c cells slots D cA ad A Z H locs ls cx hP hD hS hl)
theorem go_lmax {sc : pg_Sc} {d : Nat} {M : MI} {pc pc' : Nat} {lv : pg_Lv} {st : List Value} {g : pg_S} {Q : pg_Q} {idx : Nat} {x y : Int64} (hd : decode M.2.1 pc = .ok (.invokestatic idx, 3)) (hn : pc + 3 = pc') (w1 : Cond.methodLink M.1.cls idx Lib.MathLoose.max_long.x ∈ pg_tb) (w2 : Cond.static Lib.MathLoose.max_long.x ∈ pg_tb) (w3 : Cond.initialized "java/lang/Math" ∈ pg_tb) (w4 : Cond.code Lib.MathLoose.max_long.x Lib.MathLoose.max_long.code 4 (some .long) ∈ pg_tb) (hdd : 1 ≤ d) (hst : (st.map fun v => v.category).sum ≤ 8) (k : pg_Go sc d M pc' lv (.long (if y < x then x else y) :: st) g Q) : pg_Go sc d M pc lv (.long y :: .long x :: st) g Q := by
  subst hn
  intro p l e R s m args below meth c cells slots D cA ad A Z H locs ls cx hP hD hS hl
  exact va_mmax_long cx.1 cx.2.1 (cx.2.2.1.trans hl.1.symm) cx.2.2.2.1 (cx.2.2.2.2.1 _ w1) (cx.2.2.2.2.1 _ w2) (cx.2.2.2.2.1 _ w3) (cx.2.2.2.2.1 _ w4) (Nat.le_trans hdd cx.2.2.2.2.2.1.1) (Nat.le_trans (by rw [pg_stk]; omega) (Nat.le_trans (Nat.mul_le_mul_left 64 hdd) cx.2.2.2.2.2.1.2.1)) cx.2.2.2.2.2.1.2.2.1 cx.2.2.2.2.2.1.2.2.2 hd (k p l e R s m args below meth c cells slots D cA ad A Z H locs ls cx hP hD hS hl)
theorem go_fm {sc : pg_Sc} {d : Nat} {M : MI} {pc pc' : Nat} {lv : pg_Lv} {st : List Value} {g : pg_S} {Q : pg_Q} {idx : Nat} {x y : Int32} (hd : decode M.2.1 pc = .ok (.invokestatic idx, 3)) (hn : pc + 3 = pc') (w1 : Cond.methodLink M.1.cls idx yJ9_floorMod_7cf53 ∈ pg_tb) (w2 : Cond.static yJ9_floorMod_7cf53 ∈ pg_tb) (w3 : Cond.initialized "java/lang/Math" ∈ pg_tb) (w4 : Cond.code yJ9_floorMod_7cf53 cJ9_floorMod_7cf53 3 (some .int) ∈ pg_tb) (hdd : 1 ≤ d) (hst : (st.map fun v => v.category).sum ≤ 8) (hy : ¬ y = 0) (k : pg_Go sc d M pc' lv (.int (fmF x y) :: st) g Q) : pg_Go sc d M pc lv (.int y :: .int x :: st) g Q := by
  subst hn
  intro p l e R s m args below meth c cells slots D cA ad A Z H locs ls cx hP hD hS hl
  intro T hT X
  have hst' : ((st.map (pg_tv ad)).map fun v => v.category).sum ≤ 8 := by rw [pg_stk]; exact hst
  obtain ⟨v, vm', X', ⟨first, t, hpost⟩, hstep⟩ := X.staticByContractV cx.1 cx.2.2.2.1 (cx.2.2.2.2.1 _ w1) (cx.2.2.2.2.1 _ w2) (cx.2.2.2.2.1 _ w3) (cx.2.2.2.2.1 _ w4) (by decide +kernel)
    (fm_meets l x y hy)
    rfl rfl rfl rfl
    (fun args' first o s₂ h => by
      simp only [fm_spec, Cond.after_and, Bool.and_eq_true] at h
      cases o with
      | returned r => exact ⟨r, rfl⟩
      | threw y => simp [Cond.after, Cond.holds, Cond.value] at h)
    (g := F0 m pc ls (.int y :: .int x :: st.map (pg_tv ad))) rfl (hl.1.trans cx.2.2.1.symm) (argsL := [.int x, .int y]) (rest := st.map (pg_tv ad))
    (fun sig hs => by
      have h : parseMethodDescriptor "(II)I" = some { parameters := [.int, .int], returnType := some .int } := by decide +kernel
      rw [show yJ9_floorMod_7cf53.desc = "(II)I" from rfl, h] at hs
      rw [← Option.some.inj hs]; rfl)
    rfl (by rw [cx.2.1]; exact hd)
    (fun vm' hW => by
      simp only [fm_spec, Cond.before_and, Bool.and_eq_true]
      refine ⟨?_, rfl, ?_, ?_⟩
      · have q := cx.2.2.2.2.1 _ w4
        rw [← Cond.code_setVm hW.alike] at q
        simp only [Cond.before, Cond.holds, Cond.value, State.methodNamed?, State.vm_setVm] at q ⊢
        exact q
      · simp [Cond.before, Cond.holds, Cond.value, Term.eval]
      · simp [Cond.before, Cond.holds, Cond.value, Term.eval])
    (by show 0 + 1 ≤ R.frames; have := cx.2.2.2.2.2.1.1; omega) (by show 2 * 0 + ((st.map (pg_tv ad)).map fun v => v.category).sum + (3 + 11) + 0 ≤ R.locals; have := cx.2.2.2.2.2.1.2.1; omega) (by show cells + 0 ≤ R.cells; exact cx.2.2.2.2.2.1.2.2.1) (by show slots + 0 ≤ R.slots; exact cx.2.2.2.2.2.1.2.2.2)
  obtain rfl : v = some (.int (fmF x y)) := by
    rcases v with _ | w
    · simp [fm_spec, Cond.after, Cond.holds, Cond.value, Term.eval] at hpost
    · cases w <;> simp [fm_spec, Cond.after, Cond.holds, Cond.value, Term.eval] at hpost
      rw [hpost]
  obtain ⟨t2, a1, b1⟩ := k p l e R s m args below meth c cells slots D cA ad A Z H locs ls cx hP hD hS hl (T.setVm vm') hT X'
  exact ⟨t2, hstep t2 a1, b1⟩
theorem mw_fm1 : Cond.methodLink RX5 65 yJ9_floorMod_7cf53 ∈ pg_tb := in_t2 (List.mem_of_getElem? (i := 221) rfl) rfl
theorem mw_fm2 : Cond.static yJ9_floorMod_7cf53 ∈ pg_tb := in_t2 (List.mem_of_getElem? (i := 222) rfl) rfl
theorem mw_fm4 : Cond.code yJ9_floorMod_7cf53 cJ9_floorMod_7cf53 3 (some .int) ∈ pg_tb := in_t2 (List.mem_of_getElem? (i := 223) rfl) rfl
theorem mw_abs1 : Cond.methodLink RX5 85 Lib.Math.abs.name ∈ pg_tb := in_t2 (List.mem_of_getElem? (i := 233) rfl) rfl
theorem mw_abs2 : Cond.static Lib.Math.abs.name ∈ pg_tb := in_t2 (List.mem_of_getElem? (i := 234) rfl) rfl
theorem mw_abs4 : Cond.code Lib.Math.abs.name Lib.Math.abs.code 1 (some .int) ∈ pg_tb := in_t2 (List.mem_of_getElem? (i := 235) rfl) rfl
theorem mw_lmax1 : Cond.methodLink RX6 327 Lib.MathLoose.max_long.x ∈ pg_tb := in_t3 (List.mem_of_getElem? (i := 145) rfl) rfl
theorem mw_lmax2 : Cond.static Lib.MathLoose.max_long.x ∈ pg_tb := in_t3 (List.mem_of_getElem? (i := 146) rfl) rfl
theorem mw_lmax4 : Cond.code Lib.MathLoose.max_long.x Lib.MathLoose.max_long.code 4 (some .long) ∈ pg_tb := in_t3 (List.mem_of_getElem? (i := 147) rfl) rfl
theorem mw_min1 : Cond.methodLink RX6 251 Lib.Math.min.name ∈ pg_tb := in_t3 (List.mem_of_getElem? (i := 185) rfl) rfl
theorem mw_min2 : Cond.static Lib.Math.min.name ∈ pg_tb := in_t3 (List.mem_of_getElem? (i := 186) rfl) rfl
theorem mw_min4 : Cond.code Lib.Math.min.name Lib.Math.min.code 2 (some .int) ∈ pg_tb := in_t3 (List.mem_of_getElem? (i := 187) rfl) rfl
theorem mw_max1 : Cond.methodLink RX6 256 Lib.Math.max.name ∈ pg_tb := in_t3 (List.mem_of_getElem? (i := 188) rfl) rfl
theorem mw_max2 : Cond.static Lib.Math.max.name ∈ pg_tb := in_t3 (List.mem_of_getElem? (i := 189) rfl) rfl
theorem mw_max4 : Cond.code Lib.Math.max.name Lib.Math.max.code 2 (some .int) ∈ pg_tb := in_t3 (List.mem_of_getElem? (i := 190) rfl) rfl
theorem mw_ini : Cond.initialized "java/lang/Math" ∈ pg_tb := in_t1 (List.mem_of_getElem? (i := 14) rfl) rfl
