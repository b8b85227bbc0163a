abbrev AS : Type := Nat × (Nat → Int32) × Int32
def noteF (b : Int32) (s : AS) : AS := if s.1 < 30 then (s.1 + 1, upd s.2.1 s.1 b, s.2.2) else s
def partF (s : AS) : AS := (s.1, s.2.1, 1)
theorem noteF_y {b : Int32} {s : AS} (h : s.1 < 30) : noteF b s = (s.1 + 1, upd s.2.1 s.1 b, s.2.2) := if_pos h
theorem noteF_n {b : Int32} {s : AS} (h : ¬ s.1 < 30) : noteF b s = s := if_neg h
theorem note_pt (b : Int32) (s : AS) : (noteF b s).2.2 = s.2.2 := by unfold noteF; split <;> rfl
def phF (nu x : Int32) (s : AS) : Int32 × AS := (x * 7 - nu, noteF 10 s)
def bhF (nu x : Int32) (s : AS) : Int32 × AS := (-(phF nu x (noteF 30 s)).1, (phF nu x (noteF 30 s)).2)
def hkF (kd : Nat) (nu x : Int32) (s : AS) : Int32 × AS := if kd = 2 then bhF nu x s else if kd = 4 then ((bhF nu x (noteF 40 s)).1 ^^^ 8, (bhF nu x (noteF 40 s)).2) else if kd = 3 then ((phF nu x (noteF 51 s)).1 + 1, (phF nu x (noteF 51 s)).2) else phF nu x s
def hgF (kd : Nat) (nu x : Int32) (s : AS) : Int32 × AS := if s.2.2 = 0 then hkF kd nu x s else (0, s)
def plF (kd : Nat) (nu pg x : Int32) (s : AS) : Int32 × AS := ((hkF kd nu x (noteF 11 s)).1 + pg, (hkF kd nu x (noteF 11 s)).2)
def lnF (kd : Nat) (nu pg x : Int32) (s : AS) : Int32 × AS := if kd = 1 ∨ kd = 3 then ((plF kd nu pg x (noteF 20 s)).1 - 3, (plF kd nu pg x (noteF 20 s)).2) else if kd = 4 then ((plF kd nu pg x (noteF 41 s)).1 + (hkF kd nu pg (plF kd nu pg x (noteF 41 s)).2).1, (hkF kd nu pg (plF kd nu pg x (noteF 41 s)).2).2) else plF kd nu pg x s
def ppF (nu pg x : Int32) (s : AS) : Int32 × AS := if pg = nu then (0, partF (noteF 12 s)) else (x / (pg - nu), noteF 12 s)
def ptF (kd : Nat) (nu pg x : Int32) (s : AS) : Int32 × AS := if kd = 3 then ((ppF nu pg (x - nu) (noteF 50 s)).1 * 3, (ppF nu pg (x - nu) (noteF 50 s)).2) else if kd = 5 then ((ppF nu pg x (noteF 61 s)).1 - (hgF kd nu nu (ppF nu pg x (noteF 61 s)).2).1, (hgF kd nu nu (ppF nu pg x (noteF 61 s)).2).2) else ppF nu pg x s
def pcF (kd : Nat) (nu pg x : Int32) (s : AS) : Int32 × AS := ((lnF kd nu pg x (noteF 13 s)).1 ^^^ 50, (lnF kd nu pg x (noteF 13 s)).2)
def clF2 (kd : Nat) (nu pg x : Int32) (s : AS) : Int32 × AS := if kd = 2 ∨ kd = 4 then ((pcF kd nu pg x (noteF 31 s)).1 - (ptF kd nu pg nu (pcF kd nu pg x (noteF 31 s)).2).1, (ptF kd nu pg nu (pcF kd nu pg x (noteF 31 s)).2).2) else if kd = 5 then ((pcF kd nu pg x (noteF 60 s)).1 * 2, (pcF kd nu pg x (noteF 60 s)).2) else pcF kd nu pg x s
theorem ph_pt (nu x : Int32) (s : AS) : (phF nu x s).2.2.2 = s.2.2 := note_pt 10 s
theorem bh_pt (nu x : Int32) (s : AS) : (bhF nu x s).2.2.2 = s.2.2 := (ph_pt nu x _).trans (note_pt 30 s)
theorem hk_pt (kd : Nat) (nu x : Int32) (s : AS) : (hkF kd nu x s).2.2.2 = s.2.2 := by
  unfold hkF
  split
  · exact bh_pt nu x s
  · split
    · exact (bh_pt nu x _).trans (note_pt 40 s)
    · split
      · exact (ph_pt nu x _).trans (note_pt 51 s)
      · exact ph_pt nu x s
theorem pl_pt (kd : Nat) (nu pg x : Int32) (s : AS) : (plF kd nu pg x s).2.2.2 = s.2.2 := (hk_pt kd nu x _).trans (note_pt 11 s)
theorem ln_pt (kd : Nat) (nu pg x : Int32) (s : AS) : (lnF kd nu pg x s).2.2.2 = s.2.2 := by
  unfold lnF
  split
  · exact (pl_pt kd nu pg x _).trans (note_pt 20 s)
  · split
    · exact (hk_pt kd nu pg _).trans ((pl_pt kd nu pg x _).trans (note_pt 41 s))
    · exact pl_pt kd nu pg x s
theorem pc_pt (kd : Nat) (nu pg x : Int32) (s : AS) : (pcF kd nu pg x s).2.2.2 = s.2.2 := (ln_pt kd nu pg x _).trans (note_pt 13 s)
theorem pp_01 {nu pg x : Int32} {s : AS} (h : s.2.2 = 0) : (ppF nu pg x s).2.2.2 = 0 ∨ (ppF nu pg x s).2.2.2 = 1 := by
  unfold ppF
  split
  · exact Or.inr rfl
  · exact Or.inl ((note_pt 12 s).trans h)
theorem pp_0 {nu pg x : Int32} {s : AS} (h : s.2.2 = 0) (h2 : ¬ (ppF nu pg x s).2.2.2 = 0) : (ppF nu pg x s).1 = 0 := by
  unfold ppF at h2 ⊢
  by_cases e : pg = nu
  · rw [if_pos e]
  · rw [if_neg e] at h2
    exact absurd ((note_pt 12 s).trans h) h2
theorem sub0 {a b : Int32} : a - b = 0 ↔ a = b := ⟨fun h => by rw [← Int32.sub_add_cancel a b, h, Int32.zero_add], fun h => by rw [h, Int32.sub_self]⟩
def CA (g : pg_S) (kd : Nat) (nu pg : Int32) (s : AS) : Prop := s.1 ≤ 30 ∧ g.1 42 1 = nI s.1 ∧ g.1 42 2 = nI kd ∧ g.1 42 3 = nu ∧ g.1 42 4 = pg ∧ g.1 42 5 = s.2.2 ∧ ∀ j, j < s.1 → g.1 43 j = s.2.1 j
def MA (g : pg_S) (kd : Nat) (nu pg : Int32) (s : AS) : Prop := s.1 ≤ 30 ∧ g.1 59 27 = nI s.1 ∧ g.1 59 23 = nI kd ∧ g.1 59 24 = nu ∧ g.1 59 25 = pg ∧ g.1 59 28 = s.2.2 ∧ ∀ j, j < s.1 → g.1 74 j = s.2.1 j
def FA (g g' : pg_S) : Prop := (∀ a, a ≠ 59 → a ≠ 74 → g'.1 a = g.1 a) ∧ (∀ j, j < 23 → g'.1 59 j = g.1 59 j) ∧ g'.2 = g.2
theorem FA.rf {g : pg_S} : FA g g := ⟨fun _ _ _ => rfl, fun _ _ => rfl, rfl⟩
theorem FA.tr {g g' g'' : pg_S} (h : FA g g') (h' : FA g' g'') : FA g g'' := ⟨fun a q r => (h'.1 a q r).trans (h.1 a q r), fun j q => (h'.2.1 j q).trans (h.2.1 j q), h'.2.2.trans h.2.2⟩
theorem FA.ui {g : pg_S} {j : Nat} {v : Int32} (h : 23 ≤ j) : FA g (pg_ui g.1 59 j v, g.2) := ⟨fun a q _ => pg_ui_ne g.1 59 j v a q, fun i hi => by
  show pg_ui g.1 59 j v 59 i = _
  rw [pg_ui_at, if_neg (by omega)], rfl⟩
theorem FA.tc {g : pg_S} {j : Nat} {v : Int32} : FA g (pg_ui g.1 74 j v, g.2) := ⟨fun a _ q => pg_ui_ne g.1 74 j v a q, fun i hi => by
  show pg_ui g.1 74 j v 59 i = _
  rw [pg_ui_at, if_neg (by omega)], rfl⟩
theorem MR.fa {g g' : pg_S} {T : TW} {n : Nat} (h : MR g 60 T n) (f : FA g g') : MR g' 60 T n := by
  have e := f.1 60 (by decide) (by decide)
  unfold MR at h ⊢
  rw [e]
  exact h
theorem MS.fa {g g' : pg_S} {s : Nat} {h0 a b : Int32} (h : MS g s h0 a b) (f : FA g g') : MS g' s h0 a b := by
  unfold MS at h ⊢
  rw [f.1 71 (by decide) (by decide), f.1 72 (by decide) (by decide), f.1 73 (by decide) (by decide)]
  exact h
theorem CS.fr {g g' : pg_S} {s lo hi : Nat} {h0 a b : Int32} (h : CS g s h0 a b) (f : FR lo hi g g') (hd : 54 + s < lo ∨ hi ≤ 54 + s) : CS g' s h0 a b := by
  unfold CS at h ⊢
  rw [f.1 (54 + s) hd]
  exact h
theorem ca_note {g : pg_S} {kd : Nat} {nu pg b : Int32} {s : AS} (h : CA g kd nu pg s) (hr : s.1 < 30) : CA (pg_ui (pg_ui g.1 43 s.1 b) 42 1 (nI (s.1 + 1)), g.2) kd nu pg (noteF b s) := by
  rw [noteF_y hr]
  obtain ⟨h1, h2, h3, h4, h5, h6, h7⟩ := h
  refine ⟨by show s.1 + 1 ≤ 30; omega, ?_, ?_, ?_, ?_, ?_, fun j hj => ?_⟩
  · simp [pg_ui_at]
  · simpa [pg_ui_at] using h3
  · simpa [pg_ui_at] using h4
  · simpa [pg_ui_at] using h5
  · simpa [pg_ui_at] using h6
  · show pg_ui (pg_ui g.1 43 s.1 b) 42 1 (nI (s.1 + 1)) 43 j = upd s.2.1 s.1 b j
    have hj : j < s.1 + 1 := hj
    rw [pg_ui_at, if_neg (by omega), pg_ui_at]
    unfold upd
    by_cases e : j = s.1
    · rw [if_pos ⟨rfl, e⟩, if_pos e]
    · rw [if_neg (fun q => e q.2), if_neg e]; exact h7 j (by omega)
theorem ma_note {g : pg_S} {kd : Nat} {nu pg b : Int32} {s : AS} (h : MA g kd nu pg s) (hr : s.1 < 30) : MA (pg_ui (pg_ui g.1 74 s.1 b) 59 27 (nI (s.1 + 1)), g.2) kd nu pg (noteF b s) := by
  rw [noteF_y hr]
  obtain ⟨h1, h2, h3, h4, h5, h6, h7⟩ := h
  refine ⟨by show s.1 + 1 ≤ 30; omega, ?_, ?_, ?_, ?_, ?_, fun j hj => ?_⟩
  · simp [pg_ui_at]
  · simpa [pg_ui_at] using h3
  · simpa [pg_ui_at] using h4
  · simpa [pg_ui_at] using h5
  · simpa [pg_ui_at] using h6
  · show pg_ui (pg_ui g.1 74 s.1 b) 59 27 (nI (s.1 + 1)) 74 j = upd s.2.1 s.1 b j
    have hj : j < s.1 + 1 := hj
    rw [pg_ui_at, if_neg (by omega), pg_ui_at]
    unfold upd
    by_cases e : j = s.1
    · rw [if_pos ⟨rfl, e⟩, if_pos e]
    · rw [if_neg (fun q => e q.2), if_neg e]; exact h7 j (by omega)
theorem ca_part {g : pg_S} {kd : Nat} {nu pg : Int32} {s : AS} (h : CA g kd nu pg s) : CA (pg_ui g.1 42 5 1, g.2) kd nu pg (partF s) := by
  obtain ⟨h1, h2, h3, h4, h5, h6, h7⟩ := h
  refine ⟨h1, ?_, ?_, ?_, ?_, ?_, fun j hj => ?_⟩
  · simpa [pg_ui_at, partF] using h2
  · simpa [pg_ui_at] using h3
  · simpa [pg_ui_at] using h4
  · simpa [pg_ui_at] using h5
  · simp [pg_ui_at, partF]
  · show pg_ui g.1 42 5 1 43 j = _
    rw [pg_ui_at, if_neg (by omega)]; exact h7 j hj
theorem ma_part {g : pg_S} {kd : Nat} {nu pg : Int32} {s : AS} (h : MA g kd nu pg s) : MA (pg_ui g.1 59 28 1, g.2) kd nu pg (partF s) := by
  obtain ⟨h1, h2, h3, h4, h5, h6, h7⟩ := h
  refine ⟨h1, ?_, ?_, ?_, ?_, ?_, fun j hj => ?_⟩
  · simpa [pg_ui_at, partF] using h2
  · simpa [pg_ui_at] using h3
  · simpa [pg_ui_at] using h4
  · simpa [pg_ui_at] using h5
  · simp [pg_ui_at, partF]
  · show pg_ui g.1 59 28 1 74 j = _
    rw [pg_ui_at, if_neg (by omega)]; exact h7 j hj
set_option maxHeartbeats 4000000 in
set_option maxRecDepth 20000 in
theorem tX0_note {sc : pg_Sc} {g : pg_S} {K : pg_S → Prop} {kd : Nat} {nu pg b : Int32} {s : AS} (h : CA g kd nu pg s) (k : ∀ g', CA g' kd nu pg (noteF b s) → FR 42 44 g g' → K g') : pg_Cal sc 1 mX0_note [.ref 42, .int b] g (pg_kv K) := by
  refine pg_Cal.of rfl (Nat.le_of_ble_eq_true rfl) rfl ?_
  have h30 := h.1
  refine go_aload_n (pc' := 1) dX0_note_0 rfl rfl ?_
  refine go_getI (pc' := 4) dX0_note_1 rfl flRX0_15 rfl rfl ?_
  rw [h.2.1]
  refine go_bipush (pc' := 6) 30 dX0_note_4 rfl (by decide) ?_
  refine go_icmp_ge (pc' := 9) (tgt := 29) dX0_note_6 rfl (by decide) (fun h_6 => ?_) (fun h_6 => ?_)
  · refine go_vret dX0_note_29 rfl ?_
    have hr : ¬ s.1 < 30 := by have := (nI_leI (a := 30) (by decide) (by omega)).mp h_6; omega
    rw [noteF_n hr] at k
    exact k _ h FR.rf
  · have hr : s.1 < 30 := by
      rcases Nat.lt_or_ge s.1 30 with e | e
      · exact e
      · exact absurd (nI_le (a := 30) e (by omega)) h_6
    refine go_aload_n (pc' := 10) dX0_note_9 rfl rfl ?_
    refine go_getR (pc' := 13) dX0_note_10 rfl flRX0_11 rfl rfl ?_
    refine go_aload_n (pc' := 14) dX0_note_13 rfl rfl ?_
    refine go_getI (pc' := 17) dX0_note_14 rfl flRX0_15 rfl rfl ?_
    rw [h.2.1]
    refine go_iload_n (pc' := 18) dX0_note_17 rfl rfl ?_
    refine go_iast (pc' := 19) s.1 dX0_note_18 rfl rfl rfl hr (by decide) ?_
    refine go_gen (fun g1 e1 => ?_)
    refine go_aload_n (pc' := 20) dX0_note_19 rfl rfl ?_
    refine go_dup (pc' := 21) dX0_note_20 rfl rfl ?_
    refine go_getI (pc' := 24) dX0_note_21 rfl flRX0_15 rfl rfl ?_
    rw [show g1.1 42 1 = nI s.1 by rw [e1]; exact (rd_ui (by omega)).trans h.2.1]
    refine go_iconst (pc' := 25) 1 dX0_note_24 rfl (by decide) ?_
    refine go_iadd (pc' := 26) dX0_note_25 rfl ?_
    rw [nI_1]
    refine go_putI (pc' := 29) dX0_note_26 rfl flRX0_15 rfl rfl ft0_1 ?_
    refine go_vret dX0_note_29 rfl ?_
    subst e1
    exact k _ (ca_note h hr) (FR.tr (FR.ui (by decide)) (FR.ui (by decide)))

set_option maxHeartbeats 4000000 in
set_option maxRecDepth 20000 in
theorem tX7_ran {sc : pg_Sc} {g : pg_S} {K : pg_S → Prop} {kd : Nat} {nu pg b : Int32} {s : AS} (h : MA g kd nu pg s) (k : ∀ g', MA g' kd nu pg (noteF b s) → FA g g' → K g') : pg_Cal sc 1 mX7_ran [.ref 59, .int b] g (pg_kv K) := by
  refine pg_Cal.of rfl (Nat.le_of_ble_eq_true rfl) rfl ?_
  have h30 := h.1
  refine go_aload_n (pc' := 1) dX7_ran_0 rfl rfl ?_
  refine go_getI (pc' := 4) dX7_ran_1 rfl flRX7_331 rfl rfl ?_
  rw [h.2.1]
  refine go_bipush (pc' := 6) 30 dX7_ran_4 rfl (by decide) ?_
  refine go_icmp_ge (pc' := 9) (tgt := 29) dX7_ran_6 rfl (by decide) (fun h_6 => ?_) (fun h_6 => ?_)
  · refine go_vret dX7_ran_29 rfl ?_
    have hr : ¬ s.1 < 30 := by have := (nI_leI (a := 30) (by decide) (by omega)).mp h_6; omega
    rw [noteF_n hr] at k
    exact k _ h FA.rf
  · have hr : s.1 < 30 := by
      rcases Nat.lt_or_ge s.1 30 with e | e
      · exact e
      · exact absurd (nI_le (a := 30) e (by omega)) h_6
    refine go_aload_n (pc' := 10) dX7_ran_9 rfl rfl ?_
    refine go_getR (pc' := 13) dX7_ran_10 rfl flRX7_53 rfl rfl ?_
    refine go_aload_n (pc' := 14) dX7_ran_13 rfl rfl ?_
    refine go_getI (pc' := 17) dX7_ran_14 rfl flRX7_331 rfl rfl ?_
    rw [h.2.1]
    refine go_iload_n (pc' := 18) dX7_ran_17 rfl rfl ?_
    refine go_iast (pc' := 19) s.1 dX7_ran_18 rfl rfl rfl hr (by decide) ?_
    refine go_gen (fun g1 e1 => ?_)
    refine go_aload_n (pc' := 20) dX7_ran_19 rfl rfl ?_
    refine go_dup (pc' := 21) dX7_ran_20 rfl rfl ?_
    refine go_getI (pc' := 24) dX7_ran_21 rfl flRX7_331 rfl rfl ?_
    rw [show g1.1 59 27 = nI s.1 by rw [e1]; exact (rd_ui (by omega)).trans h.2.1]
    refine go_iconst (pc' := 25) 1 dX7_ran_24 rfl (by decide) ?_
    refine go_iadd (pc' := 26) dX7_ran_25 rfl ?_
    rw [nI_1]
    refine go_putI (pc' := 29) dX7_ran_26 rfl flRX7_331 rfl rfl ft7_27 ?_
    refine go_vret dX7_ran_29 rfl ?_
    subst e1
    exact k _ (ma_note h hr) (FA.tr FA.tc (FA.ui (by decide)))

set_option maxHeartbeats 4000000 in
set_option maxRecDepth 20000 in
theorem tX0_quotient {sc : pg_Sc} {g : pg_S} {K : Int32 → pg_S → Prop} {kd : Nat} {nu pg x y : Int32} {s : AS} (h : CA g kd nu pg s) (k1 : y = 0 → ∀ g', CA g' kd nu pg (partF s) → FR 42 44 g g' → K 0 g') (k : ¬ y = 0 → K (x / y) g) : pg_Cal sc 1 mX0_quotient [.ref 42, .int x, .int y] g (pg_ki K) := by
  refine pg_Cal.of rfl (Nat.le_of_ble_eq_true rfl) rfl ?_
  refine go_iload_n (pc' := 1) dX0_quotient_0 rfl rfl ?_
  refine go_if_ne (pc' := 4) (tgt := 11) dX0_quotient_1 rfl (by decide) (fun h_1 => ?_) (fun h_1 => ?_)
  · refine go_iload_n (pc' := 12) dX0_quotient_11 rfl rfl ?_
    refine go_iload_n (pc' := 13) dX0_quotient_12 rfl rfl ?_
    refine go_idiv (pc' := 14) dX0_quotient_13 rfl h_1 ?_
    refine go_iret dX0_quotient_14 (pg_narI _) ?_
    exact k h_1
  · refine go_aload_n (pc' := 5) dX0_quotient_4 rfl rfl ?_
    refine go_iconst (pc' := 6) 1 dX0_quotient_5 rfl (by decide) ?_
    refine go_putZ (pc' := 9) (by decide) dX0_quotient_6 rfl flRX0_28 rfl rfl ft0_5 ?_
    refine go_iconst (pc' := 10) 0 dX0_quotient_9 rfl (by decide) ?_
    refine go_iret dX0_quotient_10 (pg_narI _) ?_
    exact k1 h_1 _ (ca_part h) (FR.ui (by decide))

set_option maxHeartbeats 4000000 in
set_option maxRecDepth 20000 in
theorem rn_10 {sc : pg_Sc} {g : pg_S} {K : Int32 → pg_S → Prop} {kd : Nat} {nu pg x : Int32} {s : AS} {e : Nat} (h : CA g kd nu pg s) (h0 : s.2.2 = 0) (he : e + 2 ≤ 40) (k : ∀ g', CA g' kd nu pg (phF nu x s).2 → FR 42 44 g g' → K (phF nu x s).1 g') : pg_Cal sc 2 mX0_run [.ref 42, .int 10, .int x, .int (nI e)] g (pg_ki K) := by
  refine pg_Cal.of rfl (Nat.le_of_ble_eq_true rfl) rfl ?_
  refine go_aload_n (pc' := 1) dX0_run_0 rfl rfl ?_
  refine go_getI (pc' := 4) dX0_run_1 rfl flRX0_28 rfl rfl ?_
  rw [h.2.2.2.2.2.1, h0]
  refine go_if_ne (pc' := 7) (tgt := 13) dX0_run_4 rfl (by decide) (fun h_4 => absurd h_4 (by decide)) (fun h_4 => ?_)
  refine go_iload_n (pc' := 8) dX0_run_7 rfl rfl ?_
  refine go_bipush (pc' := 10) 40 dX0_run_8 rfl (by decide) ?_
  refine go_icmp_le (pc' := 13) (tgt := 15) dX0_run_10 rfl (by decide) (fun h_10 => ?_) (fun h_10 => absurd (nI_le (b := 40) (by omega) (by decide)) h_10)
  refine go_aload_n (pc' := 16) dX0_run_15 rfl rfl ?_
  refine go_iload_n (pc' := 17) dX0_run_16 rfl rfl ?_
  refine go_cVv1 (pc' := 20) (M' := mX0_note) (d' := 1) dX0_run_17 rfl cvRX0_42 rfl rfl (by decide) rfl (Nat.le_of_ble_eq_true rfl) ?_
  refine tX0_note h (fun g1 h1 f1 => ?_)
  have h01 := (note_pt 10 s).trans h0
  refine go_iload_n (pc' := 21) dX0_run_20 rfl rfl ?_
  refine go_iconst (pc' := 22) 1 dX0_run_21 rfl (by decide) ?_
  refine go_iadd (pc' := 23) dX0_run_22 rfl ?_
  rw [nI_1]
  refine go_istore (pc' := 25) dX0_run_23 rfl (by decide) rfl ?_
  refine go_iload_n (pc' := 26) dX0_run_25 rfl rfl ?_
  refine go_tableIn (pc' := 248) dX0_run_26 (by decide) (by decide) (by rfl) (by decide) ?_
  refine go_iload_n (pc' := 249) dX0_run_248 rfl rfl ?_
  refine go_bipush (pc' := 251) 7 dX0_run_249 rfl (by decide) ?_
  refine go_imul (pc' := 252) dX0_run_251 rfl ?_
  refine go_aload_n (pc' := 253) dX0_run_252 rfl rfl ?_
  refine go_getI (pc' := 256) dX0_run_253 rfl flRX0_22 rfl rfl ?_
  rw [h1.2.2.2.1]
  refine go_isub (pc' := 257) dX0_run_256 rfl ?_
  refine go_iret dX0_run_257 (pg_narI _) ?_
  exact k _ h1 f1

set_option maxHeartbeats 4000000 in
set_option maxRecDepth 20000 in
theorem rn_30 {sc : pg_Sc} {g : pg_S} {K : Int32 → pg_S → Prop} {kd : Nat} {nu pg x : Int32} {s : AS} {e : Nat} (h : CA g kd nu pg s) (h0 : s.2.2 = 0) (he : e + 3 ≤ 40) (k : ∀ g', CA g' kd nu pg (bhF nu x s).2 → FR 42 44 g g' → K (bhF nu x s).1 g') : pg_Cal sc 3 mX0_run [.ref 42, .int 30, .int x, .int (nI e)] g (pg_ki K) := by
  refine pg_Cal.of rfl (Nat.le_of_ble_eq_true rfl) rfl ?_
  refine go_aload_n (pc' := 1) dX0_run_0 rfl rfl ?_
  refine go_getI (pc' := 4) dX0_run_1 rfl flRX0_28 rfl rfl ?_
  rw [h.2.2.2.2.2.1, h0]
  refine go_if_ne (pc' := 7) (tgt := 13) dX0_run_4 rfl (by decide) (fun h_4 => absurd h_4 (by decide)) (fun h_4 => ?_)
  refine go_iload_n (pc' := 8) dX0_run_7 rfl rfl ?_
  refine go_bipush (pc' := 10) 40 dX0_run_8 rfl (by decide) ?_
  refine go_icmp_le (pc' := 13) (tgt := 15) dX0_run_10 rfl (by decide) (fun h_10 => ?_) (fun h_10 => absurd (nI_le (b := 40) (by omega) (by decide)) h_10)
  refine go_aload_n (pc' := 16) dX0_run_15 rfl rfl ?_
  refine go_iload_n (pc' := 17) dX0_run_16 rfl rfl ?_
  refine go_cVv1 (pc' := 20) (M' := mX0_note) (d' := 1) dX0_run_17 rfl cvRX0_42 rfl rfl (by decide) rfl (Nat.le_of_ble_eq_true rfl) ?_
  refine tX0_note h (fun g1 h1 f1 => ?_)
  have h01 := (note_pt 30 s).trans h0
  refine go_iload_n (pc' := 21) dX0_run_20 rfl rfl ?_
  refine go_iconst (pc' := 22) 1 dX0_run_21 rfl (by decide) ?_
  refine go_iadd (pc' := 23) dX0_run_22 rfl ?_
  rw [nI_1]
  refine go_istore (pc' := 25) dX0_run_23 rfl (by decide) rfl ?_
  refine go_iload_n (pc' := 26) dX0_run_25 rfl rfl ?_
  refine go_tableIn (pc' := 311) dX0_run_26 (by decide) (by decide) (by rfl) (by decide) ?_
  refine go_iconst (pc' := 312) 0 dX0_run_311 rfl (by decide) ?_
  refine go_aload_n (pc' := 313) dX0_run_312 rfl rfl ?_
  refine go_bipush (pc' := 315) 10 dX0_run_313 rfl (by decide) ?_
  refine go_iload_n (pc' := 316) dX0_run_315 rfl rfl ?_
  refine go_iload (pc' := 318) dX0_run_316 rfl rfl ?_
  refine go_cVi3 (pc' := 321) (M' := mX0_run) (d' := 2) dX0_run_318 rfl cvRX0_39 rfl rfl (by decide) rfl (Nat.le_of_ble_eq_true rfl) ?_
  refine rn_10 h1 h01 (by omega) (fun g2 h2 f2 => ?_)
  refine go_isub (pc' := 322) dX0_run_321 rfl ?_
  refine go_iret dX0_run_322 (pg_narI _) ?_
  rw [Int32.zero_sub]
  exact k _ h2 (FR.tr f1 f2)

set_option maxHeartbeats 4000000 in
set_option maxRecDepth 20000 in
theorem rn_40 {sc : pg_Sc} {g : pg_S} {K : Int32 → pg_S → Prop} {kd : Nat} {nu pg x : Int32} {s : AS} {e : Nat} (h : CA g kd nu pg s) (h0 : s.2.2 = 0) (he : e + 4 ≤ 40) (k : ∀ g', CA g' kd nu pg ((((bhF nu x (noteF 40 s)).1 ^^^ 8, (bhF nu x (noteF 40 s)).2) : Int32 × AS)).2 → FR 42 44 g g' → K ((((bhF nu x (noteF 40 s)).1 ^^^ 8, (bhF nu x (noteF 40 s)).2) : Int32 × AS)).1 g') : pg_Cal sc 4 mX0_run [.ref 42, .int 40, .int x, .int (nI e)] g (pg_ki K) := by
  refine pg_Cal.of rfl (Nat.le_of_ble_eq_true rfl) rfl ?_
  refine go_aload_n (pc' := 1) dX0_run_0 rfl rfl ?_
  refine go_getI (pc' := 4) dX0_run_1 rfl flRX0_28 rfl rfl ?_
  rw [h.2.2.2.2.2.1, h0]
  refine go_if_ne (pc' := 7) (tgt := 13) dX0_run_4 rfl (by decide) (fun h_4 => absurd h_4 (by decide)) (fun h_4 => ?_)
  refine go_iload_n (pc' := 8) dX0_run_7 rfl rfl ?_
  refine go_bipush (pc' := 10) 40 dX0_run_8 rfl (by decide) ?_
  refine go_icmp_le (pc' := 13) (tgt := 15) dX0_run_10 rfl (by decide) (fun h_10 => ?_) (fun h_10 => absurd (nI_le (b := 40) (by omega) (by decide)) h_10)
  refine go_aload_n (pc' := 16) dX0_run_15 rfl rfl ?_
  refine go_iload_n (pc' := 17) dX0_run_16 rfl rfl ?_
  refine go_cVv1 (pc' := 20) (M' := mX0_note) (d' := 1) dX0_run_17 rfl cvRX0_42 rfl rfl (by decide) rfl (Nat.le_of_ble_eq_true rfl) ?_
  refine tX0_note h (fun g1 h1 f1 => ?_)
  have h01 := (note_pt 40 s).trans h0
  refine go_iload_n (pc' := 21) dX0_run_20 rfl rfl ?_
  refine go_iconst (pc' := 22) 1 dX0_run_21 rfl (by decide) ?_
  refine go_iadd (pc' := 23) dX0_run_22 rfl ?_
  rw [nI_1]
  refine go_istore (pc' := 25) dX0_run_23 rfl (by decide) rfl ?_
  refine go_iload_n (pc' := 26) dX0_run_25 rfl rfl ?_
  refine go_tableIn (pc' := 345) dX0_run_26 (by decide) (by decide) (by rfl) (by decide) ?_
  refine go_aload_n (pc' := 346) dX0_run_345 rfl rfl ?_
  refine go_bipush (pc' := 348) 30 dX0_run_346 rfl (by decide) ?_
  refine go_iload_n (pc' := 349) dX0_run_348 rfl rfl ?_
  refine go_iload (pc' := 351) dX0_run_349 rfl rfl ?_
  refine go_cVi3 (pc' := 354) (M' := mX0_run) (d' := 3) dX0_run_351 rfl cvRX0_39 rfl rfl (by decide) rfl (Nat.le_of_ble_eq_true rfl) ?_
  refine rn_30 h1 h01 (by omega) (fun g2 h2 f2 => ?_)
  refine go_bipush (pc' := 356) 8 dX0_run_354 rfl (by decide) ?_
  refine go_ixor (pc' := 357) dX0_run_356 rfl ?_
  refine go_iret dX0_run_357 (pg_narI _) ?_
  exact k _ h2 (FR.tr f1 f2)

set_option maxHeartbeats 4000000 in
set_option maxRecDepth 20000 in
theorem rn_51 {sc : pg_Sc} {g : pg_S} {K : Int32 → pg_S → Prop} {kd : Nat} {nu pg x : Int32} {s : AS} {e : Nat} (h : CA g kd nu pg s) (h0 : s.2.2 = 0) (he : e + 3 ≤ 40) (k : ∀ g', CA g' kd nu pg ((((phF nu x (noteF 51 s)).1 + 1, (phF nu x (noteF 51 s)).2) : Int32 × AS)).2 → FR 42 44 g g' → K ((((phF nu x (noteF 51 s)).1 + 1, (phF nu x (noteF 51 s)).2) : Int32 × AS)).1 g') : pg_Cal sc 3 mX0_run [.ref 42, .int 51, .int x, .int (nI e)] g (pg_ki K) := by
  refine pg_Cal.of rfl (Nat.le_of_ble_eq_true rfl) rfl ?_
  refine go_aload_n (pc' := 1) dX0_run_0 rfl rfl ?_
  refine go_getI (pc' := 4) dX0_run_1 rfl flRX0_28 rfl rfl ?_
  rw [h.2.2.2.2.2.1, h0]
  refine go_if_ne (pc' := 7) (tgt := 13) dX0_run_4 rfl (by decide) (fun h_4 => absurd h_4 (by decide)) (fun h_4 => ?_)
  refine go_iload_n (pc' := 8) dX0_run_7 rfl rfl ?_
  refine go_bipush (pc' := 10) 40 dX0_run_8 rfl (by decide) ?_
  refine go_icmp_le (pc' := 13) (tgt := 15) dX0_run_10 rfl (by decide) (fun h_10 => ?_) (fun h_10 => absurd (nI_le (b := 40) (by omega) (by decide)) h_10)
  refine go_aload_n (pc' := 16) dX0_run_15 rfl rfl ?_
  refine go_iload_n (pc' := 17) dX0_run_16 rfl rfl ?_
  refine go_cVv1 (pc' := 20) (M' := mX0_note) (d' := 1) dX0_run_17 rfl cvRX0_42 rfl rfl (by decide) rfl (Nat.le_of_ble_eq_true rfl) ?_
  refine tX0_note h (fun g1 h1 f1 => ?_)
  have h01 := (note_pt 51 s).trans h0
  refine go_iload_n (pc' := 21) dX0_run_20 rfl rfl ?_
  refine go_iconst (pc' := 22) 1 dX0_run_21 rfl (by decide) ?_
  refine go_iadd (pc' := 23) dX0_run_22 rfl ?_
  rw [nI_1]
  refine go_istore (pc' := 25) dX0_run_23 rfl (by decide) rfl ?_
  refine go_iload_n (pc' := 26) dX0_run_25 rfl rfl ?_
  refine go_tableIn (pc' := 397) dX0_run_26 (by decide) (by decide) (by rfl) (by decide) ?_
  refine go_aload_n (pc' := 398) dX0_run_397 rfl rfl ?_
  refine go_bipush (pc' := 400) 10 dX0_run_398 rfl (by decide) ?_
  refine go_iload_n (pc' := 401) dX0_run_400 rfl rfl ?_
  refine go_iload (pc' := 403) dX0_run_401 rfl rfl ?_
  refine go_cVi3 (pc' := 406) (M' := mX0_run) (d' := 2) dX0_run_403 rfl cvRX0_39 rfl rfl (by decide) rfl (Nat.le_of_ble_eq_true rfl) ?_
  refine rn_10 h1 h01 (by omega) (fun g2 h2 f2 => ?_)
  refine go_iconst (pc' := 407) 1 dX0_run_406 rfl (by decide) ?_
  refine go_iadd (pc' := 408) dX0_run_407 rfl ?_
  refine go_iret dX0_run_408 (pg_narI _) ?_
  exact k _ h2 (FR.tr f1 f2)

set_option maxHeartbeats 4000000 in
set_option maxRecDepth 20000 in
theorem own_0_0 {sc : pg_Sc} {g : pg_S} {K : Int32 → pg_S → Prop} {nu pg x : Int32} {s : AS} {e : Nat} (h : CA g 0 nu pg s) (h0 : s.2.2 = 0) (he : e + 5 ≤ 40) (k : ∀ g', CA g' 0 nu pg (hkF 0 nu x s).2 → FR 42 44 g g' → K (hkF 0 nu x s).1 g') : pg_Cal sc 5 mX0_own [.ref 42, .int 0, .int x, .int (nI e)] g (pg_ki K) := by
  refine pg_Cal.of rfl (Nat.le_of_ble_eq_true rfl) rfl ?_
  refine go_aload_n (pc' := 1) dX0_own_0 rfl rfl ?_
  refine go_gs3 (pc' := 4) dX0_own_1 rfl sfRX0_36 ?_
  refine go_aload_n (pc' := 5) dX0_own_4 rfl rfl ?_
  refine go_getI (pc' := 8) dX0_own_5 rfl flRX0_19 rfl rfl ?_
  rw [h.2.2.1]
  refine go_iconst (pc' := 9) 4 dX0_own_8 rfl (by decide) ?_
  refine go_imul (pc' := 10) dX0_own_9 rfl ?_
  refine go_iload_n (pc' := 11) dX0_own_10 rfl rfl ?_
  refine go_iadd (pc' := 12) dX0_own_11 rfl ?_
  refine go_ro3 (pc' := 13) 0 dX0_own_12 rfl (by decide) (by decide) ?_
  rw [show pg_t3.getD 0 0 = 10 from rfl]
  refine go_iload_n (pc' := 14) dX0_own_13 rfl rfl ?_
  refine go_iload_n (pc' := 15) dX0_own_14 rfl rfl ?_
  refine go_cVi3 (pc' := 18) (M' := mX0_run) (d' := 2) dX0_own_15 rfl cvRX0_39 rfl rfl (by decide) rfl (Nat.le_of_ble_eq_true rfl) ?_
  refine rn_10 h h0 (by omega) (fun g2 h2 f2 => ?_)
  refine go_iret dX0_own_18 (pg_narI _) ?_
  exact k _ h2 f2

set_option maxHeartbeats 4000000 in
set_option maxRecDepth 20000 in
theorem own_0_1 {sc : pg_Sc} {g : pg_S} {K : Int32 → pg_S → Prop} {nu pg x : Int32} {s : AS} {e : Nat} (h : CA g 1 nu pg s) (h0 : s.2.2 = 0) (he : e + 5 ≤ 40) (k : ∀ g', CA g' 1 nu pg (hkF 1 nu x s).2 → FR 42 44 g g' → K (hkF 1 nu x s).1 g') : pg_Cal sc 5 mX0_own [.ref 42, .int 0, .int x, .int (nI e)] g (pg_ki K) := by
  refine pg_Cal.of rfl (Nat.le_of_ble_eq_true rfl) rfl ?_
  refine go_aload_n (pc' := 1) dX0_own_0 rfl rfl ?_
  refine go_gs3 (pc' := 4) dX0_own_1 rfl sfRX0_36 ?_
  refine go_aload_n (pc' := 5) dX0_own_4 rfl rfl ?_
  refine go_getI (pc' := 8) dX0_own_5 rfl flRX0_19 rfl rfl ?_
  rw [h.2.2.1]
  refine go_iconst (pc' := 9) 4 dX0_own_8 rfl (by decide) ?_
  refine go_imul (pc' := 10) dX0_own_9 rfl ?_
  refine go_iload_n (pc' := 11) dX0_own_10 rfl rfl ?_
  refine go_iadd (pc' := 12) dX0_own_11 rfl ?_
  refine go_ro3 (pc' := 13) 4 dX0_own_12 rfl (by decide) (by decide) ?_
  rw [show pg_t3.getD 4 0 = 10 from rfl]
  refine go_iload_n (pc' := 14) dX0_own_13 rfl rfl ?_
  refine go_iload_n (pc' := 15) dX0_own_14 rfl rfl ?_
  refine go_cVi3 (pc' := 18) (M' := mX0_run) (d' := 2) dX0_own_15 rfl cvRX0_39 rfl rfl (by decide) rfl (Nat.le_of_ble_eq_true rfl) ?_
  refine rn_10 h h0 (by omega) (fun g2 h2 f2 => ?_)
  refine go_iret dX0_own_18 (pg_narI _) ?_
  exact k _ h2 f2

set_option maxHeartbeats 4000000 in
set_option maxRecDepth 20000 in
theorem own_0_2 {sc : pg_Sc} {g : pg_S} {K : Int32 → pg_S → Prop} {nu pg x : Int32} {s : AS} {e : Nat} (h : CA g 2 nu pg s) (h0 : s.2.2 = 0) (he : e + 5 ≤ 40) (k : ∀ g', CA g' 2 nu pg (hkF 2 nu x s).2 → FR 42 44 g g' → K (hkF 2 nu x s).1 g') : pg_Cal sc 5 mX0_own [.ref 42, .int 0, .int x, .int (nI e)] g (pg_ki K) := by
  refine pg_Cal.of rfl (Nat.le_of_ble_eq_true rfl) rfl ?_
  refine go_aload_n (pc' := 1) dX0_own_0 rfl rfl ?_
  refine go_gs3 (pc' := 4) dX0_own_1 rfl sfRX0_36 ?_
  refine go_aload_n (pc' := 5) dX0_own_4 rfl rfl ?_
  refine go_getI (pc' := 8) dX0_own_5 rfl flRX0_19 rfl rfl ?_
  rw [h.2.2.1]
  refine go_iconst (pc' := 9) 4 dX0_own_8 rfl (by decide) ?_
  refine go_imul (pc' := 10) dX0_own_9 rfl ?_
  refine go_iload_n (pc' := 11) dX0_own_10 rfl rfl ?_
  refine go_iadd (pc' := 12) dX0_own_11 rfl ?_
  refine go_ro3 (pc' := 13) 8 dX0_own_12 rfl (by decide) (by decide) ?_
  rw [show pg_t3.getD 8 0 = 30 from rfl]
  refine go_iload_n (pc' := 14) dX0_own_13 rfl rfl ?_
  refine go_iload_n (pc' := 15) dX0_own_14 rfl rfl ?_
  refine go_cVi3 (pc' := 18) (M' := mX0_run) (d' := 3) dX0_own_15 rfl cvRX0_39 rfl rfl (by decide) rfl (Nat.le_of_ble_eq_true rfl) ?_
  refine rn_30 h h0 (by omega) (fun g2 h2 f2 => ?_)
  refine go_iret dX0_own_18 (pg_narI _) ?_
  exact k _ h2 f2

set_option maxHeartbeats 4000000 in
set_option maxRecDepth 20000 in
theorem own_0_3 {sc : pg_Sc} {g : pg_S} {K : Int32 → pg_S → Prop} {nu pg x : Int32} {s : AS} {e : Nat} (h : CA g 3 nu pg s) (h0 : s.2.2 = 0) (he : e + 5 ≤ 40) (k : ∀ g', CA g' 3 nu pg (hkF 3 nu x s).2 → FR 42 44 g g' → K (hkF 3 nu x s).1 g') : pg_Cal sc 5 mX0_own [.ref 42, .int 0, .int x, .int (nI e)] g (pg_ki K) := by
  refine pg_Cal.of rfl (Nat.le_of_ble_eq_true rfl) rfl ?_
  refine go_aload_n (pc' := 1) dX0_own_0 rfl rfl ?_
  refine go_gs3 (pc' := 4) dX0_own_1 rfl sfRX0_36 ?_
  refine go_aload_n (pc' := 5) dX0_own_4 rfl rfl ?_
  refine go_getI (pc' := 8) dX0_own_5 rfl flRX0_19 rfl rfl ?_
  rw [h.2.2.1]
  refine go_iconst (pc' := 9) 4 dX0_own_8 rfl (by decide) ?_
  refine go_imul (pc' := 10) dX0_own_9 rfl ?_
  refine go_iload_n (pc' := 11) dX0_own_10 rfl rfl ?_
  refine go_iadd (pc' := 12) dX0_own_11 rfl ?_
  refine go_ro3 (pc' := 13) 12 dX0_own_12 rfl (by decide) (by decide) ?_
  rw [show pg_t3.getD 12 0 = 51 from rfl]
  refine go_iload_n (pc' := 14) dX0_own_13 rfl rfl ?_
  refine go_iload_n (pc' := 15) dX0_own_14 rfl rfl ?_
  refine go_cVi3 (pc' := 18) (M' := mX0_run) (d' := 3) dX0_own_15 rfl cvRX0_39 rfl rfl (by decide) rfl (Nat.le_of_ble_eq_true rfl) ?_
  refine rn_51 h h0 (by omega) (fun g2 h2 f2 => ?_)
  refine go_iret dX0_own_18 (pg_narI _) ?_
  exact k _ h2 f2

set_option maxHeartbeats 4000000 in
set_option maxRecDepth 20000 in
theorem own_0_4 {sc : pg_Sc} {g : pg_S} {K : Int32 → pg_S → Prop} {nu pg x : Int32} {s : AS} {e : Nat} (h : CA g 4 nu pg s) (h0 : s.2.2 = 0) (he : e + 5 ≤ 40) (k : ∀ g', CA g' 4 nu pg (hkF 4 nu x s).2 → FR 42 44 g g' → K (hkF 4 nu x s).1 g') : pg_Cal sc 5 mX0_own [.ref 42, .int 0, .int x, .int (nI e)] g (pg_ki K) := by
  refine pg_Cal.of rfl (Nat.le_of_ble_eq_true rfl) rfl ?_
  refine go_aload_n (pc' := 1) dX0_own_0 rfl rfl ?_
  refine go_gs3 (pc' := 4) dX0_own_1 rfl sfRX0_36 ?_
  refine go_aload_n (pc' := 5) dX0_own_4 rfl rfl ?_
  refine go_getI (pc' := 8) dX0_own_5 rfl flRX0_19 rfl rfl ?_
  rw [h.2.2.1]
  refine go_iconst (pc' := 9) 4 dX0_own_8 rfl (by decide) ?_
  refine go_imul (pc' := 10) dX0_own_9 rfl ?_
  refine go_iload_n (pc' := 11) dX0_own_10 rfl rfl ?_
  refine go_iadd (pc' := 12) dX0_own_11 rfl ?_
  refine go_ro3 (pc' := 13) 16 dX0_own_12 rfl (by decide) (by decide) ?_
  rw [show pg_t3.getD 16 0 = 40 from rfl]
  refine go_iload_n (pc' := 14) dX0_own_13 rfl rfl ?_
  refine go_iload_n (pc' := 15) dX0_own_14 rfl rfl ?_
  refine go_cVi3 (pc' := 18) (M' := mX0_run) (d' := 4) dX0_own_15 rfl cvRX0_39 rfl rfl (by decide) rfl (Nat.le_of_ble_eq_true rfl) ?_
  refine rn_40 h h0 (by omega) (fun g2 h2 f2 => ?_)
  refine go_iret dX0_own_18 (pg_narI _) ?_
  exact k _ h2 f2

set_option maxHeartbeats 4000000 in
set_option maxRecDepth 20000 in
theorem own_0_5 {sc : pg_Sc} {g : pg_S} {K : Int32 → pg_S → Prop} {nu pg x : Int32} {s : AS} {e : Nat} (h : CA g 5 nu pg s) (h0 : s.2.2 = 0) (he : e + 5 ≤ 40) (k : ∀ g', CA g' 5 nu pg (hkF 5 nu x s).2 → FR 42 44 g g' → K (hkF 5 nu x s).1 g') : pg_Cal sc 5 mX0_own [.ref 42, .int 0, .int x, .int (nI e)] g (pg_ki K) := by
  refine pg_Cal.of rfl (Nat.le_of_ble_eq_true rfl) rfl ?_
  refine go_aload_n (pc' := 1) dX0_own_0 rfl rfl ?_
  refine go_gs3 (pc' := 4) dX0_own_1 rfl sfRX0_36 ?_
  refine go_aload_n (pc' := 5) dX0_own_4 rfl rfl ?_
  refine go_getI (pc' := 8) dX0_own_5 rfl flRX0_19 rfl rfl ?_
  rw [h.2.2.1]
  refine go_iconst (pc' := 9) 4 dX0_own_8 rfl (by decide) ?_
  refine go_imul (pc' := 10) dX0_own_9 rfl ?_
  refine go_iload_n (pc' := 11) dX0_own_10 rfl rfl ?_
  refine go_iadd (pc' := 12) dX0_own_11 rfl ?_
  refine go_ro3 (pc' := 13) 20 dX0_own_12 rfl (by decide) (by decide) ?_
  rw [show pg_t3.getD 20 0 = 10 from rfl]
  refine go_iload_n (pc' := 14) dX0_own_13 rfl rfl ?_
  refine go_iload_n (pc' := 15) dX0_own_14 rfl rfl ?_
  refine go_cVi3 (pc' := 18) (M' := mX0_run) (d' := 2) dX0_own_15 rfl cvRX0_39 rfl rfl (by decide) rfl (Nat.le_of_ble_eq_true rfl) ?_
  refine rn_10 h h0 (by omega) (fun g2 h2 f2 => ?_)
  refine go_iret dX0_own_18 (pg_narI _) ?_
  exact k _ h2 f2

theorem own_0 {sc : pg_Sc} {g : pg_S} {K : Int32 → pg_S → Prop} {kd : Nat} {nu pg x : Int32} {s : AS} {e : Nat} (hkd : kd < 6) (h : CA g kd nu pg s) (h0 : s.2.2 = 0) (he : e + 5 ≤ 40) (k : ∀ g', CA g' kd nu pg (hkF kd nu x s).2 → FR 42 44 g g' → K (hkF kd nu x s).1 g') : pg_Cal sc 5 mX0_own [.ref 42, .int 0, .int x, .int (nI e)] g (pg_ki K) := by
  rcases (show kd = 0 ∨ kd = 1 ∨ kd = 2 ∨ kd = 3 ∨ kd = 4 ∨ kd = 5 by omega) with rfl | rfl | rfl | rfl | rfl | rfl
  · exact own_0_0 h h0 he k
  · exact own_0_1 h h0 he k
  · exact own_0_2 h h0 he k
  · exact own_0_3 h h0 he k
  · exact own_0_4 h h0 he k
  · exact own_0_5 h h0 he k
set_option maxHeartbeats 4000000 in
set_option maxRecDepth 20000 in
theorem rn_11 {sc : pg_Sc} {g : pg_S} {K : Int32 → pg_S → Prop} {kd : Nat} {nu pg x : Int32} {s : AS} {e : Nat} (hkd : kd < 6) (h : CA g kd nu pg s) (h0 : s.2.2 = 0) (he : e + 6 ≤ 40) (k : ∀ g', CA g' kd nu pg (plF kd nu pg x s).2 → FR 42 44 g g' → K (plF kd nu pg x s).1 g') : pg_Cal sc 6 mX0_run [.ref 42, .int 11, .int x, .int (nI e)] g (pg_ki K) := by
  refine pg_Cal.of rfl (Nat.le_of_ble_eq_true rfl) rfl ?_
  refine go_aload_n (pc' := 1) dX0_run_0 rfl rfl ?_
  refine go_getI (pc' := 4) dX0_run_1 rfl flRX0_28 rfl rfl ?_
  rw [h.2.2.2.2.2.1, h0]
  refine go_if_ne (pc' := 7) (tgt := 13) dX0_run_4 rfl (by decide) (fun h_4 => absurd h_4 (by decide)) (fun h_4 => ?_)
  refine go_iload_n (pc' := 8) dX0_run_7 rfl rfl ?_
  refine go_bipush (pc' := 10) 40 dX0_run_8 rfl (by decide) ?_
  refine go_icmp_le (pc' := 13) (tgt := 15) dX0_run_10 rfl (by decide) (fun h_10 => ?_) (fun h_10 => absurd (nI_le (b := 40) (by omega) (by decide)) h_10)
  refine go_aload_n (pc' := 16) dX0_run_15 rfl rfl ?_
  refine go_iload_n (pc' := 17) dX0_run_16 rfl rfl ?_
  refine go_cVv1 (pc' := 20) (M' := mX0_note) (d' := 1) dX0_run_17 rfl cvRX0_42 rfl rfl (by decide) rfl (Nat.le_of_ble_eq_true rfl) ?_
  refine tX0_note h (fun g1 h1 f1 => ?_)
  have h01 := (note_pt 11 s).trans h0
  refine go_iload_n (pc' := 21) dX0_run_20 rfl rfl ?_
  refine go_iconst (pc' := 22) 1 dX0_run_21 rfl (by decide) ?_
  refine go_iadd (pc' := 23) dX0_run_22 rfl ?_
  rw [nI_1]
  refine go_istore (pc' := 25) dX0_run_23 rfl (by decide) rfl ?_
  refine go_iload_n (pc' := 26) dX0_run_25 rfl rfl ?_
  refine go_tableIn (pc' := 258) dX0_run_26 (by decide) (by decide) (by rfl) (by decide) ?_
  refine go_aload_n (pc' := 259) dX0_run_258 rfl rfl ?_
  refine go_iconst (pc' := 260) 0 dX0_run_259 rfl (by decide) ?_
  refine go_iload_n (pc' := 261) dX0_run_260 rfl rfl ?_
  refine go_iload (pc' := 263) dX0_run_261 rfl rfl ?_
  refine go_cVi3 (pc' := 266) (M' := mX0_own) (d' := 5) dX0_run_263 rfl cvRX0_32 rfl rfl (by decide) rfl (Nat.le_of_ble_eq_true rfl) ?_
  refine own_0 hkd h1 h01 (by omega) (fun g2 h2 f2 => ?_)
  refine go_aload_n (pc' := 267) dX0_run_266 rfl rfl ?_
  refine go_getI (pc' := 270) dX0_run_267 rfl flRX0_25 rfl rfl ?_
  rw [h2.2.2.2.2.1]
  refine go_iadd (pc' := 271) dX0_run_270 rfl ?_
  refine go_iret dX0_run_271 (pg_narI _) ?_
  exact k _ h2 (FR.tr f1 f2)

set_option maxHeartbeats 4000000 in
set_option maxRecDepth 20000 in
theorem rn_20 {sc : pg_Sc} {g : pg_S} {K : Int32 → pg_S → Prop} {kd : Nat} {nu pg x : Int32} {s : AS} {e : Nat} (hkd : kd < 6) (h : CA g kd nu pg s) (h0 : s.2.2 = 0) (he : e + 7 ≤ 40) (k : ∀ g', CA g' kd nu pg ((((plF kd nu pg x (noteF 20 s)).1 - 3, (plF kd nu pg x (noteF 20 s)).2) : Int32 × AS)).2 → FR 42 44 g g' → K ((((plF kd nu pg x (noteF 20 s)).1 - 3, (plF kd nu pg x (noteF 20 s)).2) : Int32 × AS)).1 g') : pg_Cal sc 7 mX0_run [.ref 42, .int 20, .int x, .int (nI e)] g (pg_ki K) := by
  refine pg_Cal.of rfl (Nat.le_of_ble_eq_true rfl) rfl ?_
  refine go_aload_n (pc' := 1) dX0_run_0 rfl rfl ?_
  refine go_getI (pc' := 4) dX0_run_1 rfl flRX0_28 rfl rfl ?_
  rw [h.2.2.2.2.2.1, h0]
  refine go_if_ne (pc' := 7) (tgt := 13) dX0_run_4 rfl (by decide) (fun h_4 => absurd h_4 (by decide)) (fun h_4 => ?_)
  refine go_iload_n (pc' := 8) dX0_run_7 rfl rfl ?_
  refine go_bipush (pc' := 10) 40 dX0_run_8 rfl (by decide) ?_
  refine go_icmp_le (pc' := 13) (tgt := 15) dX0_run_10 rfl (by decide) (fun h_10 => ?_) (fun h_10 => absurd (nI_le (b := 40) (by omega) (by decide)) h_10)
  refine go_aload_n (pc' := 16) dX0_run_15 rfl rfl ?_
  refine go_iload_n (pc' := 17) dX0_run_16 rfl rfl ?_
  refine go_cVv1 (pc' := 20) (M' := mX0_note) (d' := 1) dX0_run_17 rfl cvRX0_42 rfl rfl (by decide) rfl (Nat.le_of_ble_eq_true rfl) ?_
  refine tX0_note h (fun g1 h1 f1 => ?_)
  have h01 := (note_pt 20 s).trans h0
  refine go_iload_n (pc' := 21) dX0_run_20 rfl rfl ?_
  refine go_iconst (pc' := 22) 1 dX0_run_21 rfl (by decide) ?_
  refine go_iadd (pc' := 23) dX0_run_22 rfl ?_
  rw [nI_1]
  refine go_istore (pc' := 25) dX0_run_23 rfl (by decide) rfl ?_
  refine go_iload_n (pc' := 26) dX0_run_25 rfl rfl ?_
  refine go_tableIn (pc' := 299) dX0_run_26 (by decide) (by decide) (by rfl) (by decide) ?_
  refine go_aload_n (pc' := 300) dX0_run_299 rfl rfl ?_
  refine go_bipush (pc' := 302) 11 dX0_run_300 rfl (by decide) ?_
  refine go_iload_n (pc' := 303) dX0_run_302 rfl rfl ?_
  refine go_iload (pc' := 305) dX0_run_303 rfl rfl ?_
  refine go_cVi3 (pc' := 308) (M' := mX0_run) (d' := 6) dX0_run_305 rfl cvRX0_39 rfl rfl (by decide) rfl (Nat.le_of_ble_eq_true rfl) ?_
  refine rn_11 hkd h1 h01 (by omega) (fun g2 h2 f2 => ?_)
  refine go_iconst (pc' := 309) 3 dX0_run_308 rfl (by decide) ?_
  refine go_isub (pc' := 310) dX0_run_309 rfl ?_
  refine go_iret dX0_run_310 (pg_narI _) ?_
  exact k _ h2 (FR.tr f1 f2)

set_option maxHeartbeats 4000000 in
set_option maxRecDepth 20000 in
theorem rn_41 {sc : pg_Sc} {g : pg_S} {K : Int32 → pg_S → Prop} {kd : Nat} {nu pg x : Int32} {s : AS} {e : Nat} (hkd : kd < 6) (h : CA g kd nu pg s) (h0 : s.2.2 = 0) (he : e + 7 ≤ 40) (k : ∀ g', CA g' kd nu pg ((((plF kd nu pg x (noteF 41 s)).1 + (hkF kd nu pg (plF kd nu pg x (noteF 41 s)).2).1, (hkF kd nu pg (plF kd nu pg x (noteF 41 s)).2).2) : Int32 × AS)).2 → FR 42 44 g g' → K ((((plF kd nu pg x (noteF 41 s)).1 + (hkF kd nu pg (plF kd nu pg x (noteF 41 s)).2).1, (hkF kd nu pg (plF kd nu pg x (noteF 41 s)).2).2) : Int32 × AS)).1 g') : pg_Cal sc 7 mX0_run [.ref 42, .int 41, .int x, .int (nI e)] g (pg_ki K) := by
  refine pg_Cal.of rfl (Nat.le_of_ble_eq_true rfl) rfl ?_
  refine go_aload_n (pc' := 1) dX0_run_0 rfl rfl ?_
  refine go_getI (pc' := 4) dX0_run_1 rfl flRX0_28 rfl rfl ?_
  rw [h.2.2.2.2.2.1, h0]
  refine go_if_ne (pc' := 7) (tgt := 13) dX0_run_4 rfl (by decide) (fun h_4 => absurd h_4 (by decide)) (fun h_4 => ?_)
  refine go_iload_n (pc' := 8) dX0_run_7 rfl rfl ?_
  refine go_bipush (pc' := 10) 40 dX0_run_8 rfl (by decide) ?_
  refine go_icmp_le (pc' := 13) (tgt := 15) dX0_run_10 rfl (by decide) (fun h_10 => ?_) (fun h_10 => absurd (nI_le (b := 40) (by omega) (by decide)) h_10)
  refine go_aload_n (pc' := 16) dX0_run_15 rfl rfl ?_
  refine go_iload_n (pc' := 17) dX0_run_16 rfl rfl ?_
  refine go_cVv1 (pc' := 20) (M' := mX0_note) (d' := 1) dX0_run_17 rfl cvRX0_42 rfl rfl (by decide) rfl (Nat.le_of_ble_eq_true rfl) ?_
  refine tX0_note h (fun g1 h1 f1 => ?_)
  have h01 := (note_pt 41 s).trans h0
  refine go_iload_n (pc' := 21) dX0_run_20 rfl rfl ?_
  refine go_iconst (pc' := 22) 1 dX0_run_21 rfl (by decide) ?_
  refine go_iadd (pc' := 23) dX0_run_22 rfl ?_
  rw [nI_1]
  refine go_istore (pc' := 25) dX0_run_23 rfl (by decide) rfl ?_
  refine go_iload_n (pc' := 26) dX0_run_25 rfl rfl ?_
  refine go_tableIn (pc' := 358) dX0_run_26 (by decide) (by decide) (by rfl) (by decide) ?_
  refine go_aload_n (pc' := 359) dX0_run_358 rfl rfl ?_
  refine go_bipush (pc' := 361) 11 dX0_run_359 rfl (by decide) ?_
  refine go_iload_n (pc' := 362) dX0_run_361 rfl rfl ?_
  refine go_iload (pc' := 364) dX0_run_362 rfl rfl ?_
  refine go_cVi3 (pc' := 367) (M' := mX0_run) (d' := 6) dX0_run_364 rfl cvRX0_39 rfl rfl (by decide) rfl (Nat.le_of_ble_eq_true rfl) ?_
  refine rn_11 hkd h1 h01 (by omega) (fun g2 h2 f2 => ?_)
  refine go_aload_n (pc' := 368) dX0_run_367 rfl rfl ?_
  refine go_iconst (pc' := 369) 0 dX0_run_368 rfl (by decide) ?_
  refine go_aload_n (pc' := 370) dX0_run_369 rfl rfl ?_
  refine go_getI (pc' := 373) dX0_run_370 rfl flRX0_25 rfl rfl ?_
  rw [h2.2.2.2.2.1]
  refine go_iload (pc' := 375) dX0_run_373 rfl rfl ?_
  refine go_cVi3 (pc' := 378) (M' := mX0_own) (d' := 5) dX0_run_375 rfl cvRX0_32 rfl rfl (by decide) rfl (Nat.le_of_ble_eq_true rfl) ?_
  refine own_0 hkd h2 ((pl_pt kd nu pg x _).trans h01) (by omega) (fun g3 h3 f3 => ?_)
  refine go_iadd (pc' := 379) dX0_run_378 rfl ?_
  refine go_iret dX0_run_379 (pg_narI _) ?_
  exact k _ h3 (FR.tr (FR.tr f1 f2) f3)

set_option maxHeartbeats 4000000 in
set_option maxRecDepth 20000 in
theorem own_1_0 {sc : pg_Sc} {g : pg_S} {K : Int32 → pg_S → Prop} {nu pg x : Int32} {s : AS} {e : Nat} (h : CA g 0 nu pg s) (h0 : s.2.2 = 0) (he : e + 8 ≤ 40) (k : ∀ g', CA g' 0 nu pg (lnF 0 nu pg x s).2 → FR 42 44 g g' → K (lnF 0 nu pg x s).1 g') : pg_Cal sc 8 mX0_own [.ref 42, .int 1, .int x, .int (nI e)] g (pg_ki K) := by
  refine pg_Cal.of rfl (Nat.le_of_ble_eq_true rfl) rfl ?_
  refine go_aload_n (pc' := 1) dX0_own_0 rfl rfl ?_
  refine go_gs3 (pc' := 4) dX0_own_1 rfl sfRX0_36 ?_
  refine go_aload_n (pc' := 5) dX0_own_4 rfl rfl ?_
  refine go_getI (pc' := 8) dX0_own_5 rfl flRX0_19 rfl rfl ?_
  rw [h.2.2.1]
  refine go_iconst (pc' := 9) 4 dX0_own_8 rfl (by decide) ?_
  refine go_imul (pc' := 10) dX0_own_9 rfl ?_
  refine go_iload_n (pc' := 11) dX0_own_10 rfl rfl ?_
  refine go_iadd (pc' := 12) dX0_own_11 rfl ?_
  refine go_ro3 (pc' := 13) 1 dX0_own_12 rfl (by decide) (by decide) ?_
  rw [show pg_t3.getD 1 0 = 11 from rfl]
  refine go_iload_n (pc' := 14) dX0_own_13 rfl rfl ?_
  refine go_iload_n (pc' := 15) dX0_own_14 rfl rfl ?_
  refine go_cVi3 (pc' := 18) (M' := mX0_run) (d' := 6) dX0_own_15 rfl cvRX0_39 rfl rfl (by decide) rfl (Nat.le_of_ble_eq_true rfl) ?_
  refine rn_11 (by decide) h h0 (by omega) (fun g2 h2 f2 => ?_)
  refine go_iret dX0_own_18 (pg_narI _) ?_
  exact k _ h2 f2

set_option maxHeartbeats 4000000 in
set_option maxRecDepth 20000 in
theorem own_1_1 {sc : pg_Sc} {g : pg_S} {K : Int32 → pg_S → Prop} {nu pg x : Int32} {s : AS} {e : Nat} (h : CA g 1 nu pg s) (h0 : s.2.2 = 0) (he : e + 8 ≤ 40) (k : ∀ g', CA g' 1 nu pg (lnF 1 nu pg x s).2 → FR 42 44 g g' → K (lnF 1 nu pg x s).1 g') : pg_Cal sc 8 mX0_own [.ref 42, .int 1, .int x, .int (nI e)] g (pg_ki K) := by
  refine pg_Cal.of rfl (Nat.le_of_ble_eq_true rfl) rfl ?_
  refine go_aload_n (pc' := 1) dX0_own_0 rfl rfl ?_
  refine go_gs3 (pc' := 4) dX0_own_1 rfl sfRX0_36 ?_
  refine go_aload_n (pc' := 5) dX0_own_4 rfl rfl ?_
  refine go_getI (pc' := 8) dX0_own_5 rfl flRX0_19 rfl rfl ?_
  rw [h.2.2.1]
  refine go_iconst (pc' := 9) 4 dX0_own_8 rfl (by decide) ?_
  refine go_imul (pc' := 10) dX0_own_9 rfl ?_
  refine go_iload_n (pc' := 11) dX0_own_10 rfl rfl ?_
  refine go_iadd (pc' := 12) dX0_own_11 rfl ?_
  refine go_ro3 (pc' := 13) 5 dX0_own_12 rfl (by decide) (by decide) ?_
  rw [show pg_t3.getD 5 0 = 20 from rfl]
  refine go_iload_n (pc' := 14) dX0_own_13 rfl rfl ?_
  refine go_iload_n (pc' := 15) dX0_own_14 rfl rfl ?_
  refine go_cVi3 (pc' := 18) (M' := mX0_run) (d' := 7) dX0_own_15 rfl cvRX0_39 rfl rfl (by decide) rfl (Nat.le_of_ble_eq_true rfl) ?_
  refine rn_20 (by decide) h h0 (by omega) (fun g2 h2 f2 => ?_)
  refine go_iret dX0_own_18 (pg_narI _) ?_
  exact k _ h2 f2

set_option maxHeartbeats 4000000 in
set_option maxRecDepth 20000 in
theorem own_1_2 {sc : pg_Sc} {g : pg_S} {K : Int32 → pg_S → Prop} {nu pg x : Int32} {s : AS} {e : Nat} (h : CA g 2 nu pg s) (h0 : s.2.2 = 0) (he : e + 8 ≤ 40) (k : ∀ g', CA g' 2 nu pg (lnF 2 nu pg x s).2 → FR 42 44 g g' → K (lnF 2 nu pg x s).1 g') : pg_Cal sc 8 mX0_own [.ref 42, .int 1, .int x, .int (nI e)] g (pg_ki K) := by
  refine pg_Cal.of rfl (Nat.le_of_ble_eq_true rfl) rfl ?_
  refine go_aload_n (pc' := 1) dX0_own_0 rfl rfl ?_
  refine go_gs3 (pc' := 4) dX0_own_1 rfl sfRX0_36 ?_
  refine go_aload_n (pc' := 5) dX0_own_4 rfl rfl ?_
  refine go_getI (pc' := 8) dX0_own_5 rfl flRX0_19 rfl rfl ?_
  rw [h.2.2.1]
  refine go_iconst (pc' := 9) 4 dX0_own_8 rfl (by decide) ?_
  refine go_imul (pc' := 10) dX0_own_9 rfl ?_
  refine go_iload_n (pc' := 11) dX0_own_10 rfl rfl ?_
  refine go_iadd (pc' := 12) dX0_own_11 rfl ?_
  refine go_ro3 (pc' := 13) 9 dX0_own_12 rfl (by decide) (by decide) ?_
  rw [show pg_t3.getD 9 0 = 11 from rfl]
  refine go_iload_n (pc' := 14) dX0_own_13 rfl rfl ?_
  refine go_iload_n (pc' := 15) dX0_own_14 rfl rfl ?_
  refine go_cVi3 (pc' := 18) (M' := mX0_run) (d' := 6) dX0_own_15 rfl cvRX0_39 rfl rfl (by decide) rfl (Nat.le_of_ble_eq_true rfl) ?_
  refine rn_11 (by decide) h h0 (by omega) (fun g2 h2 f2 => ?_)
  refine go_iret dX0_own_18 (pg_narI _) ?_
  exact k _ h2 f2

set_option maxHeartbeats 4000000 in
set_option maxRecDepth 20000 in
theorem own_1_3 {sc : pg_Sc} {g : pg_S} {K : Int32 → pg_S → Prop} {nu pg x : Int32} {s : AS} {e : Nat} (h : CA g 3 nu pg s) (h0 : s.2.2 = 0) (he : e + 8 ≤ 40) (k : ∀ g', CA g' 3 nu pg (lnF 3 nu pg x s).2 → FR 42 44 g g' → K (lnF 3 nu pg x s).1 g') : pg_Cal sc 8 mX0_own [.ref 42, .int 1, .int x, .int (nI e)] g (pg_ki K) := by
  refine pg_Cal.of rfl (Nat.le_of_ble_eq_true rfl) rfl ?_
  refine go_aload_n (pc' := 1) dX0_own_0 rfl rfl ?_
  refine go_gs3 (pc' := 4) dX0_own_1 rfl sfRX0_36 ?_
  refine go_aload_n (pc' := 5) dX0_own_4 rfl rfl ?_
  refine go_getI (pc' := 8) dX0_own_5 rfl flRX0_19 rfl rfl ?_
  rw [h.2.2.1]
  refine go_iconst (pc' := 9) 4 dX0_own_8 rfl (by decide) ?_
  refine go_imul (pc' := 10) dX0_own_9 rfl ?_
  refine go_iload_n (pc' := 11) dX0_own_10 rfl rfl ?_
  refine go_iadd (pc' := 12) dX0_own_11 rfl ?_
  refine go_ro3 (pc' := 13) 13 dX0_own_12 rfl (by decide) (by decide) ?_
  rw [show pg_t3.getD 13 0 = 20 from rfl]
  refine go_iload_n (pc' := 14) dX0_own_13 rfl rfl ?_
  refine go_iload_n (pc' := 15) dX0_own_14 rfl rfl ?_
  refine go_cVi3 (pc' := 18) (M' := mX0_run) (d' := 7) dX0_own_15 rfl cvRX0_39 rfl rfl (by decide) rfl (Nat.le_of_ble_eq_true rfl) ?_
  refine rn_20 (by decide) h h0 (by omega) (fun g2 h2 f2 => ?_)
  refine go_iret dX0_own_18 (pg_narI _) ?_
  exact k _ h2 f2

set_option maxHeartbeats 4000000 in
set_option maxRecDepth 20000 in
theorem own_1_4 {sc : pg_Sc} {g : pg_S} {K : Int32 → pg_S → Prop} {nu pg x : Int32} {s : AS} {e : Nat} (h : CA g 4 nu pg s) (h0 : s.2.2 = 0) (he : e + 8 ≤ 40) (k : ∀ g', CA g' 4 nu pg (lnF 4 nu pg x s).2 → FR 42 44 g g' → K (lnF 4 nu pg x s).1 g') : pg_Cal sc 8 mX0_own [.ref 42, .int 1, .int x, .int (nI e)] g (pg_ki K) := by
  refine pg_Cal.of rfl (Nat.le_of_ble_eq_true rfl) rfl ?_
  refine go_aload_n (pc' := 1) dX0_own_0 rfl rfl ?_
  refine go_gs3 (pc' := 4) dX0_own_1 rfl sfRX0_36 ?_
  refine go_aload_n (pc' := 5) dX0_own_4 rfl rfl ?_
  refine go_getI (pc' := 8) dX0_own_5 rfl flRX0_19 rfl rfl ?_
  rw [h.2.2.1]
  refine go_iconst (pc' := 9) 4 dX0_own_8 rfl (by decide) ?_
  refine go_imul (pc' := 10) dX0_own_9 rfl ?_
  refine go_iload_n (pc' := 11) dX0_own_10 rfl rfl ?_
  refine go_iadd (pc' := 12) dX0_own_11 rfl ?_
  refine go_ro3 (pc' := 13) 17 dX0_own_12 rfl (by decide) (by decide) ?_
  rw [show pg_t3.getD 17 0 = 41 from rfl]
  refine go_iload_n (pc' := 14) dX0_own_13 rfl rfl ?_
  refine go_iload_n (pc' := 15) dX0_own_14 rfl rfl ?_
  refine go_cVi3 (pc' := 18) (M' := mX0_run) (d' := 7) dX0_own_15 rfl cvRX0_39 rfl rfl (by decide) rfl (Nat.le_of_ble_eq_true rfl) ?_
  refine rn_41 (by decide) h h0 (by omega) (fun g2 h2 f2 => ?_)
  refine go_iret dX0_own_18 (pg_narI _) ?_
  exact k _ h2 f2

set_option maxHeartbeats 4000000 in
set_option maxRecDepth 20000 in
theorem own_1_5 {sc : pg_Sc} {g : pg_S} {K : Int32 → pg_S → Prop} {nu pg x : Int32} {s : AS} {e : Nat} (h : CA g 5 nu pg s) (h0 : s.2.2 = 0) (he : e + 8 ≤ 40) (k : ∀ g', CA g' 5 nu pg (lnF 5 nu pg x s).2 → FR 42 44 g g' → K (lnF 5 nu pg x s).1 g') : pg_Cal sc 8 mX0_own [.ref 42, .int 1, .int x, .int (nI e)] g (pg_ki K) := by
  refine pg_Cal.of rfl (Nat.le_of_ble_eq_true rfl) rfl ?_
  refine go_aload_n (pc' := 1) dX0_own_0 rfl rfl ?_
  refine go_gs3 (pc' := 4) dX0_own_1 rfl sfRX0_36 ?_
  refine go_aload_n (pc' := 5) dX0_own_4 rfl rfl ?_
  refine go_getI (pc' := 8) dX0_own_5 rfl flRX0_19 rfl rfl ?_
  rw [h.2.2.1]
  refine go_iconst (pc' := 9) 4 dX0_own_8 rfl (by decide) ?_
  refine go_imul (pc' := 10) dX0_own_9 rfl ?_
  refine go_iload_n (pc' := 11) dX0_own_10 rfl rfl ?_
  refine go_iadd (pc' := 12) dX0_own_11 rfl ?_
  refine go_ro3 (pc' := 13) 21 dX0_own_12 rfl (by decide) (by decide) ?_
  rw [show pg_t3.getD 21 0 = 11 from rfl]
  refine go_iload_n (pc' := 14) dX0_own_13 rfl rfl ?_
  refine go_iload_n (pc' := 15) dX0_own_14 rfl rfl ?_
  refine go_cVi3 (pc' := 18) (M' := mX0_run) (d' := 6) dX0_own_15 rfl cvRX0_39 rfl rfl (by decide) rfl (Nat.le_of_ble_eq_true rfl) ?_
  refine rn_11 (by decide) h h0 (by omega) (fun g2 h2 f2 => ?_)
  refine go_iret dX0_own_18 (pg_narI _) ?_
  exact k _ h2 f2

theorem own_1 {sc : pg_Sc} {g : pg_S} {K : Int32 → pg_S → Prop} {kd : Nat} {nu pg x : Int32} {s : AS} {e : Nat} (hkd : kd < 6) (h : CA g kd nu pg s) (h0 : s.2.2 = 0) (he : e + 8 ≤ 40) (k : ∀ g', CA g' kd nu pg (lnF kd nu pg x s).2 → FR 42 44 g g' → K (lnF kd nu pg x s).1 g') : pg_Cal sc 8 mX0_own [.ref 42, .int 1, .int x, .int (nI e)] g (pg_ki K) := by
  rcases (show kd = 0 ∨ kd = 1 ∨ kd = 2 ∨ kd = 3 ∨ kd = 4 ∨ kd = 5 by omega) with rfl | rfl | rfl | rfl | rfl | rfl
  · exact own_1_0 h h0 he k
  · exact own_1_1 h h0 he k
  · exact own_1_2 h h0 he k
  · exact own_1_3 h h0 he k
  · exact own_1_4 h h0 he k
  · exact own_1_5 h h0 he k
set_option maxHeartbeats 4000000 in
set_option maxRecDepth 20000 in
theorem rn_12a {sc : pg_Sc} {g : pg_S} {K : Int32 → pg_S → Prop} {kd : Nat} {nu pg x : Int32} {s : AS} {e : Nat} (hq : pg = nu) (h : CA g kd nu pg s) (h0 : s.2.2 = 0) (he : e + 2 ≤ 40) (k : ∀ g', CA g' kd nu pg (ppF nu pg x s).2 → FR 42 44 g g' → K (ppF nu pg x s).1 g') : pg_Cal sc 2 mX0_run [.ref 42, .int 12, .int x, .int (nI e)] g (pg_ki K) := by
  refine pg_Cal.of rfl (Nat.le_of_ble_eq_true rfl) rfl ?_
  refine go_aload_n (pc' := 1) dX0_run_0 rfl rfl ?_
  refine go_getI (pc' := 4) dX0_run_1 rfl flRX0_28 rfl rfl ?_
  rw [h.2.2.2.2.2.1, h0]
  refine go_if_ne (pc' := 7) (tgt := 13) dX0_run_4 rfl (by decide) (fun h_4 => absurd h_4 (by decide)) (fun h_4 => ?_)
  refine go_iload_n (pc' := 8) dX0_run_7 rfl rfl ?_
  refine go_bipush (pc' := 10) 40 dX0_run_8 rfl (by decide) ?_
  refine go_icmp_le (pc' := 13) (tgt := 15) dX0_run_10 rfl (by decide) (fun h_10 => ?_) (fun h_10 => absurd (nI_le (b := 40) (by omega) (by decide)) h_10)
  refine go_aload_n (pc' := 16) dX0_run_15 rfl rfl ?_
  refine go_iload_n (pc' := 17) dX0_run_16 rfl rfl ?_
  refine go_cVv1 (pc' := 20) (M' := mX0_note) (d' := 1) dX0_run_17 rfl cvRX0_42 rfl rfl (by decide) rfl (Nat.le_of_ble_eq_true rfl) ?_
  refine tX0_note h (fun g1 h1 f1 => ?_)
  refine go_iload_n (pc' := 21) dX0_run_20 rfl rfl ?_
  refine go_iconst (pc' := 22) 1 dX0_run_21 rfl (by decide) ?_
  refine go_iadd (pc' := 23) dX0_run_22 rfl ?_
  rw [nI_1]
  refine go_istore (pc' := 25) dX0_run_23 rfl (by decide) rfl ?_
  refine go_iload_n (pc' := 26) dX0_run_25 rfl rfl ?_
  refine go_tableIn (pc' := 272) dX0_run_26 (by decide) (by decide) (by rfl) (by decide) ?_
  refine go_aload_n (pc' := 273) dX0_run_272 rfl rfl ?_
  refine go_iload_n (pc' := 274) dX0_run_273 rfl rfl ?_
  refine go_aload_n (pc' := 275) dX0_run_274 rfl rfl ?_
  refine go_getI (pc' := 278) dX0_run_275 rfl flRX0_25 rfl rfl ?_
  rw [h1.2.2.2.2.1]
  refine go_aload_n (pc' := 279) dX0_run_278 rfl rfl ?_
  refine go_getI (pc' := 282) dX0_run_279 rfl flRX0_22 rfl rfl ?_
  rw [h1.2.2.2.1]
  refine go_isub (pc' := 283) dX0_run_282 rfl ?_
  refine go_cVi2 (pc' := 286) (M' := mX0_quotient) (d' := 1) dX0_run_283 rfl cvRX0_46 rfl rfl (by decide) rfl (Nat.le_of_ble_eq_true rfl) ?_
  refine tX0_quotient h1 (fun _ g2 h2 f2 => ?_) (fun q => absurd (sub0.mpr hq) q)
  refine go_iret dX0_run_286 (pg_narI _) ?_
  unfold ppF at k
  rw [if_pos hq] at k
  exact k _ h2 (FR.tr f1 f2)

set_option maxHeartbeats 4000000 in
set_option maxRecDepth 20000 in
theorem rn_12b {sc : pg_Sc} {g : pg_S} {K : Int32 → pg_S → Prop} {kd : Nat} {nu pg x : Int32} {s : AS} {e : Nat} (hq : ¬ pg = nu) (h : CA g kd nu pg s) (h0 : s.2.2 = 0) (he : e + 2 ≤ 40) (k : ∀ g', CA g' kd nu pg (ppF nu pg x s).2 → FR 42 44 g g' → K (ppF nu pg x s).1 g') : pg_Cal sc 2 mX0_run [.ref 42, .int 12, .int x, .int (nI e)] g (pg_ki K) := by
  refine pg_Cal.of rfl (Nat.le_of_ble_eq_true rfl) rfl ?_
  refine go_aload_n (pc' := 1) dX0_run_0 rfl rfl ?_
  refine go_getI (pc' := 4) dX0_run_1 rfl flRX0_28 rfl rfl ?_
  rw [h.2.2.2.2.2.1, h0]
  refine go_if_ne (pc' := 7) (tgt := 13) dX0_run_4 rfl (by decide) (fun h_4 => absurd h_4 (by decide)) (fun h_4 => ?_)
  refine go_iload_n (pc' := 8) dX0_run_7 rfl rfl ?_
  refine go_bipush (pc' := 10) 40 dX0_run_8 rfl (by decide) ?_
  refine go_icmp_le (pc' := 13) (tgt := 15) dX0_run_10 rfl (by decide) (fun h_10 => ?_) (fun h_10 => absurd (nI_le (b := 40) (by omega) (by decide)) h_10)
  refine go_aload_n (pc' := 16) dX0_run_15 rfl rfl ?_
  refine go_iload_n (pc' := 17) dX0_run_16 rfl rfl ?_
  refine go_cVv1 (pc' := 20) (M' := mX0_note) (d' := 1) dX0_run_17 rfl cvRX0_42 rfl rfl (by decide) rfl (Nat.le_of_ble_eq_true rfl) ?_
  refine tX0_note h (fun g1 h1 f1 => ?_)
  refine go_iload_n (pc' := 21) dX0_run_20 rfl rfl ?_
  refine go_iconst (pc' := 22) 1 dX0_run_21 rfl (by decide) ?_
  refine go_iadd (pc' := 23) dX0_run_22 rfl ?_
  rw [nI_1]
  refine go_istore (pc' := 25) dX0_run_23 rfl (by decide) rfl ?_
  refine go_iload_n (pc' := 26) dX0_run_25 rfl rfl ?_
  refine go_tableIn (pc' := 272) dX0_run_26 (by decide) (by decide) (by rfl) (by decide) ?_
  refine go_aload_n (pc' := 273) dX0_run_272 rfl rfl ?_
  refine go_iload_n (pc' := 274) dX0_run_273 rfl rfl ?_
  refine go_aload_n (pc' := 275) dX0_run_274 rfl rfl ?_
  refine go_getI (pc' := 278) dX0_run_275 rfl flRX0_25 rfl rfl ?_
  rw [h1.2.2.2.2.1]
  refine go_aload_n (pc' := 279) dX0_run_278 rfl rfl ?_
  refine go_getI (pc' := 282) dX0_run_279 rfl flRX0_22 rfl rfl ?_
  rw [h1.2.2.2.1]
  refine go_isub (pc' := 283) dX0_run_282 rfl ?_
  refine go_cVi2 (pc' := 286) (M' := mX0_quotient) (d' := 1) dX0_run_283 rfl cvRX0_46 rfl rfl (by decide) rfl (Nat.le_of_ble_eq_true rfl) ?_
  refine tX0_quotient h1 (fun q => absurd (sub0.mp q) hq) (fun _ => ?_)
  refine go_iret dX0_run_286 (pg_narI _) ?_
  unfold ppF at k
  rw [if_neg hq] at k
  exact k _ h1 f1

theorem rn_12 {sc : pg_Sc} {g : pg_S} {K : Int32 → pg_S → Prop} {kd : Nat} {nu pg x : Int32} {s : AS} {e : Nat} (h : CA g kd nu pg s) (h0 : s.2.2 = 0) (he : e + 2 ≤ 40) (k : ∀ g', CA g' kd nu pg (ppF nu pg x s).2 → FR 42 44 g g' → K (ppF nu pg x s).1 g') : pg_Cal sc 2 mX0_run [.ref 42, .int 12, .int x, .int (nI e)] g (pg_ki K) := by
  by_cases hq : pg = nu
  · exact rn_12a hq h h0 he k
  · exact rn_12b hq h h0 he k
set_option maxHeartbeats 4000000 in
set_option maxRecDepth 20000 in
theorem rn_50 {sc : pg_Sc} {g : pg_S} {K : Int32 → pg_S → Prop} {kd : Nat} {nu pg x : Int32} {s : AS} {e : Nat} (h : CA g kd nu pg s) (h0 : s.2.2 = 0) (he : e + 3 ≤ 40) (k : ∀ g', CA g' kd nu pg ((((ppF nu pg (x - nu) (noteF 50 s)).1 * 3, (ppF nu pg (x - nu) (noteF 50 s)).2) : Int32 × AS)).2 → FR 42 44 g g' → K ((((ppF nu pg (x - nu) (noteF 50 s)).1 * 3, (ppF nu pg (x - nu) (noteF 50 s)).2) : Int32 × AS)).1 g') : pg_Cal sc 3 mX0_run [.ref 42, .int 50, .int x, .int (nI e)] g (pg_ki K) := by
  refine pg_Cal.of rfl (Nat.le_of_ble_eq_true rfl) rfl ?_
  refine go_aload_n (pc' := 1) dX0_run_0 rfl rfl ?_
  refine go_getI (pc' := 4) dX0_run_1 rfl flRX0_28 rfl rfl ?_
  rw [h.2.2.2.2.2.1, h0]
  refine go_if_ne (pc' := 7) (tgt := 13) dX0_run_4 rfl (by decide) (fun h_4 => absurd h_4 (by decide)) (fun h_4 => ?_)
  refine go_iload_n (pc' := 8) dX0_run_7 rfl rfl ?_
  refine go_bipush (pc' := 10) 40 dX0_run_8 rfl (by decide) ?_
  refine go_icmp_le (pc' := 13) (tgt := 15) dX0_run_10 rfl (by decide) (fun h_10 => ?_) (fun h_10 => absurd (nI_le (b := 40) (by omega) (by decide)) h_10)
  refine go_aload_n (pc' := 16) dX0_run_15 rfl rfl ?_
  refine go_iload_n (pc' := 17) dX0_run_16 rfl rfl ?_
  refine go_cVv1 (pc' := 20) (M' := mX0_note) (d' := 1) dX0_run_17 rfl cvRX0_42 rfl rfl (by decide) rfl (Nat.le_of_ble_eq_true rfl) ?_
  refine tX0_note h (fun g1 h1 f1 => ?_)
  have h01 := (note_pt 50 s).trans h0
  refine go_iload_n (pc' := 21) dX0_run_20 rfl rfl ?_
  refine go_iconst (pc' := 22) 1 dX0_run_21 rfl (by decide) ?_
  refine go_iadd (pc' := 23) dX0_run_22 rfl ?_
  rw [nI_1]
  refine go_istore (pc' := 25) dX0_run_23 rfl (by decide) rfl ?_
  refine go_iload_n (pc' := 26) dX0_run_25 rfl rfl ?_
  refine go_tableIn (pc' := 380) dX0_run_26 (by decide) (by decide) (by rfl) (by decide) ?_
  refine go_aload_n (pc' := 381) dX0_run_380 rfl rfl ?_
  refine go_bipush (pc' := 383) 12 dX0_run_381 rfl (by decide) ?_
  refine go_iload_n (pc' := 384) dX0_run_383 rfl rfl ?_
  refine go_aload_n (pc' := 385) dX0_run_384 rfl rfl ?_
  refine go_getI (pc' := 388) dX0_run_385 rfl flRX0_22 rfl rfl ?_
  rw [h1.2.2.2.1]
  refine go_isub (pc' := 389) dX0_run_388 rfl ?_
  refine go_iload (pc' := 391) dX0_run_389 rfl rfl ?_
  refine go_cVi3 (pc' := 394) (M' := mX0_run) (d' := 2) dX0_run_391 rfl cvRX0_39 rfl rfl (by decide) rfl (Nat.le_of_ble_eq_true rfl) ?_
  refine rn_12 h1 h01 (by omega) (fun g2 h2 f2 => ?_)
  refine go_iconst (pc' := 395) 3 dX0_run_394 rfl (by decide) ?_
  refine go_imul (pc' := 396) dX0_run_395 rfl ?_
  refine go_iret dX0_run_396 (pg_narI _) ?_
  exact k _ h2 (FR.tr f1 f2)

set_option maxHeartbeats 4000000 in
set_option maxRecDepth 20000 in
theorem rn_p {sc : pg_Sc} {g : pg_S} {K : Int32 → pg_S → Prop} {kd : Nat} {nu pg b x y : Int32} {s : AS} (h : CA g kd nu pg s) (h0 : s.2.2 = 1) (k : K 0 g) : pg_Cal sc 1 mX0_run [.ref 42, .int b, .int x, .int y] g (pg_ki K) := by
  refine pg_Cal.of rfl (Nat.le_of_ble_eq_true rfl) rfl ?_
  refine go_aload_n (pc' := 1) dX0_run_0 rfl rfl ?_
  refine go_getI (pc' := 4) dX0_run_1 rfl flRX0_28 rfl rfl ?_
  rw [h.2.2.2.2.2.1, h0]
  refine go_if_ne (pc' := 7) (tgt := 13) dX0_run_4 rfl (by decide) (fun h_4 => ?_) (fun h_4 => absurd h_4 (by decide))
  refine go_iconst (pc' := 14) 0 dX0_run_13 rfl (by decide) ?_
  refine go_iret dX0_run_14 (pg_narI _) ?_
  exact k

set_option maxHeartbeats 4000000 in
set_option maxRecDepth 20000 in
theorem own_p {sc : pg_Sc} {g : pg_S} {K : Int32 → pg_S → Prop} {kd : Nat} {nu pg x y : Int32} {s : AS} (hkd : kd < 6) (h : CA g kd nu pg s) (h0 : s.2.2 = 1) (k : K 0 g) : pg_Cal sc 5 mX0_own [.ref 42, .int 0, .int x, .int y] g (pg_ki K) := by
  refine pg_Cal.of rfl (Nat.le_of_ble_eq_true rfl) rfl ?_
  refine go_aload_n (pc' := 1) dX0_own_0 rfl rfl ?_
  refine go_gs3 (pc' := 4) dX0_own_1 rfl sfRX0_36 ?_
  refine go_aload_n (pc' := 5) dX0_own_4 rfl rfl ?_
  refine go_getI (pc' := 8) dX0_own_5 rfl flRX0_19 rfl rfl ?_
  rw [h.2.2.1]
  refine go_iconst (pc' := 9) 4 dX0_own_8 rfl (by decide) ?_
  refine go_imul (pc' := 10) dX0_own_9 rfl ?_
  refine go_iload_n (pc' := 11) dX0_own_10 rfl rfl ?_
  refine go_iadd (pc' := 12) dX0_own_11 rfl ?_
  refine go_ro3 (pc' := 13) (kd * 4 + 0) dX0_own_12 rfl (by rw [show (4 : Int32) = nI 4 from rfl, show (0 : Int32) = nI 0 from rfl, pk_mul, nI_add]) (by omega) ?_
  refine go_iload_n (pc' := 14) dX0_own_13 rfl rfl ?_
  refine go_iload_n (pc' := 15) dX0_own_14 rfl rfl ?_
  refine go_cVi3 (pc' := 18) (M' := mX0_run) (d' := 1) dX0_own_15 rfl cvRX0_39 rfl rfl (by decide) rfl (Nat.le_of_ble_eq_true rfl) ?_
  refine rn_p h h0 ?_
  refine go_iret dX0_own_18 (pg_narI _) ?_
  exact k

theorem own_0g {sc : pg_Sc} {g : pg_S} {K : Int32 → pg_S → Prop} {kd : Nat} {nu pg x : Int32} {s : AS} {e : Nat} (hkd : kd < 6) (h : CA g kd nu pg s) (h0 : s.2.2 = 0 ∨ s.2.2 = 1) (he : e + 5 ≤ 40) (k : ∀ g', CA g' kd nu pg (hgF kd nu x s).2 → FR 42 44 g g' → K (hgF kd nu x s).1 g') : pg_Cal sc 5 mX0_own [.ref 42, .int 0, .int x, .int (nI e)] g (pg_ki K) := by
  unfold hgF at k
  rcases h0 with h0 | h0
  · rw [if_pos h0] at k
    exact own_0 hkd h h0 he k
  · rw [if_neg (by rw [h0]; decide)] at k
    exact own_p hkd h h0 (k _ h FR.rf)
set_option maxHeartbeats 4000000 in
set_option maxRecDepth 20000 in
theorem rn_61 {sc : pg_Sc} {g : pg_S} {K : Int32 → pg_S → Prop} {kd : Nat} {nu pg x : Int32} {s : AS} {e : Nat} (hkd : kd < 6) (h : CA g kd nu pg s) (h0 : s.2.2 = 0) (he : e + 6 ≤ 40) (k : ∀ g', CA g' kd nu pg ((((ppF nu pg x (noteF 61 s)).1 - (hgF kd nu nu (ppF nu pg x (noteF 61 s)).2).1, (hgF kd nu nu (ppF nu pg x (noteF 61 s)).2).2) : Int32 × AS)).2 → FR 42 44 g g' → K ((((ppF nu pg x (noteF 61 s)).1 - (hgF kd nu nu (ppF nu pg x (noteF 61 s)).2).1, (hgF kd nu nu (ppF nu pg x (noteF 61 s)).2).2) : Int32 × AS)).1 g') : pg_Cal sc 6 mX0_run [.ref 42, .int 61, .int x, .int (nI e)] g (pg_ki K) := by
  refine pg_Cal.of rfl (Nat.le_of_ble_eq_true rfl) rfl ?_
  refine go_aload_n (pc' := 1) dX0_run_0 rfl rfl ?_
  refine go_getI (pc' := 4) dX0_run_1 rfl flRX0_28 rfl rfl ?_
  rw [h.2.2.2.2.2.1, h0]
  refine go_if_ne (pc' := 7) (tgt := 13) dX0_run_4 rfl (by decide) (fun h_4 => absurd h_4 (by decide)) (fun h_4 => ?_)
  refine go_iload_n (pc' := 8) dX0_run_7 rfl rfl ?_
  refine go_bipush (pc' := 10) 40 dX0_run_8 rfl (by decide) ?_
  refine go_icmp_le (pc' := 13) (tgt := 15) dX0_run_10 rfl (by decide) (fun h_10 => ?_) (fun h_10 => absurd (nI_le (b := 40) (by omega) (by decide)) h_10)
  refine go_aload_n (pc' := 16) dX0_run_15 rfl rfl ?_
  refine go_iload_n (pc' := 17) dX0_run_16 rfl rfl ?_
  refine go_cVv1 (pc' := 20) (M' := mX0_note) (d' := 1) dX0_run_17 rfl cvRX0_42 rfl rfl (by decide) rfl (Nat.le_of_ble_eq_true rfl) ?_
  refine tX0_note h (fun g1 h1 f1 => ?_)
  have h01 := (note_pt 61 s).trans h0
  refine go_iload_n (pc' := 21) dX0_run_20 rfl rfl ?_
  refine go_iconst (pc' := 22) 1 dX0_run_21 rfl (by decide) ?_
  refine go_iadd (pc' := 23) dX0_run_22 rfl ?_
  rw [nI_1]
  refine go_istore (pc' := 25) dX0_run_23 rfl (by decide) rfl ?_
  refine go_iload_n (pc' := 26) dX0_run_25 rfl rfl ?_
  refine go_tableIn (pc' := 421) dX0_run_26 (by decide) (by decide) (by rfl) (by decide) ?_
  refine go_aload_n (pc' := 422) dX0_run_421 rfl rfl ?_
  refine go_bipush (pc' := 424) 12 dX0_run_422 rfl (by decide) ?_
  refine go_iload_n (pc' := 425) dX0_run_424 rfl rfl ?_
  refine go_iload (pc' := 427) dX0_run_425 rfl rfl ?_
  refine go_cVi3 (pc' := 430) (M' := mX0_run) (d' := 2) dX0_run_427 rfl cvRX0_39 rfl rfl (by decide) rfl (Nat.le_of_ble_eq_true rfl) ?_
  refine rn_12 h1 h01 (by omega) (fun g2 h2 f2 => ?_)
  refine go_aload_n (pc' := 431) dX0_run_430 rfl rfl ?_
  refine go_iconst (pc' := 432) 0 dX0_run_431 rfl (by decide) ?_
  refine go_aload_n (pc' := 433) dX0_run_432 rfl rfl ?_
  refine go_getI (pc' := 436) dX0_run_433 rfl flRX0_22 rfl rfl ?_
  rw [h2.2.2.2.1]
  refine go_iload (pc' := 438) dX0_run_436 rfl rfl ?_
  refine go_cVi3 (pc' := 441) (M' := mX0_own) (d' := 5) dX0_run_438 rfl cvRX0_32 rfl rfl (by decide) rfl (Nat.le_of_ble_eq_true rfl) ?_
  refine own_0g hkd h2 (pp_01 h01) (by omega) (fun g3 h3 f3 => ?_)
  refine go_isub (pc' := 442) dX0_run_441 rfl ?_
  refine go_iret dX0_run_442 (pg_narI _) ?_
  exact k _ h3 (FR.tr (FR.tr f1 f2) f3)

set_option maxHeartbeats 4000000 in
set_option maxRecDepth 20000 in
theorem own_2_0 {sc : pg_Sc} {g : pg_S} {K : Int32 → pg_S → Prop} {nu pg x : Int32} {s : AS} {e : Nat} (h : CA g 0 nu pg s) (h0 : s.2.2 = 0) (he : e + 7 ≤ 40) (k : ∀ g', CA g' 0 nu pg (ptF 0 nu pg x s).2 → FR 42 44 g g' → K (ptF 0 nu pg x s).1 g') : pg_Cal sc 7 mX0_own [.ref 42, .int 2, .int x, .int (nI e)] g (pg_ki K) := by
  refine pg_Cal.of rfl (Nat.le_of_ble_eq_true rfl) rfl ?_
  refine go_aload_n (pc' := 1) dX0_own_0 rfl rfl ?_
  refine go_gs3 (pc' := 4) dX0_own_1 rfl sfRX0_36 ?_
  refine go_aload_n (pc' := 5) dX0_own_4 rfl rfl ?_
  refine go_getI (pc' := 8) dX0_own_5 rfl flRX0_19 rfl rfl ?_
  rw [h.2.2.1]
  refine go_iconst (pc' := 9) 4 dX0_own_8 rfl (by decide) ?_
  refine go_imul (pc' := 10) dX0_own_9 rfl ?_
  refine go_iload_n (pc' := 11) dX0_own_10 rfl rfl ?_
  refine go_iadd (pc' := 12) dX0_own_11 rfl ?_
  refine go_ro3 (pc' := 13) 2 dX0_own_12 rfl (by decide) (by decide) ?_
  rw [show pg_t3.getD 2 0 = 12 from rfl]
  refine go_iload_n (pc' := 14) dX0_own_13 rfl rfl ?_
  refine go_iload_n (pc' := 15) dX0_own_14 rfl rfl ?_
  refine go_cVi3 (pc' := 18) (M' := mX0_run) (d' := 2) dX0_own_15 rfl cvRX0_39 rfl rfl (by decide) rfl (Nat.le_of_ble_eq_true rfl) ?_
  refine rn_12 h h0 (by omega) (fun g2 h2 f2 => ?_)
  refine go_iret dX0_own_18 (pg_narI _) ?_
  exact k _ h2 f2

set_option maxHeartbeats 4000000 in
set_option maxRecDepth 20000 in
theorem own_2_1 {sc : pg_Sc} {g : pg_S} {K : Int32 → pg_S → Prop} {nu pg x : Int32} {s : AS} {e : Nat} (h : CA g 1 nu pg s) (h0 : s.2.2 = 0) (he : e + 7 ≤ 40) (k : ∀ g', CA g' 1 nu pg (ptF 1 nu pg x s).2 → FR 42 44 g g' → K (ptF 1 nu pg x s).1 g') : pg_Cal sc 7 mX0_own [.ref 42, .int 2, .int x, .int (nI e)] g (pg_ki K) := by
  refine pg_Cal.of rfl (Nat.le_of_ble_eq_true rfl) rfl ?_
  refine go_aload_n (pc' := 1) dX0_own_0 rfl rfl ?_
  refine go_gs3 (pc' := 4) dX0_own_1 rfl sfRX0_36 ?_
  refine go_aload_n (pc' := 5) dX0_own_4 rfl rfl ?_
  refine go_getI (pc' := 8) dX0_own_5 rfl flRX0_19 rfl rfl ?_
  rw [h.2.2.1]
  refine go_iconst (pc' := 9) 4 dX0_own_8 rfl (by decide) ?_
  refine go_imul (pc' := 10) dX0_own_9 rfl ?_
  refine go_iload_n (pc' := 11) dX0_own_10 rfl rfl ?_
  refine go_iadd (pc' := 12) dX0_own_11 rfl ?_
  refine go_ro3 (pc' := 13) 6 dX0_own_12 rfl (by decide) (by decide) ?_
  rw [show pg_t3.getD 6 0 = 12 from rfl]
  refine go_iload_n (pc' := 14) dX0_own_13 rfl rfl ?_
  refine go_iload_n (pc' := 15) dX0_own_14 rfl rfl ?_
  refine go_cVi3 (pc' := 18) (M' := mX0_run) (d' := 2) dX0_own_15 rfl cvRX0_39 rfl rfl (by decide) rfl (Nat.le_of_ble_eq_true rfl) ?_
  refine rn_12 h h0 (by omega) (fun g2 h2 f2 => ?_)
  refine go_iret dX0_own_18 (pg_narI _) ?_
  exact k _ h2 f2

set_option maxHeartbeats 4000000 in
set_option maxRecDepth 20000 in
theorem own_2_2 {sc : pg_Sc} {g : pg_S} {K : Int32 → pg_S → Prop} {nu pg x : Int32} {s : AS} {e : Nat} (h : CA g 2 nu pg s) (h0 : s.2.2 = 0) (he : e + 7 ≤ 40) (k : ∀ g', CA g' 2 nu pg (ptF 2 nu pg x s).2 → FR 42 44 g g' → K (ptF 2 nu pg x s).1 g') : pg_Cal sc 7 mX0_own [.ref 42, .int 2, .int x, .int (nI e)] g (pg_ki K) := by
  refine pg_Cal.of rfl (Nat.le_of_ble_eq_true rfl) rfl ?_
  refine go_aload_n (pc' := 1) dX0_own_0 rfl rfl ?_
  refine go_gs3 (pc' := 4) dX0_own_1 rfl sfRX0_36 ?_
  refine go_aload_n (pc' := 5) dX0_own_4 rfl rfl ?_
  refine go_getI (pc' := 8) dX0_own_5 rfl flRX0_19 rfl rfl ?_
  rw [h.2.2.1]
  refine go_iconst (pc' := 9) 4 dX0_own_8 rfl (by decide) ?_
  refine go_imul (pc' := 10) dX0_own_9 rfl ?_
  refine go_iload_n (pc' := 11) dX0_own_10 rfl rfl ?_
  refine go_iadd (pc' := 12) dX0_own_11 rfl ?_
  refine go_ro3 (pc' := 13) 10 dX0_own_12 rfl (by decide) (by decide) ?_
  rw [show pg_t3.getD 10 0 = 12 from rfl]
  refine go_iload_n (pc' := 14) dX0_own_13 rfl rfl ?_
  refine go_iload_n (pc' := 15) dX0_own_14 rfl rfl ?_
  refine go_cVi3 (pc' := 18) (M' := mX0_run) (d' := 2) dX0_own_15 rfl cvRX0_39 rfl rfl (by decide) rfl (Nat.le_of_ble_eq_true rfl) ?_
  refine rn_12 h h0 (by omega) (fun g2 h2 f2 => ?_)
  refine go_iret dX0_own_18 (pg_narI _) ?_
  exact k _ h2 f2

set_option maxHeartbeats 4000000 in
set_option maxRecDepth 20000 in
theorem own_2_3 {sc : pg_Sc} {g : pg_S} {K : Int32 → pg_S → Prop} {nu pg x : Int32} {s : AS} {e : Nat} (h : CA g 3 nu pg s) (h0 : s.2.2 = 0) (he : e + 7 ≤ 40) (k : ∀ g', CA g' 3 nu pg (ptF 3 nu pg x s).2 → FR 42 44 g g' → K (ptF 3 nu pg x s).1 g') : pg_Cal sc 7 mX0_own [.ref 42, .int 2, .int x, .int (nI e)] g (pg_ki K) := by
  refine pg_Cal.of rfl (Nat.le_of_ble_eq_true rfl) rfl ?_
  refine go_aload_n (pc' := 1) dX0_own_0 rfl rfl ?_
  refine go_gs3 (pc' := 4) dX0_own_1 rfl sfRX0_36 ?_
  refine go_aload_n (pc' := 5) dX0_own_4 rfl rfl ?_
  refine go_getI (pc' := 8) dX0_own_5 rfl flRX0_19 rfl rfl ?_
  rw [h.2.2.1]
  refine go_iconst (pc' := 9) 4 dX0_own_8 rfl (by decide) ?_
  refine go_imul (pc' := 10) dX0_own_9 rfl ?_
  refine go_iload_n (pc' := 11) dX0_own_10 rfl rfl ?_
  refine go_iadd (pc' := 12) dX0_own_11 rfl ?_
  refine go_ro3 (pc' := 13) 14 dX0_own_12 rfl (by decide) (by decide) ?_
  rw [show pg_t3.getD 14 0 = 50 from rfl]
  refine go_iload_n (pc' := 14) dX0_own_13 rfl rfl ?_
  refine go_iload_n (pc' := 15) dX0_own_14 rfl rfl ?_
  refine go_cVi3 (pc' := 18) (M' := mX0_run) (d' := 3) dX0_own_15 rfl cvRX0_39 rfl rfl (by decide) rfl (Nat.le_of_ble_eq_true rfl) ?_
  refine rn_50 h h0 (by omega) (fun g2 h2 f2 => ?_)
  refine go_iret dX0_own_18 (pg_narI _) ?_
  exact k _ h2 f2

set_option maxHeartbeats 4000000 in
set_option maxRecDepth 20000 in
theorem own_2_4 {sc : pg_Sc} {g : pg_S} {K : Int32 → pg_S → Prop} {nu pg x : Int32} {s : AS} {e : Nat} (h : CA g 4 nu pg s) (h0 : s.2.2 = 0) (he : e + 7 ≤ 40) (k : ∀ g', CA g' 4 nu pg (ptF 4 nu pg x s).2 → FR 42 44 g g' → K (ptF 4 nu pg x s).1 g') : pg_Cal sc 7 mX0_own [.ref 42, .int 2, .int x, .int (nI e)] g (pg_ki K) := by
  refine pg_Cal.of rfl (Nat.le_of_ble_eq_true rfl) rfl ?_
  refine go_aload_n (pc' := 1) dX0_own_0 rfl rfl ?_
  refine go_gs3 (pc' := 4) dX0_own_1 rfl sfRX0_36 ?_
  refine go_aload_n (pc' := 5) dX0_own_4 rfl rfl ?_
  refine go_getI (pc' := 8) dX0_own_5 rfl flRX0_19 rfl rfl ?_
  rw [h.2.2.1]
  refine go_iconst (pc' := 9) 4 dX0_own_8 rfl (by decide) ?_
  refine go_imul (pc' := 10) dX0_own_9 rfl ?_
  refine go_iload_n (pc' := 11) dX0_own_10 rfl rfl ?_
  refine go_iadd (pc' := 12) dX0_own_11 rfl ?_
  refine go_ro3 (pc' := 13) 18 dX0_own_12 rfl (by decide) (by decide) ?_
  rw [show pg_t3.getD 18 0 = 12 from rfl]
  refine go_iload_n (pc' := 14) dX0_own_13 rfl rfl ?_
  refine go_iload_n (pc' := 15) dX0_own_14 rfl rfl ?_
  refine go_cVi3 (pc' := 18) (M' := mX0_run) (d' := 2) dX0_own_15 rfl cvRX0_39 rfl rfl (by decide) rfl (Nat.le_of_ble_eq_true rfl) ?_
  refine rn_12 h h0 (by omega) (fun g2 h2 f2 => ?_)
  refine go_iret dX0_own_18 (pg_narI _) ?_
  exact k _ h2 f2

set_option maxHeartbeats 4000000 in
set_option maxRecDepth 20000 in
theorem own_2_5 {sc : pg_Sc} {g : pg_S} {K : Int32 → pg_S → Prop} {nu pg x : Int32} {s : AS} {e : Nat} (h : CA g 5 nu pg s) (h0 : s.2.2 = 0) (he : e + 7 ≤ 40) (k : ∀ g', CA g' 5 nu pg (ptF 5 nu pg x s).2 → FR 42 44 g g' → K (ptF 5 nu pg x s).1 g') : pg_Cal sc 7 mX0_own [.ref 42, .int 2, .int x, .int (nI e)] g (pg_ki K) := by
  refine pg_Cal.of rfl (Nat.le_of_ble_eq_true rfl) rfl ?_
  refine go_aload_n (pc' := 1) dX0_own_0 rfl rfl ?_
  refine go_gs3 (pc' := 4) dX0_own_1 rfl sfRX0_36 ?_
  refine go_aload_n (pc' := 5) dX0_own_4 rfl rfl ?_
  refine go_getI (pc' := 8) dX0_own_5 rfl flRX0_19 rfl rfl ?_
  rw [h.2.2.1]
  refine go_iconst (pc' := 9) 4 dX0_own_8 rfl (by decide) ?_
  refine go_imul (pc' := 10) dX0_own_9 rfl ?_
  refine go_iload_n (pc' := 11) dX0_own_10 rfl rfl ?_
  refine go_iadd (pc' := 12) dX0_own_11 rfl ?_
  refine go_ro3 (pc' := 13) 22 dX0_own_12 rfl (by decide) (by decide) ?_
  rw [show pg_t3.getD 22 0 = 61 from rfl]
  refine go_iload_n (pc' := 14) dX0_own_13 rfl rfl ?_
  refine go_iload_n (pc' := 15) dX0_own_14 rfl rfl ?_
  refine go_cVi3 (pc' := 18) (M' := mX0_run) (d' := 6) dX0_own_15 rfl cvRX0_39 rfl rfl (by decide) rfl (Nat.le_of_ble_eq_true rfl) ?_
  refine rn_61 (by decide) h h0 (by omega) (fun g2 h2 f2 => ?_)
  refine go_iret dX0_own_18 (pg_narI _) ?_
  exact k _ h2 f2

theorem own_2 {sc : pg_Sc} {g : pg_S} {K : Int32 → pg_S → Prop} {kd : Nat} {nu pg x : Int32} {s : AS} {e : Nat} (hkd : kd < 6) (h : CA g kd nu pg s) (h0 : s.2.2 = 0) (he : e + 7 ≤ 40) (k : ∀ g', CA g' kd nu pg (ptF kd nu pg x s).2 → FR 42 44 g g' → K (ptF kd nu pg x s).1 g') : pg_Cal sc 7 mX0_own [.ref 42, .int 2, .int x, .int (nI e)] g (pg_ki K) := by
  rcases (show kd = 0 ∨ kd = 1 ∨ kd = 2 ∨ kd = 3 ∨ kd = 4 ∨ kd = 5 by omega) with rfl | rfl | rfl | rfl | rfl | rfl
  · exact own_2_0 h h0 he k
  · exact own_2_1 h h0 he k
  · exact own_2_2 h h0 he k
  · exact own_2_3 h h0 he k
  · exact own_2_4 h h0 he k
  · exact own_2_5 h h0 he k
set_option maxHeartbeats 4000000 in
set_option maxRecDepth 20000 in
theorem rn_13 {sc : pg_Sc} {g : pg_S} {K : Int32 → pg_S → Prop} {kd : Nat} {nu pg x : Int32} {s : AS} {e : Nat} (hkd : kd < 6) (h : CA g kd nu pg s) (h0 : s.2.2 = 0) (he : e + 9 ≤ 40) (k : ∀ g', CA g' kd nu pg (pcF kd nu pg x s).2 → FR 42 44 g g' → K (pcF kd nu pg x s).1 g') : pg_Cal sc 9 mX0_run [.ref 42, .int 13, .int x, .int (nI e)] g (pg_ki K) := by
  refine pg_Cal.of rfl (Nat.le_of_ble_eq_true rfl) rfl ?_
  refine go_aload_n (pc' := 1) dX0_run_0 rfl rfl ?_
  refine go_getI (pc' := 4) dX0_run_1 rfl flRX0_28 rfl rfl ?_
  rw [h.2.2.2.2.2.1, h0]
  refine go_if_ne (pc' := 7) (tgt := 13) dX0_run_4 rfl (by decide) (fun h_4 => absurd h_4 (by decide)) (fun h_4 => ?_)
  refine go_iload_n (pc' := 8) dX0_run_7 rfl rfl ?_
  refine go_bipush (pc' := 10) 40 dX0_run_8 rfl (by decide) ?_
  refine go_icmp_le (pc' := 13) (tgt := 15) dX0_run_10 rfl (by decide) (fun h_10 => ?_) (fun h_10 => absurd (nI_le (b := 40) (by omega) (by decide)) h_10)
  refine go_aload_n (pc' := 16) dX0_run_15 rfl rfl ?_
  refine go_iload_n (pc' := 17) dX0_run_16 rfl rfl ?_
  refine go_cVv1 (pc' := 20) (M' := mX0_note) (d' := 1) dX0_run_17 rfl cvRX0_42 rfl rfl (by decide) rfl (Nat.le_of_ble_eq_true rfl) ?_
  refine tX0_note h (fun g1 h1 f1 => ?_)
  have h01 := (note_pt 13 s).trans h0
  refine go_iload_n (pc' := 21) dX0_run_20 rfl rfl ?_
  refine go_iconst (pc' := 22) 1 dX0_run_21 rfl (by decide) ?_
  refine go_iadd (pc' := 23) dX0_run_22 rfl ?_
  rw [nI_1]
  refine go_istore (pc' := 25) dX0_run_23 rfl (by decide) rfl ?_
  refine go_iload_n (pc' := 26) dX0_run_25 rfl rfl ?_
  refine go_tableIn (pc' := 287) dX0_run_26 (by decide) (by decide) (by rfl) (by decide) ?_
  refine go_aload_n (pc' := 288) dX0_run_287 rfl rfl ?_
  refine go_iconst (pc' := 289) 1 dX0_run_288 rfl (by decide) ?_
  refine go_iload_n (pc' := 290) dX0_run_289 rfl rfl ?_
  refine go_iload (pc' := 292) dX0_run_290 rfl rfl ?_
  refine go_cVi3 (pc' := 295) (M' := mX0_own) (d' := 8) dX0_run_292 rfl cvRX0_32 rfl rfl (by decide) rfl (Nat.le_of_ble_eq_true rfl) ?_
  refine own_1 hkd h1 h01 (by omega) (fun g2 h2 f2 => ?_)
  refine go_bipush (pc' := 297) 50 dX0_run_295 rfl (by decide) ?_
  refine go_ixor (pc' := 298) dX0_run_297 rfl ?_
  refine go_iret dX0_run_298 (pg_narI _) ?_
  exact k _ h2 (FR.tr f1 f2)

set_option maxHeartbeats 4000000 in
set_option maxRecDepth 20000 in
theorem rn_31 {sc : pg_Sc} {g : pg_S} {K : Int32 → pg_S → Prop} {kd : Nat} {nu pg x : Int32} {s : AS} {e : Nat} (hkd : kd < 6) (h : CA g kd nu pg s) (h0 : s.2.2 = 0) (he : e + 10 ≤ 40) (k : ∀ g', CA g' kd nu pg ((((pcF kd nu pg x (noteF 31 s)).1 - (ptF kd nu pg nu (pcF kd nu pg x (noteF 31 s)).2).1, (ptF kd nu pg nu (pcF kd nu pg x (noteF 31 s)).2).2) : Int32 × AS)).2 → FR 42 44 g g' → K ((((pcF kd nu pg x (noteF 31 s)).1 - (ptF kd nu pg nu (pcF kd nu pg x (noteF 31 s)).2).1, (ptF kd nu pg nu (pcF kd nu pg x (noteF 31 s)).2).2) : Int32 × AS)).1 g') : pg_Cal sc 10 mX0_run [.ref 42, .int 31, .int x, .int (nI e)] g (pg_ki K) := by
  refine pg_Cal.of rfl (Nat.le_of_ble_eq_true rfl) rfl ?_
  refine go_aload_n (pc' := 1) dX0_run_0 rfl rfl ?_
  refine go_getI (pc' := 4) dX0_run_1 rfl flRX0_28 rfl rfl ?_
  rw [h.2.2.2.2.2.1, h0]
  refine go_if_ne (pc' := 7) (tgt := 13) dX0_run_4 rfl (by decide) (fun h_4 => absurd h_4 (by decide)) (fun h_4 => ?_)
  refine go_iload_n (pc' := 8) dX0_run_7 rfl rfl ?_
  refine go_bipush (pc' := 10) 40 dX0_run_8 rfl (by decide) ?_
  refine go_icmp_le (pc' := 13) (tgt := 15) dX0_run_10 rfl (by decide) (fun h_10 => ?_) (fun h_10 => absurd (nI_le (b := 40) (by omega) (by decide)) h_10)
  refine go_aload_n (pc' := 16) dX0_run_15 rfl rfl ?_
  refine go_iload_n (pc' := 17) dX0_run_16 rfl rfl ?_
  refine go_cVv1 (pc' := 20) (M' := mX0_note) (d' := 1) dX0_run_17 rfl cvRX0_42 rfl rfl (by decide) rfl (Nat.le_of_ble_eq_true rfl) ?_
  refine tX0_note h (fun g1 h1 f1 => ?_)
  have h01 := (note_pt 31 s).trans h0
  refine go_iload_n (pc' := 21) dX0_run_20 rfl rfl ?_
  refine go_iconst (pc' := 22) 1 dX0_run_21 rfl (by decide) ?_
  refine go_iadd (pc' := 23) dX0_run_22 rfl ?_
  rw [nI_1]
  refine go_istore (pc' := 25) dX0_run_23 rfl (by decide) rfl ?_
  refine go_iload_n (pc' := 26) dX0_run_25 rfl rfl ?_
  refine go_tableIn (pc' := 323) dX0_run_26 (by decide) (by decide) (by rfl) (by decide) ?_
  refine go_aload_n (pc' := 324) dX0_run_323 rfl rfl ?_
  refine go_bipush (pc' := 326) 13 dX0_run_324 rfl (by decide) ?_
  refine go_iload_n (pc' := 327) dX0_run_326 rfl rfl ?_
  refine go_iload (pc' := 329) dX0_run_327 rfl rfl ?_
  refine go_cVi3 (pc' := 332) (M' := mX0_run) (d' := 9) dX0_run_329 rfl cvRX0_39 rfl rfl (by decide) rfl (Nat.le_of_ble_eq_true rfl) ?_
  refine rn_13 hkd h1 h01 (by omega) (fun g2 h2 f2 => ?_)
  refine go_aload_n (pc' := 333) dX0_run_332 rfl rfl ?_
  refine go_iconst (pc' := 334) 2 dX0_run_333 rfl (by decide) ?_
  refine go_aload_n (pc' := 335) dX0_run_334 rfl rfl ?_
  refine go_getI (pc' := 338) dX0_run_335 rfl flRX0_22 rfl rfl ?_
  rw [h2.2.2.2.1]
  refine go_iload (pc' := 340) dX0_run_338 rfl rfl ?_
  refine go_cVi3 (pc' := 343) (M' := mX0_own) (d' := 7) dX0_run_340 rfl cvRX0_32 rfl rfl (by decide) rfl (Nat.le_of_ble_eq_true rfl) ?_
  refine own_2 hkd h2 ((pc_pt kd nu pg x _).trans h01) (by omega) (fun g3 h3 f3 => ?_)
  refine go_isub (pc' := 344) dX0_run_343 rfl ?_
  refine go_iret dX0_run_344 (pg_narI _) ?_
  exact k _ h3 (FR.tr (FR.tr f1 f2) f3)

set_option maxHeartbeats 4000000 in
set_option maxRecDepth 20000 in
theorem rn_60 {sc : pg_Sc} {g : pg_S} {K : Int32 → pg_S → Prop} {kd : Nat} {nu pg x : Int32} {s : AS} {e : Nat} (hkd : kd < 6) (h : CA g kd nu pg s) (h0 : s.2.2 = 0) (he : e + 10 ≤ 40) (k : ∀ g', CA g' kd nu pg ((((pcF kd nu pg x (noteF 60 s)).1 * 2, (pcF kd nu pg x (noteF 60 s)).2) : Int32 × AS)).2 → FR 42 44 g g' → K ((((pcF kd nu pg x (noteF 60 s)).1 * 2, (pcF kd nu pg x (noteF 60 s)).2) : Int32 × AS)).1 g') : pg_Cal sc 10 mX0_run [.ref 42, .int 60, .int x, .int (nI e)] g (pg_ki K) := by
  refine pg_Cal.of rfl (Nat.le_of_ble_eq_true rfl) rfl ?_
  refine go_aload_n (pc' := 1) dX0_run_0 rfl rfl ?_
  refine go_getI (pc' := 4) dX0_run_1 rfl flRX0_28 rfl rfl ?_
  rw [h.2.2.2.2.2.1, h0]
  refine go_if_ne (pc' := 7) (tgt := 13) dX0_run_4 rfl (by decide) (fun h_4 => absurd h_4 (by decide)) (fun h_4 => ?_)
  refine go_iload_n (pc' := 8) dX0_run_7 rfl rfl ?_
  refine go_bipush (pc' := 10) 40 dX0_run_8 rfl (by decide) ?_
  refine go_icmp_le (pc' := 13) (tgt := 15) dX0_run_10 rfl (by decide) (fun h_10 => ?_) (fun h_10 => absurd (nI_le (b := 40) (by omega) (by decide)) h_10)
  refine go_aload_n (pc' := 16) dX0_run_15 rfl rfl ?_
  refine go_iload_n (pc' := 17) dX0_run_16 rfl rfl ?_
  refine go_cVv1 (pc' := 20) (M' := mX0_note) (d' := 1) dX0_run_17 rfl cvRX0_42 rfl rfl (by decide) rfl (Nat.le_of_ble_eq_true rfl) ?_
  refine tX0_note h (fun g1 h1 f1 => ?_)
  have h01 := (note_pt 60 s).trans h0
  refine go_iload_n (pc' := 21) dX0_run_20 rfl rfl ?_
  refine go_iconst (pc' := 22) 1 dX0_run_21 rfl (by decide) ?_
  refine go_iadd (pc' := 23) dX0_run_22 rfl ?_
  rw [nI_1]
  refine go_istore (pc' := 25) dX0_run_23 rfl (by decide) rfl ?_
  refine go_iload_n (pc' := 26) dX0_run_25 rfl rfl ?_
  refine go_tableIn (pc' := 409) dX0_run_26 (by decide) (by decide) (by rfl) (by decide) ?_
  refine go_aload_n (pc' := 410) dX0_run_409 rfl rfl ?_
  refine go_bipush (pc' := 412) 13 dX0_run_410 rfl (by decide) ?_
  refine go_iload_n (pc' := 413) dX0_run_412 rfl rfl ?_
  refine go_iload (pc' := 415) dX0_run_413 rfl rfl ?_
  refine go_cVi3 (pc' := 418) (M' := mX0_run) (d' := 9) dX0_run_415 rfl cvRX0_39 rfl rfl (by decide) rfl (Nat.le_of_ble_eq_true rfl) ?_
  refine rn_13 hkd h1 h01 (by omega) (fun g2 h2 f2 => ?_)
  refine go_iconst (pc' := 419) 2 dX0_run_418 rfl (by decide) ?_
  refine go_imul (pc' := 420) dX0_run_419 rfl ?_
  refine go_iret dX0_run_420 (pg_narI _) ?_
  exact k _ h2 (FR.tr f1 f2)

set_option maxHeartbeats 4000000 in
set_option maxRecDepth 20000 in
theorem own_3_0 {sc : pg_Sc} {g : pg_S} {K : Int32 → pg_S → Prop} {nu pg x : Int32} {s : AS} {e : Nat} (h : CA g 0 nu pg s) (h0 : s.2.2 = 0) (he : e + 11 ≤ 40) (k : ∀ g', CA g' 0 nu pg (clF2 0 nu pg x s).2 → FR 42 44 g g' → K (clF2 0 nu pg x s).1 g') : pg_Cal sc 11 mX0_own [.ref 42, .int 3, .int x, .int (nI e)] g (pg_ki K) := by
  refine pg_Cal.of rfl (Nat.le_of_ble_eq_true rfl) rfl ?_
  refine go_aload_n (pc' := 1) dX0_own_0 rfl rfl ?_
  refine go_gs3 (pc' := 4) dX0_own_1 rfl sfRX0_36 ?_
  refine go_aload_n (pc' := 5) dX0_own_4 rfl rfl ?_
  refine go_getI (pc' := 8) dX0_own_5 rfl flRX0_19 rfl rfl ?_
  rw [h.2.2.1]
  refine go_iconst (pc' := 9) 4 dX0_own_8 rfl (by decide) ?_
  refine go_imul (pc' := 10) dX0_own_9 rfl ?_
  refine go_iload_n (pc' := 11) dX0_own_10 rfl rfl ?_
  refine go_iadd (pc' := 12) dX0_own_11 rfl ?_
  refine go_ro3 (pc' := 13) 3 dX0_own_12 rfl (by decide) (by decide) ?_
  rw [show pg_t3.getD 3 0 = 13 from rfl]
  refine go_iload_n (pc' := 14) dX0_own_13 rfl rfl ?_
  refine go_iload_n (pc' := 15) dX0_own_14 rfl rfl ?_
  refine go_cVi3 (pc' := 18) (M' := mX0_run) (d' := 9) dX0_own_15 rfl cvRX0_39 rfl rfl (by decide) rfl (Nat.le_of_ble_eq_true rfl) ?_
  refine rn_13 (by decide) h h0 (by omega) (fun g2 h2 f2 => ?_)
  refine go_iret dX0_own_18 (pg_narI _) ?_
  exact k _ h2 f2

set_option maxHeartbeats 4000000 in
set_option maxRecDepth 20000 in
theorem own_3_1 {sc : pg_Sc} {g : pg_S} {K : Int32 → pg_S → Prop} {nu pg x : Int32} {s : AS} {e : Nat} (h : CA g 1 nu pg s) (h0 : s.2.2 = 0) (he : e + 11 ≤ 40) (k : ∀ g', CA g' 1 nu pg (clF2 1 nu pg x s).2 → FR 42 44 g g' → K (clF2 1 nu pg x s).1 g') : pg_Cal sc 11 mX0_own [.ref 42, .int 3, .int x, .int (nI e)] g (pg_ki K) := by
  refine pg_Cal.of rfl (Nat.le_of_ble_eq_true rfl) rfl ?_
  refine go_aload_n (pc' := 1) dX0_own_0 rfl rfl ?_
  refine go_gs3 (pc' := 4) dX0_own_1 rfl sfRX0_36 ?_
  refine go_aload_n (pc' := 5) dX0_own_4 rfl rfl ?_
  refine go_getI (pc' := 8) dX0_own_5 rfl flRX0_19 rfl rfl ?_
  rw [h.2.2.1]
  refine go_iconst (pc' := 9) 4 dX0_own_8 rfl (by decide) ?_
  refine go_imul (pc' := 10) dX0_own_9 rfl ?_
  refine go_iload_n (pc' := 11) dX0_own_10 rfl rfl ?_
  refine go_iadd (pc' := 12) dX0_own_11 rfl ?_
  refine go_ro3 (pc' := 13) 7 dX0_own_12 rfl (by decide) (by decide) ?_
  rw [show pg_t3.getD 7 0 = 13 from rfl]
  refine go_iload_n (pc' := 14) dX0_own_13 rfl rfl ?_
  refine go_iload_n (pc' := 15) dX0_own_14 rfl rfl ?_
  refine go_cVi3 (pc' := 18) (M' := mX0_run) (d' := 9) dX0_own_15 rfl cvRX0_39 rfl rfl (by decide) rfl (Nat.le_of_ble_eq_true rfl) ?_
  refine rn_13 (by decide) h h0 (by omega) (fun g2 h2 f2 => ?_)
  refine go_iret dX0_own_18 (pg_narI _) ?_
  exact k _ h2 f2

set_option maxHeartbeats 4000000 in
set_option maxRecDepth 20000 in
theorem own_3_2 {sc : pg_Sc} {g : pg_S} {K : Int32 → pg_S → Prop} {nu pg x : Int32} {s : AS} {e : Nat} (h : CA g 2 nu pg s) (h0 : s.2.2 = 0) (he : e + 11 ≤ 40) (k : ∀ g', CA g' 2 nu pg (clF2 2 nu pg x s).2 → FR 42 44 g g' → K (clF2 2 nu pg x s).1 g') : pg_Cal sc 11 mX0_own [.ref 42, .int 3, .int x, .int (nI e)] g (pg_ki K) := by
  refine pg_Cal.of rfl (Nat.le_of_ble_eq_true rfl) rfl ?_
  refine go_aload_n (pc' := 1) dX0_own_0 rfl rfl ?_
  refine go_gs3 (pc' := 4) dX0_own_1 rfl sfRX0_36 ?_
  refine go_aload_n (pc' := 5) dX0_own_4 rfl rfl ?_
  refine go_getI (pc' := 8) dX0_own_5 rfl flRX0_19 rfl rfl ?_
  rw [h.2.2.1]
  refine go_iconst (pc' := 9) 4 dX0_own_8 rfl (by decide) ?_
  refine go_imul (pc' := 10) dX0_own_9 rfl ?_
  refine go_iload_n (pc' := 11) dX0_own_10 rfl rfl ?_
  refine go_iadd (pc' := 12) dX0_own_11 rfl ?_
  refine go_ro3 (pc' := 13) 11 dX0_own_12 rfl (by decide) (by decide) ?_
  rw [show pg_t3.getD 11 0 = 31 from rfl]
  refine go_iload_n (pc' := 14) dX0_own_13 rfl rfl ?_
  refine go_iload_n (pc' := 15) dX0_own_14 rfl rfl ?_
  refine go_cVi3 (pc' := 18) (M' := mX0_run) (d' := 10) dX0_own_15 rfl cvRX0_39 rfl rfl (by decide) rfl (Nat.le_of_ble_eq_true rfl) ?_
  refine rn_31 (by decide) h h0 (by omega) (fun g2 h2 f2 => ?_)
  refine go_iret dX0_own_18 (pg_narI _) ?_
  exact k _ h2 f2

set_option maxHeartbeats 4000000 in
set_option maxRecDepth 20000 in
theorem own_3_3 {sc : pg_Sc} {g : pg_S} {K : Int32 → pg_S → Prop} {nu pg x : Int32} {s : AS} {e : Nat} (h : CA g 3 nu pg s) (h0 : s.2.2 = 0) (he : e + 11 ≤ 40) (k : ∀ g', CA g' 3 nu pg (clF2 3 nu pg x s).2 → FR 42 44 g g' → K (clF2 3 nu pg x s).1 g') : pg_Cal sc 11 mX0_own [.ref 42, .int 3, .int x, .int (nI e)] g (pg_ki K) := by
  refine pg_Cal.of rfl (Nat.le_of_ble_eq_true rfl) rfl ?_
  refine go_aload_n (pc' := 1) dX0_own_0 rfl rfl ?_
  refine go_gs3 (pc' := 4) dX0_own_1 rfl sfRX0_36 ?_
  refine go_aload_n (pc' := 5) dX0_own_4 rfl rfl ?_
  refine go_getI (pc' := 8) dX0_own_5 rfl flRX0_19 rfl rfl ?_
  rw [h.2.2.1]
  refine go_iconst (pc' := 9) 4 dX0_own_8 rfl (by decide) ?_
  refine go_imul (pc' := 10) dX0_own_9 rfl ?_
  refine go_iload_n (pc' := 11) dX0_own_10 rfl rfl ?_
  refine go_iadd (pc' := 12) dX0_own_11 rfl ?_
  refine go_ro3 (pc' := 13) 15 dX0_own_12 rfl (by decide) (by decide) ?_
  rw [show pg_t3.getD 15 0 = 13 from rfl]
  refine go_iload_n (pc' := 14) dX0_own_13 rfl rfl ?_
  refine go_iload_n (pc' := 15) dX0_own_14 rfl rfl ?_
  refine go_cVi3 (pc' := 18) (M' := mX0_run) (d' := 9) dX0_own_15 rfl cvRX0_39 rfl rfl (by decide) rfl (Nat.le_of_ble_eq_true rfl) ?_
  refine rn_13 (by decide) h h0 (by omega) (fun g2 h2 f2 => ?_)
  refine go_iret dX0_own_18 (pg_narI _) ?_
  exact k _ h2 f2

set_option maxHeartbeats 4000000 in
set_option maxRecDepth 20000 in
theorem own_3_4 {sc : pg_Sc} {g : pg_S} {K : Int32 → pg_S → Prop} {nu pg x : Int32} {s : AS} {e : Nat} (h : CA g 4 nu pg s) (h0 : s.2.2 = 0) (he : e + 11 ≤ 40) (k : ∀ g', CA g' 4 nu pg (clF2 4 nu pg x s).2 → FR 42 44 g g' → K (clF2 4 nu pg x s).1 g') : pg_Cal sc 11 mX0_own [.ref 42, .int 3, .int x, .int (nI e)] g (pg_ki K) := by
  refine pg_Cal.of rfl (Nat.le_of_ble_eq_true rfl) rfl ?_
  refine go_aload_n (pc' := 1) dX0_own_0 rfl rfl ?_
  refine go_gs3 (pc' := 4) dX0_own_1 rfl sfRX0_36 ?_
  refine go_aload_n (pc' := 5) dX0_own_4 rfl rfl ?_
  refine go_getI (pc' := 8) dX0_own_5 rfl flRX0_19 rfl rfl ?_
  rw [h.2.2.1]
  refine go_iconst (pc' := 9) 4 dX0_own_8 rfl (by decide) ?_
  refine go_imul (pc' := 10) dX0_own_9 rfl ?_
  refine go_iload_n (pc' := 11) dX0_own_10 rfl rfl ?_
  refine go_iadd (pc' := 12) dX0_own_11 rfl ?_
  refine go_ro3 (pc' := 13) 19 dX0_own_12 rfl (by decide) (by decide) ?_
  rw [show pg_t3.getD 19 0 = 31 from rfl]
  refine go_iload_n (pc' := 14) dX0_own_13 rfl rfl ?_
  refine go_iload_n (pc' := 15) dX0_own_14 rfl rfl ?_
  refine go_cVi3 (pc' := 18) (M' := mX0_run) (d' := 10) dX0_own_15 rfl cvRX0_39 rfl rfl (by decide) rfl (Nat.le_of_ble_eq_true rfl) ?_
  refine rn_31 (by decide) h h0 (by omega) (fun g2 h2 f2 => ?_)
  refine go_iret dX0_own_18 (pg_narI _) ?_
  exact k _ h2 f2

set_option maxHeartbeats 4000000 in
set_option maxRecDepth 20000 in
theorem own_3_5 {sc : pg_Sc} {g : pg_S} {K : Int32 → pg_S → Prop} {nu pg x : Int32} {s : AS} {e : Nat} (h : CA g 5 nu pg s) (h0 : s.2.2 = 0) (he : e + 11 ≤ 40) (k : ∀ g', CA g' 5 nu pg (clF2 5 nu pg x s).2 → FR 42 44 g g' → K (clF2 5 nu pg x s).1 g') : pg_Cal sc 11 mX0_own [.ref 42, .int 3, .int x, .int (nI e)] g (pg_ki K) := by
  refine pg_Cal.of rfl (Nat.le_of_ble_eq_true rfl) rfl ?_
  refine go_aload_n (pc' := 1) dX0_own_0 rfl rfl ?_
  refine go_gs3 (pc' := 4) dX0_own_1 rfl sfRX0_36 ?_
  refine go_aload_n (pc' := 5) dX0_own_4 rfl rfl ?_
  refine go_getI (pc' := 8) dX0_own_5 rfl flRX0_19 rfl rfl ?_
  rw [h.2.2.1]
  refine go_iconst (pc' := 9) 4 dX0_own_8 rfl (by decide) ?_
  refine go_imul (pc' := 10) dX0_own_9 rfl ?_
  refine go_iload_n (pc' := 11) dX0_own_10 rfl rfl ?_
  refine go_iadd (pc' := 12) dX0_own_11 rfl ?_
  refine go_ro3 (pc' := 13) 23 dX0_own_12 rfl (by decide) (by decide) ?_
  rw [show pg_t3.getD 23 0 = 60 from rfl]
  refine go_iload_n (pc' := 14) dX0_own_13 rfl rfl ?_
  refine go_iload_n (pc' := 15) dX0_own_14 rfl rfl ?_
  refine go_cVi3 (pc' := 18) (M' := mX0_run) (d' := 10) dX0_own_15 rfl cvRX0_39 rfl rfl (by decide) rfl (Nat.le_of_ble_eq_true rfl) ?_
  refine rn_60 (by decide) h h0 (by omega) (fun g2 h2 f2 => ?_)
  refine go_iret dX0_own_18 (pg_narI _) ?_
  exact k _ h2 f2

theorem own_3 {sc : pg_Sc} {g : pg_S} {K : Int32 → pg_S → Prop} {kd : Nat} {nu pg x : Int32} {s : AS} {e : Nat} (hkd : kd < 6) (h : CA g kd nu pg s) (h0 : s.2.2 = 0) (he : e + 11 ≤ 40) (k : ∀ g', CA g' kd nu pg (clF2 kd nu pg x s).2 → FR 42 44 g g' → K (clF2 kd nu pg x s).1 g') : pg_Cal sc 11 mX0_own [.ref 42, .int 3, .int x, .int (nI e)] g (pg_ki K) := by
  rcases (show kd = 0 ∨ kd = 1 ∨ kd = 2 ∨ kd = 3 ∨ kd = 4 ∨ kd = 5 by omega) with rfl | rfl | rfl | rfl | rfl | rfl
  · exact own_3_0 h h0 he k
  · exact own_3_1 h h0 he k
  · exact own_3_2 h h0 he k
  · exact own_3_3 h h0 he k
  · exact own_3_4 h h0 he k
  · exact own_3_5 h h0 he k
def as0 : AS := (0, fun _ => 0, 0)
def acR (kd : Nat) (nu pg : Int32) (v : Nat) (x : Int32) : Int32 × AS := if v = 0 then hkF kd nu x as0 else if v = 1 then lnF kd nu pg x as0 else if v = 2 then ptF kd nu pg x as0 else clF2 kd nu pg x as0
def pfA (r : Int32 × AS) : Int32 := if r.2.2.2 = 0 then r.1 else -15
set_option maxHeartbeats 4000000 in
set_option maxRecDepth 20000 in
theorem perf_0 {sc : pg_Sc} {g : pg_S} {K : Int32 → pg_S → Prop} {kd : Nat} {nu pg x : Int32} (hkd : kd < 6) (hk : g.1 42 2 = nI kd) (hn : g.1 42 3 = nu) (hp : g.1 42 4 = pg) (k : ∀ g', CA g' kd nu pg (hkF kd nu x as0).2 → FR 42 44 g g' → K (pfA (hkF kd nu x as0)) g') : pg_Cal sc 31 mX0_perform [.ref 42, .int 0, .int x] g (pg_ki K) := by
  refine pg_Cal.of rfl (Nat.le_of_ble_eq_true rfl) rfl ?_
  refine go_aload_n (pc' := 1) dX0_perform_0 rfl rfl ?_
  refine go_iconst (pc' := 2) 0 dX0_perform_1 rfl (by decide) ?_
  refine go_putI (pc' := 5) dX0_perform_2 rfl flRX0_15 rfl rfl ft0_1 ?_
  refine go_aload_n (pc' := 6) dX0_perform_5 rfl rfl ?_
  refine go_iconst (pc' := 7) 0 dX0_perform_6 rfl (by decide) ?_
  refine go_putZ (pc' := 10) (by decide) dX0_perform_7 rfl flRX0_28 rfl rfl ft0_5 ?_
  refine go_gen (fun g1 e1 => ?_)
  have h1 : CA g1 kd nu pg as0 := by
    rw [e1]
    refine ⟨by decide, ?_, ?_, ?_, ?_, ?_, fun j hj => absurd hj (by show ¬ j < 0; omega)⟩
    · simp [pg_ui_at]; rfl
    · simpa [pg_ui_at] using hk
    · simpa [pg_ui_at] using hn
    · simpa [pg_ui_at] using hp
    · simp [pg_ui_at]; rfl
  have f1 : FR 42 44 g g1 := by rw [e1]; exact FR.tr (FR.ui (by decide)) (FR.ui (by decide))
  refine go_aload_n (pc' := 11) dX0_perform_10 rfl rfl ?_
  refine go_iload_n (pc' := 12) dX0_perform_11 rfl rfl ?_
  refine go_iload_n (pc' := 13) dX0_perform_12 rfl rfl ?_
  refine go_iconst (pc' := 14) 0 dX0_perform_13 rfl (by decide) ?_
  refine go_cVi3 (pc' := 17) (M' := mX0_own) (d' := 5) dX0_perform_14 rfl cvRX0_32 rfl rfl (by decide) rfl (Nat.le_of_ble_eq_true rfl) ?_
  refine own_0 (e := 0) hkd h1 rfl (by decide) (fun g2 h2 f2 => ?_)
  refine go_istore_n (pc' := 18) dX0_perform_17 rfl (by decide) rfl ?_
  refine go_aload_n (pc' := 19) dX0_perform_18 rfl rfl ?_
  refine go_getI (pc' := 22) dX0_perform_19 rfl flRX0_28 rfl rfl ?_
  rw [h2.2.2.2.2.2.1]
  refine go_if_eq (pc' := 25) (tgt := 30) dX0_perform_22 rfl (by decide) (fun h_22 => ?_) (fun h_22 => ?_)
  · refine go_iload_n (pc' := 31) dX0_perform_30 rfl rfl ?_
    refine go_iret dX0_perform_31 (pg_narI _) ?_
    unfold pfA at k
    rw [if_pos h_22] at k
    exact k _ h2 (FR.tr f1 f2)
  · refine go_bipush (pc' := 27) (-15) dX0_perform_25 rfl (by decide) ?_
    refine go_goto (pc' := 31) dX0_perform_27 (by decide) ?_
    refine go_iret dX0_perform_31 (pg_narI _) ?_
    unfold pfA at k
    rw [if_neg h_22] at k
    exact k _ h2 (FR.tr f1 f2)

set_option maxHeartbeats 4000000 in
set_option maxRecDepth 20000 in
theorem perf_1 {sc : pg_Sc} {g : pg_S} {K : Int32 → pg_S → Prop} {kd : Nat} {nu pg x : Int32} (hkd : kd < 6) (hk : g.1 42 2 = nI kd) (hn : g.1 42 3 = nu) (hp : g.1 42 4 = pg) (k : ∀ g', CA g' kd nu pg (lnF kd nu pg x as0).2 → FR 42 44 g g' → K (pfA (lnF kd nu pg x as0)) g') : pg_Cal sc 31 mX0_perform [.ref 42, .int 1, .int x] g (pg_ki K) := by
  refine pg_Cal.of rfl (Nat.le_of_ble_eq_true rfl) rfl ?_
  refine go_aload_n (pc' := 1) dX0_perform_0 rfl rfl ?_
  refine go_iconst (pc' := 2) 0 dX0_perform_1 rfl (by decide) ?_
  refine go_putI (pc' := 5) dX0_perform_2 rfl flRX0_15 rfl rfl ft0_1 ?_
  refine go_aload_n (pc' := 6) dX0_perform_5 rfl rfl ?_
  refine go_iconst (pc' := 7) 0 dX0_perform_6 rfl (by decide) ?_
  refine go_putZ (pc' := 10) (by decide) dX0_perform_7 rfl flRX0_28 rfl rfl ft0_5 ?_
  refine go_gen (fun g1 e1 => ?_)
  have h1 : CA g1 kd nu pg as0 := by
    rw [e1]
    refine ⟨by decide, ?_, ?_, ?_, ?_, ?_, fun j hj => absurd hj (by show ¬ j < 0; omega)⟩
    · simp [pg_ui_at]; rfl
    · simpa [pg_ui_at] using hk
    · simpa [pg_ui_at] using hn
    · simpa [pg_ui_at] using hp
    · simp [pg_ui_at]; rfl
  have f1 : FR 42 44 g g1 := by rw [e1]; exact FR.tr (FR.ui (by decide)) (FR.ui (by decide))
  refine go_aload_n (pc' := 11) dX0_perform_10 rfl rfl ?_
  refine go_iload_n (pc' := 12) dX0_perform_11 rfl rfl ?_
  refine go_iload_n (pc' := 13) dX0_perform_12 rfl rfl ?_
  refine go_iconst (pc' := 14) 0 dX0_perform_13 rfl (by decide) ?_
  refine go_cVi3 (pc' := 17) (M' := mX0_own) (d' := 8) dX0_perform_14 rfl cvRX0_32 rfl rfl (by decide) rfl (Nat.le_of_ble_eq_true rfl) ?_
  refine own_1 (e := 0) hkd h1 rfl (by decide) (fun g2 h2 f2 => ?_)
  refine go_istore_n (pc' := 18) dX0_perform_17 rfl (by decide) rfl ?_
  refine go_aload_n (pc' := 19) dX0_perform_18 rfl rfl ?_
  refine go_getI (pc' := 22) dX0_perform_19 rfl flRX0_28 rfl rfl ?_
  rw [h2.2.2.2.2.2.1]
  refine go_if_eq (pc' := 25) (tgt := 30) dX0_perform_22 rfl (by decide) (fun h_22 => ?_) (fun h_22 => ?_)
  · refine go_iload_n (pc' := 31) dX0_perform_30 rfl rfl ?_
    refine go_iret dX0_perform_31 (pg_narI _) ?_
    unfold pfA at k
    rw [if_pos h_22] at k
    exact k _ h2 (FR.tr f1 f2)
  · refine go_bipush (pc' := 27) (-15) dX0_perform_25 rfl (by decide) ?_
    refine go_goto (pc' := 31) dX0_perform_27 (by decide) ?_
    refine go_iret dX0_perform_31 (pg_narI _) ?_
    unfold pfA at k
    rw [if_neg h_22] at k
    exact k _ h2 (FR.tr f1 f2)

set_option maxHeartbeats 4000000 in
set_option maxRecDepth 20000 in
theorem perf_2 {sc : pg_Sc} {g : pg_S} {K : Int32 → pg_S → Prop} {kd : Nat} {nu pg x : Int32} (hkd : kd < 6) (hk : g.1 42 2 = nI kd) (hn : g.1 42 3 = nu) (hp : g.1 42 4 = pg) (k : ∀ g', CA g' kd nu pg (ptF kd nu pg x as0).2 → FR 42 44 g g' → K (pfA (ptF kd nu pg x as0)) g') : pg_Cal sc 31 mX0_perform [.ref 42, .int 2, .int x] g (pg_ki K) := by
  refine pg_Cal.of rfl (Nat.le_of_ble_eq_true rfl) rfl ?_
  refine go_aload_n (pc' := 1) dX0_perform_0 rfl rfl ?_
  refine go_iconst (pc' := 2) 0 dX0_perform_1 rfl (by decide) ?_
  refine go_putI (pc' := 5) dX0_perform_2 rfl flRX0_15 rfl rfl ft0_1 ?_
  refine go_aload_n (pc' := 6) dX0_perform_5 rfl rfl ?_
  refine go_iconst (pc' := 7) 0 dX0_perform_6 rfl (by decide) ?_
  refine go_putZ (pc' := 10) (by decide) dX0_perform_7 rfl flRX0_28 rfl rfl ft0_5 ?_
  refine go_gen (fun g1 e1 => ?_)
  have h1 : CA g1 kd nu pg as0 := by
    rw [e1]
    refine ⟨by decide, ?_, ?_, ?_, ?_, ?_, fun j hj => absurd hj (by show ¬ j < 0; omega)⟩
    · simp [pg_ui_at]; rfl
    · simpa [pg_ui_at] using hk
    · simpa [pg_ui_at] using hn
    · simpa [pg_ui_at] using hp
    · simp [pg_ui_at]; rfl
  have f1 : FR 42 44 g g1 := by rw [e1]; exact FR.tr (FR.ui (by decide)) (FR.ui (by decide))
  refine go_aload_n (pc' := 11) dX0_perform_10 rfl rfl ?_
  refine go_iload_n (pc' := 12) dX0_perform_11 rfl rfl ?_
  refine go_iload_n (pc' := 13) dX0_perform_12 rfl rfl ?_
  refine go_iconst (pc' := 14) 0 dX0_perform_13 rfl (by decide) ?_
  refine go_cVi3 (pc' := 17) (M' := mX0_own) (d' := 7) dX0_perform_14 rfl cvRX0_32 rfl rfl (by decide) rfl (Nat.le_of_ble_eq_true rfl) ?_
  refine own_2 (e := 0) hkd h1 rfl (by decide) (fun g2 h2 f2 => ?_)
  refine go_istore_n (pc' := 18) dX0_perform_17 rfl (by decide) rfl ?_
  refine go_aload_n (pc' := 19) dX0_perform_18 rfl rfl ?_
  refine go_getI (pc' := 22) dX0_perform_19 rfl flRX0_28 rfl rfl ?_
  rw [h2.2.2.2.2.2.1]
  refine go_if_eq (pc' := 25) (tgt := 30) dX0_perform_22 rfl (by decide) (fun h_22 => ?_) (fun h_22 => ?_)
  · refine go_iload_n (pc' := 31) dX0_perform_30 rfl rfl ?_
    refine go_iret dX0_perform_31 (pg_narI _) ?_
    unfold pfA at k
    rw [if_pos h_22] at k
    exact k _ h2 (FR.tr f1 f2)
  · refine go_bipush (pc' := 27) (-15) dX0_perform_25 rfl (by decide) ?_
    refine go_goto (pc' := 31) dX0_perform_27 (by decide) ?_
    refine go_iret dX0_perform_31 (pg_narI _) ?_
    unfold pfA at k
    rw [if_neg h_22] at k
    exact k _ h2 (FR.tr f1 f2)

set_option maxHeartbeats 4000000 in
set_option maxRecDepth 20000 in
theorem perf_3 {sc : pg_Sc} {g : pg_S} {K : Int32 → pg_S → Prop} {kd : Nat} {nu pg x : Int32} (hkd : kd < 6) (hk : g.1 42 2 = nI kd) (hn : g.1 42 3 = nu) (hp : g.1 42 4 = pg) (k : ∀ g', CA g' kd nu pg (clF2 kd nu pg x as0).2 → FR 42 44 g g' → K (pfA (clF2 kd nu pg x as0)) g') : pg_Cal sc 31 mX0_perform [.ref 42, .int 3, .int x] g (pg_ki K) := by
  refine pg_Cal.of rfl (Nat.le_of_ble_eq_true rfl) rfl ?_
  refine go_aload_n (pc' := 1) dX0_perform_0 rfl rfl ?_
  refine go_iconst (pc' := 2) 0 dX0_perform_1 rfl (by decide) ?_
  refine go_putI (pc' := 5) dX0_perform_2 rfl flRX0_15 rfl rfl ft0_1 ?_
  refine go_aload_n (pc' := 6) dX0_perform_5 rfl rfl ?_
  refine go_iconst (pc' := 7) 0 dX0_perform_6 rfl (by decide) ?_
  refine go_putZ (pc' := 10) (by decide) dX0_perform_7 rfl flRX0_28 rfl rfl ft0_5 ?_
  refine go_gen (fun g1 e1 => ?_)
  have h1 : CA g1 kd nu pg as0 := by
    rw [e1]
    refine ⟨by decide, ?_, ?_, ?_, ?_, ?_, fun j hj => absurd hj (by show ¬ j < 0; omega)⟩
    · simp [pg_ui_at]; rfl
    · simpa [pg_ui_at] using hk
    · simpa [pg_ui_at] using hn
    · simpa [pg_ui_at] using hp
    · simp [pg_ui_at]; rfl
  have f1 : FR 42 44 g g1 := by rw [e1]; exact FR.tr (FR.ui (by decide)) (FR.ui (by decide))
  refine go_aload_n (pc' := 11) dX0_perform_10 rfl rfl ?_
  refine go_iload_n (pc' := 12) dX0_perform_11 rfl rfl ?_
  refine go_iload_n (pc' := 13) dX0_perform_12 rfl rfl ?_
  refine go_iconst (pc' := 14) 0 dX0_perform_13 rfl (by decide) ?_
  refine go_cVi3 (pc' := 17) (M' := mX0_own) (d' := 11) dX0_perform_14 rfl cvRX0_32 rfl rfl (by decide) rfl (Nat.le_of_ble_eq_true rfl) ?_
  refine own_3 (e := 0) hkd h1 rfl (by decide) (fun g2 h2 f2 => ?_)
  refine go_istore_n (pc' := 18) dX0_perform_17 rfl (by decide) rfl ?_
  refine go_aload_n (pc' := 19) dX0_perform_18 rfl rfl ?_
  refine go_getI (pc' := 22) dX0_perform_19 rfl flRX0_28 rfl rfl ?_
  rw [h2.2.2.2.2.2.1]
  refine go_if_eq (pc' := 25) (tgt := 30) dX0_perform_22 rfl (by decide) (fun h_22 => ?_) (fun h_22 => ?_)
  · refine go_iload_n (pc' := 31) dX0_perform_30 rfl rfl ?_
    refine go_iret dX0_perform_31 (pg_narI _) ?_
    unfold pfA at k
    rw [if_pos h_22] at k
    exact k _ h2 (FR.tr f1 f2)
  · refine go_bipush (pc' := 27) (-15) dX0_perform_25 rfl (by decide) ?_
    refine go_goto (pc' := 31) dX0_perform_27 (by decide) ?_
    refine go_iret dX0_perform_31 (pg_narI _) ?_
    unfold pfA at k
    rw [if_neg h_22] at k
    exact k _ h2 (FR.tr f1 f2)

theorem tX0_perform {sc : pg_Sc} {g : pg_S} {K : Int32 → pg_S → Prop} {kd v : Nat} {nu pg x : Int32} (hv : v ≤ 3) (hkd : kd < 6) (hk : g.1 42 2 = nI kd) (hn : g.1 42 3 = nu) (hp : g.1 42 4 = pg) (k : ∀ g', CA g' kd nu pg (acR kd nu pg v x).2 → FR 42 44 g g' → K (pfA (acR kd nu pg v x)) g') : pg_Cal sc 31 mX0_perform [.ref 42, .int (nI v), .int x] g (pg_ki K) := by
  rcases (show v = 0 ∨ v = 1 ∨ v = 2 ∨ v = 3 by omega) with rfl | rfl | rfl | rfl
  · exact perf_0 hkd hk hn hp k
  · exact perf_1 hkd hk hn hp k
  · exact perf_2 hkd hk hn hp k
  · exact perf_3 hkd hk hn hp k
set_option maxHeartbeats 4000000 in
set_option maxRecDepth 20000 in
theorem tX0_become {sc : pg_Sc} {g : pg_S} {K : pg_S → Prop} {a b c : Int32}  (k : K (pg_ui (pg_ui (pg_ui g.1 42 2 a) 42 3 b) 42 4 c, g.2)) : pg_Cal sc 1 mX0_become [.ref 42, .int a, .int b, .int c] g (pg_kv K) := by
  refine pg_Cal.of rfl (Nat.le_of_ble_eq_true rfl) rfl ?_
  refine go_aload_n (pc' := 1) dX0_become_0 rfl rfl ?_
  refine go_iload_n (pc' := 2) dX0_become_1 rfl rfl ?_
  refine go_putI (pc' := 5) dX0_become_2 rfl flRX0_19 rfl rfl ft0_2 ?_
  refine go_aload_n (pc' := 6) dX0_become_5 rfl rfl ?_
  refine go_iload_n (pc' := 7) dX0_become_6 rfl rfl ?_
  refine go_putI (pc' := 10) dX0_become_7 rfl flRX0_22 rfl rfl ft0_3 ?_
  refine go_aload_n (pc' := 11) dX0_become_10 rfl rfl ?_
  refine go_iload_n (pc' := 12) dX0_become_11 rfl rfl ?_
  refine go_putI (pc' := 15) dX0_become_12 rfl flRX0_25 rfl rfl ft0_4 ?_
  refine go_vret dX0_become_15 rfl ?_
  exact k

set_option maxHeartbeats 4000000 in
set_option maxRecDepth 20000 in
theorem tX6_act {sc : pg_Sc} {g : pg_S} {K : Int32 → pg_S → Prop} {T : TW} {n : Nat} {x y z : Int32} {H A B : Nat → Int32} (hC : ∀ s, s < 4 → CS g s (H s) (A s) (B s)) (h : CR g 1 T n) (wf : WF T n) (k1 : ¬ (UP x 3 ∧ UP y 3 ∧ H (pn x) = 0 ∧ PP n (A (pn x))) → ∀ g', g'.1 42 1 = 0 → FR 42 44 g g' → K 0 g') (k2 : UP x 3 ∧ UP y 3 ∧ H (pn x) = 0 ∧ PP n (A (pn x)) → ∀ g', CA g' (pn (T 2 (pn (A (pn x))))) (A (pn x)) (T 3 (pn (A (pn x)))) (acR (pn (T 2 (pn (A (pn x))))) (A (pn x)) (T 3 (pn (A (pn x)))) (pn y) z).2 → FR 42 44 g g' → K (pfA (acR (pn (T 2 (pn (A (pn x))))) (A (pn x)) (T 3 (pn (A (pn x)))) (pn y) z)) g') : pg_Cal sc 32 mX6_act [.ref 0, .int x, .int y, .int z] g (pg_ki K) := by
  refine pg_Cal.of rfl (Nat.le_of_ble_eq_true rfl) rfl ?_
  have hn := wf.1
  refine go_aload_n (pc' := 1) dX6_act_0 rfl rfl ?_
  refine go_getR (pc' := 4) dX6_act_1 rfl flRX6_43 rfl rfl ?_
  refine go_iconst (pc' := 5) 0 dX6_act_4 rfl (by decide) ?_
  refine go_putI (pc' := 8) dX6_act_5 rfl flRX6_296 rfl rfl ft0_1 ?_
  refine go_gen (fun g1 e1 => ?_)
  have f1 : FR 42 44 g g1 := by rw [e1]; exact FR.ui (by decide)
  have a1 : g1.1 42 1 = 0 := by rw [e1]; simp [pg_ui_at]
  have h1 := h.fr f1 (by decide)
  have hC1 : ∀ s, s < 4 → CS g1 s (H s) (A s) (B s) := fun s hs => (hC s hs).fr f1 (by omega)
  refine go_iload_n (pc' := 9) dX6_act_8 rfl rfl ?_
  refine go_cSi1 (pc' := 12) (M' := mX6_isShelf) (d' := 2) dX6_act_9 rfl csRX6_270 (by decide) rfl (Nat.le_of_ble_eq_true rfl) ?_
  refine tX6_isShelf ?_
  refine go_if_eq (pc' := 15) (tgt := 36) dX6_act_12 rfl (by decide) (fun h_12 => ?_) (fun h_12 => ?_)
  · have h_12 := pg_b0 h_12
    refine go_iconst (pc' := 37) 0 dX6_act_36 rfl (by decide) ?_
    refine go_iret dX6_act_37 (pg_narI _) ?_
    exact k1 (fun q => h_12 q.1) _ a1 f1
  · have h_12 := pg_b1 h_12
    obtain ⟨s, hs, rfl⟩ := up_ex 3 rfl (by decide) h_12
    have es : pn (nI s) = s := nI_clamp (by omega)
    have hs4 : s < 4 := by omega
    rw [es] at k1 k2
    obtain ⟨c0, c1, c2⟩ := hC1 s hs4
    refine go_iload_n (pc' := 16) dX6_act_15 rfl rfl ?_
    refine go_iconst (pc' := 17) 3 dX6_act_16 rfl (by decide) ?_
    refine go_cSi2 (pc' := 20) (M' := mX6_upTo) (d' := 1) dX6_act_17 rfl csRX6_97 (by decide) rfl (Nat.le_of_ble_eq_true rfl) ?_
    refine tX6_upTo ?_
    refine go_if_eq (pc' := 23) (tgt := 36) dX6_act_20 rfl (by decide) (fun h_20 => ?_) (fun h_20 => ?_)
    · have h_20 := pg_b0 h_20
      refine go_iconst (pc' := 37) 0 dX6_act_36 rfl (by decide) ?_
      refine go_iret dX6_act_37 (pg_narI _) ?_
      exact k1 (fun q => h_20 q.2.1) _ a1 f1
    · have h_20 := pg_b1 h_20
      obtain ⟨v, hv, rfl⟩ := up_ex 3 rfl (by decide) h_20
      have ev : pn (nI v) = v := nI_clamp (by omega)
      refine go_aload_n (pc' := 24) dX6_act_23 rfl rfl ?_
      refine go_aload_n (pc' := 25) dX6_act_24 rfl rfl ?_
      refine go_getR (pc' := 28) dX6_act_25 rfl flRX6_55 rfl rfl ?_
      refine go_iload_n (pc' := 29) dX6_act_28 rfl rfl ?_
      refine go_aald (pc' := 30) s dX6_act_29 rfl rfl (by decide) rfl hs4 (by decide) (shelf_rs s hs4) ?_
      refine go_cVi1 (pc' := 33) (M' := mX6_holdsSomebody) (d' := 2) dX6_act_30 rfl cvRX6_286 rfl rfl (by decide) rfl (Nat.le_of_ble_eq_true rfl) ?_
      refine tX6_holdsSomebody h1 hs4 (hC1 s hs4) ?_
      refine go_if_ne (pc' := 36) (tgt := 38) dX6_act_33 rfl (by decide) (fun h_33 => ?_) (fun h_33 => ?_)
      · have h_33 := pg_b1 h_33
        obtain ⟨p, hp, ep⟩ := pp_ex h_33.2
        have epn : pn (A s) = p := by rw [ep]; exact nI_clamp (by omega)
        obtain ⟨kd, hkd, ekd⟩ := wf.kind hp
        have ekn : pn (T 2 p) = kd := by rw [ekd]; exact nI_clamp (by omega)
        refine go_aload_n (pc' := 39) dX6_act_38 rfl rfl ?_
        refine go_getR (pc' := 42) dX6_act_39 rfl flRX6_55 rfl rfl ?_
        refine go_iload_n (pc' := 43) dX6_act_42 rfl rfl ?_
        refine go_aald (pc' := 44) s dX6_act_43 rfl rfl (by decide) rfl hs4 (by decide) (shelf_rs s hs4) ?_
        refine go_getI (pc' := 47) dX6_act_44 rfl flRX6_290 (shelf_sh s hs4) rfl ?_
        rw [c1 h_33.1]
        refine go_istore (pc' := 49) dX6_act_47 rfl (by decide) rfl ?_
        have h2 := h1
        refine go_aload_n (pc' := 50) dX6_act_49 rfl rfl ?_
        refine go_getR (pc' := 53) dX6_act_50 rfl flRX6_43 rfl rfl ?_
        refine go_aload_n (pc' := 54) dX6_act_53 rfl rfl ?_
        refine go_getR (pc' := 57) dX6_act_54 rfl flRX6_10 rfl rfl ?_
        refine go_getR (pc' := 60) dX6_act_57 rfl flRX6_115 rfl rfl ?_
        refine go_iload (pc' := 62) dX6_act_60 rfl rfl ?_
        refine go_iald (pc' := 63) p dX6_act_62 rfl rfl ep (by omega) (by decide) ?_
        rw [c1_kind h1 hp, ekd]
        refine go_iload (pc' := 65) dX6_act_63 rfl rfl ?_
        refine go_aload_n (pc' := 66) dX6_act_65 rfl rfl ?_
        refine go_getR (pc' := 69) dX6_act_66 rfl flRX6_10 rfl rfl ?_
        refine go_getR (pc' := 72) dX6_act_69 rfl flRX6_118 rfl rfl ?_
        refine go_iload (pc' := 74) dX6_act_72 rfl rfl ?_
        refine go_iald (pc' := 75) p dX6_act_74 rfl rfl ep (by omega) (by decide) ?_
        rw [c1_peg h1 hp]
        refine go_cVv3 (pc' := 78) (M' := mX0_become) (d' := 1) dX6_act_75 rfl cvRX6_299 rfl rfl (by decide) rfl (Nat.le_of_ble_eq_true rfl) ?_
        refine tX0_become ?_
        refine go_gen (fun g3 e3 => ?_)
        have f3 : FR 42 44 g1 g3 := by rw [e3]; exact FR.tr (FR.tr (FR.ui (by decide)) (FR.ui (by decide))) (FR.ui (by decide))
        refine go_aload_n (pc' := 79) dX6_act_78 rfl rfl ?_
        refine go_getR (pc' := 82) dX6_act_79 rfl flRX6_43 rfl rfl ?_
        refine go_iload_n (pc' := 83) dX6_act_82 rfl rfl ?_
        refine go_iload_n (pc' := 84) dX6_act_83 rfl rfl ?_
        refine go_cVi2 (pc' := 87) (M' := mX0_perform) (d' := 31) dX6_act_84 rfl cvRX6_302 rfl rfl (by decide) rfl (Nat.le_of_ble_eq_true rfl) ?_
        refine tX0_perform (kd := kd) (nu := A s) (pg := T 3 p) (by omega) hkd (by rw [e3]; simp [pg_ui_at]) (by rw [e3]; simp [pg_ui_at]) (by rw [e3]; simp [pg_ui_at]) (fun g4 h4 f4 => ?_)
        refine go_iret dX6_act_87 (pg_narI _) ?_
        have kk := k2 ⟨h_12, h_20, h_33⟩ g4
        rw [epn, ekn, ev] at kk
        exact kk h4 (FR.tr (FR.tr f1 f3) f4)
      · have h_33 := pg_b0 h_33
        refine go_iconst (pc' := 37) 0 dX6_act_36 rfl (by decide) ?_
        refine go_iret dX6_act_37 (pg_narI _) ?_
        exact k1 (fun q => h_33 q.2.2) _ a1 f1

set_option maxHeartbeats 4000000 in
set_option maxRecDepth 20000 in
theorem tX7_plainHooks {sc : pg_Sc} {g : pg_S} {K : Int32 → pg_S → Prop} {kd : Nat} {nu pg x : Int32} {s : AS} (h : MA g kd nu pg s) (k : ∀ g', MA g' kd nu pg (phF nu x s).2 → FA g g' → K (phF nu x s).1 g') : pg_Cal sc 2 mX7_plainHooks [.ref 59, .int x] g (pg_ki K) := by
  refine pg_Cal.of rfl (Nat.le_of_ble_eq_true rfl) rfl ?_
  refine go_aload_n (pc' := 1) dX7_plainHooks_0 rfl rfl ?_
  refine go_bipush (pc' := 3) 10 dX7_plainHooks_1 rfl (by decide) ?_
  refine go_cVv1 (pc' := 6) (M' := mX7_ran) (d' := 1) dX7_plainHooks_3 rfl cvRX7_334 rfl rfl (by decide) rfl (Nat.le_of_ble_eq_true rfl) ?_
  refine tX7_ran h (fun g1 h1 f1 => ?_)
  refine go_iload_n (pc' := 7) dX7_plainHooks_6 rfl rfl ?_
  refine go_bipush (pc' := 9) 7 dX7_plainHooks_7 rfl (by decide) ?_
  refine go_imul (pc' := 10) dX7_plainHooks_9 rfl ?_
  refine go_aload_n (pc' := 11) dX7_plainHooks_10 rfl rfl ?_
  refine go_getI (pc' := 14) dX7_plainHooks_11 rfl flRX7_337 rfl rfl ?_
  rw [h1.2.2.2.1]
  refine go_isub (pc' := 15) dX7_plainHooks_14 rfl ?_
  refine go_iret dX7_plainHooks_15 (pg_narI _) ?_
  exact k _ h1 f1

set_option maxHeartbeats 4000000 in
set_option maxRecDepth 20000 in
theorem tX7_burglarHooks {sc : pg_Sc} {g : pg_S} {K : Int32 → pg_S → Prop} {kd : Nat} {nu pg x : Int32} {s : AS} (h : MA g kd nu pg s) (k : ∀ g', MA g' kd nu pg (bhF nu x s).2 → FA g g' → K (bhF nu x s).1 g') : pg_Cal sc 3 mX7_burglarHooks [.ref 59, .int x] g (pg_ki K) := by
  refine pg_Cal.of rfl (Nat.le_of_ble_eq_true rfl) rfl ?_
  refine go_aload_n (pc' := 1) dX7_burglarHooks_0 rfl rfl ?_
  refine go_bipush (pc' := 3) 30 dX7_burglarHooks_1 rfl (by decide) ?_
  refine go_cVv1 (pc' := 6) (M' := mX7_ran) (d' := 1) dX7_burglarHooks_3 rfl cvRX7_334 rfl rfl (by decide) rfl (Nat.le_of_ble_eq_true rfl) ?_
  refine tX7_ran h (fun g1 h1 f1 => ?_)
  refine go_aload_n (pc' := 7) dX7_burglarHooks_6 rfl rfl ?_
  refine go_iload_n (pc' := 8) dX7_burglarHooks_7 rfl rfl ?_
  refine go_cVi1 (pc' := 11) (M' := mX7_plainHooks) (d' := 2) dX7_burglarHooks_8 rfl cvRX7_340 rfl rfl (by decide) rfl (Nat.le_of_ble_eq_true rfl) ?_
  refine tX7_plainHooks h1 (fun g2 h2 f2 => ?_)
  refine go_ineg (pc' := 12) dX7_burglarHooks_11 rfl ?_
  refine go_iret dX7_burglarHooks_12 (pg_narI _) ?_
  exact k _ h2 (FA.tr f1 f2)

set_option maxHeartbeats 4000000 in
set_option maxRecDepth 20000 in
theorem tX7_hooksIt_0 {sc : pg_Sc} {g : pg_S} {K : Int32 → pg_S → Prop} {nu pg x : Int32} {s : AS} (h : MA g 0 nu pg s) (k : ∀ g', MA g' 0 nu pg (hkF 0 nu x s).2 → FA g g' → K (hkF 0 nu x s).1 g') : pg_Cal sc 4 mX7_hooksIt [.ref 59, .int x] g (pg_ki K) := by
  refine pg_Cal.of rfl (Nat.le_of_ble_eq_true rfl) rfl ?_
  refine go_aload_n (pc' := 1) dX7_hooksIt_0 rfl rfl ?_
  refine go_getI (pc' := 4) dX7_hooksIt_1 rfl flRX7_343 rfl rfl ?_
  rw [h.2.2.1]
  refine go_tableOut (pc' := 67) dX7_hooksIt_4 (by decide) (by decide) ?_
  refine go_aload_n (pc' := 68) dX7_hooksIt_67 rfl rfl ?_
  refine go_iload_n (pc' := 69) dX7_hooksIt_68 rfl rfl ?_
  refine go_cVi1 (pc' := 72) (M' := mX7_plainHooks) (d' := 2) dX7_hooksIt_69 rfl cvRX7_340 rfl rfl (by decide) rfl (Nat.le_of_ble_eq_true rfl) ?_
  refine tX7_plainHooks h (fun g2 h2 f2 => ?_)
  refine go_iret dX7_hooksIt_72 (pg_narI _) ?_
  exact k _ h2 f2

set_option maxHeartbeats 4000000 in
set_option maxRecDepth 20000 in
theorem tX7_hooksIt_1 {sc : pg_Sc} {g : pg_S} {K : Int32 → pg_S → Prop} {nu pg x : Int32} {s : AS} (h : MA g 1 nu pg s) (k : ∀ g', MA g' 1 nu pg (hkF 1 nu x s).2 → FA g g' → K (hkF 1 nu x s).1 g') : pg_Cal sc 4 mX7_hooksIt [.ref 59, .int x] g (pg_ki K) := by
  refine pg_Cal.of rfl (Nat.le_of_ble_eq_true rfl) rfl ?_
  refine go_aload_n (pc' := 1) dX7_hooksIt_0 rfl rfl ?_
  refine go_getI (pc' := 4) dX7_hooksIt_1 rfl flRX7_343 rfl rfl ?_
  rw [h.2.2.1]
  refine go_tableOut (pc' := 67) dX7_hooksIt_4 (by decide) (by decide) ?_
  refine go_aload_n (pc' := 68) dX7_hooksIt_67 rfl rfl ?_
  refine go_iload_n (pc' := 69) dX7_hooksIt_68 rfl rfl ?_
  refine go_cVi1 (pc' := 72) (M' := mX7_plainHooks) (d' := 2) dX7_hooksIt_69 rfl cvRX7_340 rfl rfl (by decide) rfl (Nat.le_of_ble_eq_true rfl) ?_
  refine tX7_plainHooks h (fun g2 h2 f2 => ?_)
  refine go_iret dX7_hooksIt_72 (pg_narI _) ?_
  exact k _ h2 f2

set_option maxHeartbeats 4000000 in
set_option maxRecDepth 20000 in
theorem tX7_hooksIt_2 {sc : pg_Sc} {g : pg_S} {K : Int32 → pg_S → Prop} {nu pg x : Int32} {s : AS} (h : MA g 2 nu pg s) (k : ∀ g', MA g' 2 nu pg (hkF 2 nu x s).2 → FA g g' → K (hkF 2 nu x s).1 g') : pg_Cal sc 4 mX7_hooksIt [.ref 59, .int x] g (pg_ki K) := by
  refine pg_Cal.of rfl (Nat.le_of_ble_eq_true rfl) rfl ?_
  refine go_aload_n (pc' := 1) dX7_hooksIt_0 rfl rfl ?_
  refine go_getI (pc' := 4) dX7_hooksIt_1 rfl flRX7_343 rfl rfl ?_
  rw [h.2.2.1]
  refine go_tableIn (pc' := 32) dX7_hooksIt_4 (by decide) (by decide) (by rfl) (by decide) ?_
  refine go_aload_n (pc' := 33) dX7_hooksIt_32 rfl rfl ?_
  refine go_iload_n (pc' := 34) dX7_hooksIt_33 rfl rfl ?_
  refine go_cVi1 (pc' := 37) (M' := mX7_burglarHooks) (d' := 3) dX7_hooksIt_34 rfl cvRX7_346 rfl rfl (by decide) rfl (Nat.le_of_ble_eq_true rfl) ?_
  refine tX7_burglarHooks h (fun g2 h2 f2 => ?_)
  refine go_iret dX7_hooksIt_37 (pg_narI _) ?_
  exact k _ h2 f2

set_option maxHeartbeats 4000000 in
set_option maxRecDepth 20000 in
theorem tX7_hooksIt_3 {sc : pg_Sc} {g : pg_S} {K : Int32 → pg_S → Prop} {nu pg x : Int32} {s : AS} (h : MA g 3 nu pg s) (k : ∀ g', MA g' 3 nu pg (hkF 3 nu x s).2 → FA g g' → K (hkF 3 nu x s).1 g') : pg_Cal sc 4 mX7_hooksIt [.ref 59, .int x] g (pg_ki K) := by
  refine pg_Cal.of rfl (Nat.le_of_ble_eq_true rfl) rfl ?_
  refine go_aload_n (pc' := 1) dX7_hooksIt_0 rfl rfl ?_
  refine go_getI (pc' := 4) dX7_hooksIt_1 rfl flRX7_343 rfl rfl ?_
  rw [h.2.2.1]
  refine go_tableIn (pc' := 53) dX7_hooksIt_4 (by decide) (by decide) (by rfl) (by decide) ?_
  refine go_aload_n (pc' := 54) dX7_hooksIt_53 rfl rfl ?_
  refine go_bipush (pc' := 56) 51 dX7_hooksIt_54 rfl (by decide) ?_
  refine go_cVv1 (pc' := 59) (M' := mX7_ran) (d' := 1) dX7_hooksIt_56 rfl cvRX7_334 rfl rfl (by decide) rfl (Nat.le_of_ble_eq_true rfl) ?_
  refine tX7_ran h (fun g1 h1 f1 => ?_)
  refine go_aload_n (pc' := 60) dX7_hooksIt_59 rfl rfl ?_
  refine go_iload_n (pc' := 61) dX7_hooksIt_60 rfl rfl ?_
  refine go_cVi1 (pc' := 64) (M' := mX7_plainHooks) (d' := 2) dX7_hooksIt_61 rfl cvRX7_340 rfl rfl (by decide) rfl (Nat.le_of_ble_eq_true rfl) ?_
  refine tX7_plainHooks h1 (fun g2 h2 f2 => ?_)
  refine go_iconst (pc' := 65) 1 dX7_hooksIt_64 rfl (by decide) ?_
  refine go_iadd (pc' := 66) dX7_hooksIt_65 rfl ?_
  refine go_iret dX7_hooksIt_66 (pg_narI _) ?_
  exact k _ h2 (FA.tr f1 f2)

set_option maxHeartbeats 4000000 in
set_option maxRecDepth 20000 in
theorem tX7_hooksIt_4 {sc : pg_Sc} {g : pg_S} {K : Int32 → pg_S → Prop} {nu pg x : Int32} {s : AS} (h : MA g 4 nu pg s) (k : ∀ g', MA g' 4 nu pg (hkF 4 nu x s).2 → FA g g' → K (hkF 4 nu x s).1 g') : pg_Cal sc 4 mX7_hooksIt [.ref 59, .int x] g (pg_ki K) := by
  refine pg_Cal.of rfl (Nat.le_of_ble_eq_true rfl) rfl ?_
  refine go_aload_n (pc' := 1) dX7_hooksIt_0 rfl rfl ?_
  refine go_getI (pc' := 4) dX7_hooksIt_1 rfl flRX7_343 rfl rfl ?_
  rw [h.2.2.1]
  refine go_tableIn (pc' := 38) dX7_hooksIt_4 (by decide) (by decide) (by rfl) (by decide) ?_
  refine go_aload_n (pc' := 39) dX7_hooksIt_38 rfl rfl ?_
  refine go_bipush (pc' := 41) 40 dX7_hooksIt_39 rfl (by decide) ?_
  refine go_cVv1 (pc' := 44) (M' := mX7_ran) (d' := 1) dX7_hooksIt_41 rfl cvRX7_334 rfl rfl (by decide) rfl (Nat.le_of_ble_eq_true rfl) ?_
  refine tX7_ran h (fun g1 h1 f1 => ?_)
  refine go_aload_n (pc' := 45) dX7_hooksIt_44 rfl rfl ?_
  refine go_iload_n (pc' := 46) dX7_hooksIt_45 rfl rfl ?_
  refine go_cVi1 (pc' := 49) (M' := mX7_burglarHooks) (d' := 3) dX7_hooksIt_46 rfl cvRX7_346 rfl rfl (by decide) rfl (Nat.le_of_ble_eq_true rfl) ?_
  refine tX7_burglarHooks h1 (fun g2 h2 f2 => ?_)
  refine go_bipush (pc' := 51) 8 dX7_hooksIt_49 rfl (by decide) ?_
  refine go_ixor (pc' := 52) dX7_hooksIt_51 rfl ?_
  refine go_iret dX7_hooksIt_52 (pg_narI _) ?_
  exact k _ h2 (FA.tr f1 f2)

set_option maxHeartbeats 4000000 in
set_option maxRecDepth 20000 in
theorem tX7_hooksIt_5 {sc : pg_Sc} {g : pg_S} {K : Int32 → pg_S → Prop} {nu pg x : Int32} {s : AS} (h : MA g 5 nu pg s) (k : ∀ g', MA g' 5 nu pg (hkF 5 nu x s).2 → FA g g' → K (hkF 5 nu x s).1 g') : pg_Cal sc 4 mX7_hooksIt [.ref 59, .int x] g (pg_ki K) := by
  refine pg_Cal.of rfl (Nat.le_of_ble_eq_true rfl) rfl ?_
  refine go_aload_n (pc' := 1) dX7_hooksIt_0 rfl rfl ?_
  refine go_getI (pc' := 4) dX7_hooksIt_1 rfl flRX7_343 rfl rfl ?_
  rw [h.2.2.1]
  refine go_tableOut (pc' := 67) dX7_hooksIt_4 (by decide) (by decide) ?_
  refine go_aload_n (pc' := 68) dX7_hooksIt_67 rfl rfl ?_
  refine go_iload_n (pc' := 69) dX7_hooksIt_68 rfl rfl ?_
  refine go_cVi1 (pc' := 72) (M' := mX7_plainHooks) (d' := 2) dX7_hooksIt_69 rfl cvRX7_340 rfl rfl (by decide) rfl (Nat.le_of_ble_eq_true rfl) ?_
  refine tX7_plainHooks h (fun g2 h2 f2 => ?_)
  refine go_iret dX7_hooksIt_72 (pg_narI _) ?_
  exact k _ h2 f2

theorem tX7_hooksIt {sc : pg_Sc} {g : pg_S} {K : Int32 → pg_S → Prop} {kd : Nat} {nu pg x : Int32} {s : AS} (hkd : kd < 6) (h : MA g kd nu pg s) (k : ∀ g', MA g' kd nu pg (hkF kd nu x s).2 → FA g g' → K (hkF kd nu x s).1 g') : pg_Cal sc 4 mX7_hooksIt [.ref 59, .int x] g (pg_ki K) := by
  rcases (show kd = 0 ∨ kd = 1 ∨ kd = 2 ∨ kd = 3 ∨ kd = 4 ∨ kd = 5 by omega) with rfl | rfl | rfl | rfl | rfl | rfl
  · exact tX7_hooksIt_0 h k
  · exact tX7_hooksIt_1 h k
  · exact tX7_hooksIt_2 h k
  · exact tX7_hooksIt_3 h k
  · exact tX7_hooksIt_4 h k
  · exact tX7_hooksIt_5 h k
set_option maxHeartbeats 4000000 in
set_option maxRecDepth 20000 in
theorem tX7_plainLeans {sc : pg_Sc} {g : pg_S} {K : Int32 → pg_S → Prop} {kd : Nat} {nu pg x : Int32} {s : AS} (hkd : kd < 6) (h : MA g kd nu pg s) (k : ∀ g', MA g' kd nu pg (plF kd nu pg x s).2 → FA g g' → K (plF kd nu pg x s).1 g') : pg_Cal sc 5 mX7_plainLeans [.ref 59, .int x] g (pg_ki K) := by
  refine pg_Cal.of rfl (Nat.le_of_ble_eq_true rfl) rfl ?_
  refine go_aload_n (pc' := 1) dX7_plainLeans_0 rfl rfl ?_
  refine go_bipush (pc' := 3) 11 dX7_plainLeans_1 rfl (by decide) ?_
  refine go_cVv1 (pc' := 6) (M' := mX7_ran) (d' := 1) dX7_plainLeans_3 rfl cvRX7_334 rfl rfl (by decide) rfl (Nat.le_of_ble_eq_true rfl) ?_
  refine tX7_ran h (fun g1 h1 f1 => ?_)
  refine go_aload_n (pc' := 7) dX7_plainLeans_6 rfl rfl ?_
  refine go_iload_n (pc' := 8) dX7_plainLeans_7 rfl rfl ?_
  refine go_cVi1 (pc' := 11) (M' := mX7_hooksIt) (d' := 4) dX7_plainLeans_8 rfl cvRX7_349 rfl rfl (by decide) rfl (Nat.le_of_ble_eq_true rfl) ?_
  refine tX7_hooksIt hkd h1 (fun g2 h2 f2 => ?_)
  refine go_aload_n (pc' := 12) dX7_plainLeans_11 rfl rfl ?_
  refine go_getI (pc' := 15) dX7_plainLeans_12 rfl flRX7_352 rfl rfl ?_
  rw [h2.2.2.2.2.1]
  refine go_iadd (pc' := 16) dX7_plainLeans_15 rfl ?_
  refine go_iret dX7_plainLeans_16 (pg_narI _) ?_
  exact k _ h2 (FA.tr f1 f2)

set_option maxHeartbeats 4000000 in
set_option maxRecDepth 20000 in
theorem tX7_leansIt_0 {sc : pg_Sc} {g : pg_S} {K : Int32 → pg_S → Prop} {nu pg x : Int32} {s : AS} (h : MA g 0 nu pg s) (k : ∀ g', MA g' 0 nu pg (lnF 0 nu pg x s).2 → FA g g' → K (lnF 0 nu pg x s).1 g') : pg_Cal sc 6 mX7_leansIt [.ref 59, .int x] g (pg_ki K) := by
  refine pg_Cal.of rfl (Nat.le_of_ble_eq_true rfl) rfl ?_
  refine go_aload_n (pc' := 1) dX7_leansIt_0 rfl rfl ?_
  refine go_getI (pc' := 4) dX7_leansIt_1 rfl flRX7_343 rfl rfl ?_
  rw [h.2.2.1]
  refine go_iconst (pc' := 5) 1 dX7_leansIt_4 rfl (by decide) ?_
  refine go_icmp_eq (pc' := 8) (tgt := 16) dX7_leansIt_5 rfl (by decide) (fun h_5 => absurd h_5 (by decide)) (fun h_5 => ?_)
  refine go_aload_n (pc' := 9) dX7_leansIt_8 rfl rfl ?_
  refine go_getI (pc' := 12) dX7_leansIt_9 rfl flRX7_343 rfl rfl ?_
  rw [h.2.2.1]
  refine go_iconst (pc' := 13) 3 dX7_leansIt_12 rfl (by decide) ?_
  refine go_icmp_ne (pc' := 16) (tgt := 30) dX7_leansIt_13 rfl (by decide) (fun h_13 => ?_) (fun h_13 => absurd h_13 (by decide))
  refine go_aload_n (pc' := 31) dX7_leansIt_30 rfl rfl ?_
  refine go_getI (pc' := 34) dX7_leansIt_31 rfl flRX7_343 rfl rfl ?_
  rw [h.2.2.1]
  refine go_iconst (pc' := 35) 4 dX7_leansIt_34 rfl (by decide) ?_
  refine go_icmp_ne (pc' := 38) (tgt := 61) dX7_leansIt_35 rfl (by decide) (fun h_35 => ?_) (fun h_35 => absurd h_35 (by decide))
  refine go_aload_n (pc' := 62) dX7_leansIt_61 rfl rfl ?_
  refine go_iload_n (pc' := 63) dX7_leansIt_62 rfl rfl ?_
  refine go_cVi1 (pc' := 66) (M' := mX7_plainLeans) (d' := 5) dX7_leansIt_63 rfl cvRX7_355 rfl rfl (by decide) rfl (Nat.le_of_ble_eq_true rfl) ?_
  refine tX7_plainLeans (by decide) h (fun g2 h2 f2 => ?_)
  refine go_iret dX7_leansIt_66 (pg_narI _) ?_
  exact k _ h2 f2

set_option maxHeartbeats 4000000 in
set_option maxRecDepth 20000 in
theorem tX7_leansIt_1 {sc : pg_Sc} {g : pg_S} {K : Int32 → pg_S → Prop} {nu pg x : Int32} {s : AS} (h : MA g 1 nu pg s) (k : ∀ g', MA g' 1 nu pg (lnF 1 nu pg x s).2 → FA g g' → K (lnF 1 nu pg x s).1 g') : pg_Cal sc 6 mX7_leansIt [.ref 59, .int x] g (pg_ki K) := by
  refine pg_Cal.of rfl (Nat.le_of_ble_eq_true rfl) rfl ?_
  refine go_aload_n (pc' := 1) dX7_leansIt_0 rfl rfl ?_
  refine go_getI (pc' := 4) dX7_leansIt_1 rfl flRX7_343 rfl rfl ?_
  rw [h.2.2.1]
  refine go_iconst (pc' := 5) 1 dX7_leansIt_4 rfl (by decide) ?_
  refine go_icmp_eq (pc' := 8) (tgt := 16) dX7_leansIt_5 rfl (by decide) (fun h_5 => ?_) (fun h_5 => absurd (by decide) h_5)
  refine go_aload_n (pc' := 17) dX7_leansIt_16 rfl rfl ?_
  refine go_bipush (pc' := 19) 20 dX7_leansIt_17 rfl (by decide) ?_
  refine go_cVv1 (pc' := 22) (M' := mX7_ran) (d' := 1) dX7_leansIt_19 rfl cvRX7_334 rfl rfl (by decide) rfl (Nat.le_of_ble_eq_true rfl) ?_
  refine tX7_ran h (fun g1 h1 f1 => ?_)
  refine go_aload_n (pc' := 23) dX7_leansIt_22 rfl rfl ?_
  refine go_iload_n (pc' := 24) dX7_leansIt_23 rfl rfl ?_
  refine go_cVi1 (pc' := 27) (M' := mX7_plainLeans) (d' := 5) dX7_leansIt_24 rfl cvRX7_355 rfl rfl (by decide) rfl (Nat.le_of_ble_eq_true rfl) ?_
  refine tX7_plainLeans (by decide) h1 (fun g2 h2 f2 => ?_)
  refine go_iconst (pc' := 28) 3 dX7_leansIt_27 rfl (by decide) ?_
  refine go_isub (pc' := 29) dX7_leansIt_28 rfl ?_
  refine go_iret dX7_leansIt_29 (pg_narI _) ?_
  exact k _ h2 (FA.tr f1 f2)

set_option maxHeartbeats 4000000 in
set_option maxRecDepth 20000 in
theorem tX7_leansIt_2 {sc : pg_Sc} {g : pg_S} {K : Int32 → pg_S → Prop} {nu pg x : Int32} {s : AS} (h : MA g 2 nu pg s) (k : ∀ g', MA g' 2 nu pg (lnF 2 nu pg x s).2 → FA g g' → K (lnF 2 nu pg x s).1 g') : pg_Cal sc 6 mX7_leansIt [.ref 59, .int x] g (pg_ki K) := by
  refine pg_Cal.of rfl (Nat.le_of_ble_eq_true rfl) rfl ?_
  refine go_aload_n (pc' := 1) dX7_leansIt_0 rfl rfl ?_
  refine go_getI (pc' := 4) dX7_leansIt_1 rfl flRX7_343 rfl rfl ?_
  rw [h.2.2.1]
  refine go_iconst (pc' := 5) 1 dX7_leansIt_4 rfl (by decide) ?_
  refine go_icmp_eq (pc' := 8) (tgt := 16) dX7_leansIt_5 rfl (by decide) (fun h_5 => absurd h_5 (by decide)) (fun h_5 => ?_)
  refine go_aload_n (pc' := 9) dX7_leansIt_8 rfl rfl ?_
  refine go_getI (pc' := 12) dX7_leansIt_9 rfl flRX7_343 rfl rfl ?_
  rw [h.2.2.1]
  refine go_iconst (pc' := 13) 3 dX7_leansIt_12 rfl (by decide) ?_
  refine go_icmp_ne (pc' := 16) (tgt := 30) dX7_leansIt_13 rfl (by decide) (fun h_13 => ?_) (fun h_13 => absurd h_13 (by decide))
  refine go_aload_n (pc' := 31) dX7_leansIt_30 rfl rfl ?_
  refine go_getI (pc' := 34) dX7_leansIt_31 rfl flRX7_343 rfl rfl ?_
  rw [h.2.2.1]
  refine go_iconst (pc' := 35) 4 dX7_leansIt_34 rfl (by decide) ?_
  refine go_icmp_ne (pc' := 38) (tgt := 61) dX7_leansIt_35 rfl (by decide) (fun h_35 => ?_) (fun h_35 => absurd h_35 (by decide))
  refine go_aload_n (pc' := 62) dX7_leansIt_61 rfl rfl ?_
  refine go_iload_n (pc' := 63) dX7_leansIt_62 rfl rfl ?_
  refine go_cVi1 (pc' := 66) (M' := mX7_plainLeans) (d' := 5) dX7_leansIt_63 rfl cvRX7_355 rfl rfl (by decide) rfl (Nat.le_of_ble_eq_true rfl) ?_
  refine tX7_plainLeans (by decide) h (fun g2 h2 f2 => ?_)
  refine go_iret dX7_leansIt_66 (pg_narI _) ?_
  exact k _ h2 f2

set_option maxHeartbeats 4000000 in
set_option maxRecDepth 20000 in
theorem tX7_leansIt_3 {sc : pg_Sc} {g : pg_S} {K : Int32 → pg_S → Prop} {nu pg x : Int32} {s : AS} (h : MA g 3 nu pg s) (k : ∀ g', MA g' 3 nu pg (lnF 3 nu pg x s).2 → FA g g' → K (lnF 3 nu pg x s).1 g') : pg_Cal sc 6 mX7_leansIt [.ref 59, .int x] g (pg_ki K) := by
  refine pg_Cal.of rfl (Nat.le_of_ble_eq_true rfl) rfl ?_
  refine go_aload_n (pc' := 1) dX7_leansIt_0 rfl rfl ?_
  refine go_getI (pc' := 4) dX7_leansIt_1 rfl flRX7_343 rfl rfl ?_
  rw [h.2.2.1]
  refine go_iconst (pc' := 5) 1 dX7_leansIt_4 rfl (by decide) ?_
  refine go_icmp_eq (pc' := 8) (tgt := 16) dX7_leansIt_5 rfl (by decide) (fun h_5 => absurd h_5 (by decide)) (fun h_5 => ?_)
  refine go_aload_n (pc' := 9) dX7_leansIt_8 rfl rfl ?_
  refine go_getI (pc' := 12) dX7_leansIt_9 rfl flRX7_343 rfl rfl ?_
  rw [h.2.2.1]
  refine go_iconst (pc' := 13) 3 dX7_leansIt_12 rfl (by decide) ?_
  refine go_icmp_ne (pc' := 16) (tgt := 30) dX7_leansIt_13 rfl (by decide) (fun h_13 => absurd (by decide) h_13) (fun h_13 => ?_)
  refine go_aload_n (pc' := 17) dX7_leansIt_16 rfl rfl ?_
  refine go_bipush (pc' := 19) 20 dX7_leansIt_17 rfl (by decide) ?_
  refine go_cVv1 (pc' := 22) (M' := mX7_ran) (d' := 1) dX7_leansIt_19 rfl cvRX7_334 rfl rfl (by decide) rfl (Nat.le_of_ble_eq_true rfl) ?_
  refine tX7_ran h (fun g1 h1 f1 => ?_)
  refine go_aload_n (pc' := 23) dX7_leansIt_22 rfl rfl ?_
  refine go_iload_n (pc' := 24) dX7_leansIt_23 rfl rfl ?_
  refine go_cVi1 (pc' := 27) (M' := mX7_plainLeans) (d' := 5) dX7_leansIt_24 rfl cvRX7_355 rfl rfl (by decide) rfl (Nat.le_of_ble_eq_true rfl) ?_
  refine tX7_plainLeans (by decide) h1 (fun g2 h2 f2 => ?_)
  refine go_iconst (pc' := 28) 3 dX7_leansIt_27 rfl (by decide) ?_
  refine go_isub (pc' := 29) dX7_leansIt_28 rfl ?_
  refine go_iret dX7_leansIt_29 (pg_narI _) ?_
  exact k _ h2 (FA.tr f1 f2)

set_option maxHeartbeats 4000000 in
set_option maxRecDepth 20000 in
theorem tX7_leansIt_4 {sc : pg_Sc} {g : pg_S} {K : Int32 → pg_S → Prop} {nu pg x : Int32} {s : AS} (h : MA g 4 nu pg s) (k : ∀ g', MA g' 4 nu pg (lnF 4 nu pg x s).2 → FA g g' → K (lnF 4 nu pg x s).1 g') : pg_Cal sc 6 mX7_leansIt [.ref 59, .int x] g (pg_ki K) := by
  refine pg_Cal.of rfl (Nat.le_of_ble_eq_true rfl) rfl ?_
  refine go_aload_n (pc' := 1) dX7_leansIt_0 rfl rfl ?_
  refine go_getI (pc' := 4) dX7_leansIt_1 rfl flRX7_343 rfl rfl ?_
  rw [h.2.2.1]
  refine go_iconst (pc' := 5) 1 dX7_leansIt_4 rfl (by decide) ?_
  refine go_icmp_eq (pc' := 8) (tgt := 16) dX7_leansIt_5 rfl (by decide) (fun h_5 => absurd h_5 (by decide)) (fun h_5 => ?_)
  refine go_aload_n (pc' := 9) dX7_leansIt_8 rfl rfl ?_
  refine go_getI (pc' := 12) dX7_leansIt_9 rfl flRX7_343 rfl rfl ?_
  rw [h.2.2.1]
  refine go_iconst (pc' := 13) 3 dX7_leansIt_12 rfl (by decide) ?_
  refine go_icmp_ne (pc' := 16) (tgt := 30) dX7_leansIt_13 rfl (by decide) (fun h_13 => ?_) (fun h_13 => absurd h_13 (by decide))
  refine go_aload_n (pc' := 31) dX7_leansIt_30 rfl rfl ?_
  refine go_getI (pc' := 34) dX7_leansIt_31 rfl flRX7_343 rfl rfl ?_
  rw [h.2.2.1]
  refine go_iconst (pc' := 35) 4 dX7_leansIt_34 rfl (by decide) ?_
  refine go_icmp_ne (pc' := 38) (tgt := 61) dX7_leansIt_35 rfl (by decide) (fun h_35 => absurd (by decide) h_35) (fun h_35 => ?_)
  refine go_aload_n (pc' := 39) dX7_leansIt_38 rfl rfl ?_
  refine go_bipush (pc' := 41) 41 dX7_leansIt_39 rfl (by decide) ?_
  refine go_cVv1 (pc' := 44) (M' := mX7_ran) (d' := 1) dX7_leansIt_41 rfl cvRX7_334 rfl rfl (by decide) rfl (Nat.le_of_ble_eq_true rfl) ?_
  refine tX7_ran h (fun g1 h1 f1 => ?_)
  refine go_aload_n (pc' := 45) dX7_leansIt_44 rfl rfl ?_
  refine go_iload_n (pc' := 46) dX7_leansIt_45 rfl rfl ?_
  refine go_cVi1 (pc' := 49) (M' := mX7_plainLeans) (d' := 5) dX7_leansIt_46 rfl cvRX7_355 rfl rfl (by decide) rfl (Nat.le_of_ble_eq_true rfl) ?_
  refine tX7_plainLeans (by decide) h1 (fun g2 h2 f2 => ?_)
  refine go_istore_n (pc' := 50) dX7_leansIt_49 rfl (by decide) rfl ?_
  refine go_iload_n (pc' := 51) dX7_leansIt_50 rfl rfl ?_
  refine go_aload_n (pc' := 52) dX7_leansIt_51 rfl rfl ?_
  refine go_aload_n (pc' := 53) dX7_leansIt_52 rfl rfl ?_
  refine go_getI (pc' := 56) dX7_leansIt_53 rfl flRX7_352 rfl rfl ?_
  rw [h2.2.2.2.2.1]
  refine go_cVi1 (pc' := 59) (M' := mX7_hooksIt) (d' := 4) dX7_leansIt_56 rfl cvRX7_349 rfl rfl (by decide) rfl (Nat.le_of_ble_eq_true rfl) ?_
  refine tX7_hooksIt (by decide) h2 (fun g3 h3 f3 => ?_)
  refine go_iadd (pc' := 60) dX7_leansIt_59 rfl ?_
  refine go_iret dX7_leansIt_60 (pg_narI _) ?_
  exact k _ h3 (FA.tr (FA.tr f1 f2) f3)

set_option maxHeartbeats 4000000 in
set_option maxRecDepth 20000 in
theorem tX7_leansIt_5 {sc : pg_Sc} {g : pg_S} {K : Int32 → pg_S → Prop} {nu pg x : Int32} {s : AS} (h : MA g 5 nu pg s) (k : ∀ g', MA g' 5 nu pg (lnF 5 nu pg x s).2 → FA g g' → K (lnF 5 nu pg x s).1 g') : pg_Cal sc 6 mX7_leansIt [.ref 59, .int x] g (pg_ki K) := by
  refine pg_Cal.of rfl (Nat.le_of_ble_eq_true rfl) rfl ?_
  refine go_aload_n (pc' := 1) dX7_leansIt_0 rfl rfl ?_
  refine go_getI (pc' := 4) dX7_leansIt_1 rfl flRX7_343 rfl rfl ?_
  rw [h.2.2.1]
  refine go_iconst (pc' := 5) 1 dX7_leansIt_4 rfl (by decide) ?_
  refine go_icmp_eq (pc' := 8) (tgt := 16) dX7_leansIt_5 rfl (by decide) (fun h_5 => absurd h_5 (by decide)) (fun h_5 => ?_)
  refine go_aload_n (pc' := 9) dX7_leansIt_8 rfl rfl ?_
  refine go_getI (pc' := 12) dX7_leansIt_9 rfl flRX7_343 rfl rfl ?_
  rw [h.2.2.1]
  refine go_iconst (pc' := 13) 3 dX7_leansIt_12 rfl (by decide) ?_
  refine go_icmp_ne (pc' := 16) (tgt := 30) dX7_leansIt_13 rfl (by decide) (fun h_13 => ?_) (fun h_13 => absurd h_13 (by decide))
  refine go_aload_n (pc' := 31) dX7_leansIt_30 rfl rfl ?_
  refine go_getI (pc' := 34) dX7_leansIt_31 rfl flRX7_343 rfl rfl ?_
  rw [h.2.2.1]
  refine go_iconst (pc' := 35) 4 dX7_leansIt_34 rfl (by decide) ?_
  refine go_icmp_ne (pc' := 38) (tgt := 61) dX7_leansIt_35 rfl (by decide) (fun h_35 => ?_) (fun h_35 => absurd h_35 (by decide))
  refine go_aload_n (pc' := 62) dX7_leansIt_61 rfl rfl ?_
  refine go_iload_n (pc' := 63) dX7_leansIt_62 rfl rfl ?_
  refine go_cVi1 (pc' := 66) (M' := mX7_plainLeans) (d' := 5) dX7_leansIt_63 rfl cvRX7_355 rfl rfl (by decide) rfl (Nat.le_of_ble_eq_true rfl) ?_
  refine tX7_plainLeans (by decide) h (fun g2 h2 f2 => ?_)
  refine go_iret dX7_leansIt_66 (pg_narI _) ?_
  exact k _ h2 f2

theorem tX7_leansIt {sc : pg_Sc} {g : pg_S} {K : Int32 → pg_S → Prop} {kd : Nat} {nu pg x : Int32} {s : AS} (hkd : kd < 6) (h : MA g kd nu pg s) (k : ∀ g', MA g' kd nu pg (lnF kd nu pg x s).2 → FA g g' → K (lnF kd nu pg x s).1 g') : pg_Cal sc 6 mX7_leansIt [.ref 59, .int x] g (pg_ki K) := by
  rcases (show kd = 0 ∨ kd = 1 ∨ kd = 2 ∨ kd = 3 ∨ kd = 4 ∨ kd = 5 by omega) with rfl | rfl | rfl | rfl | rfl | rfl
  · exact tX7_leansIt_0 h k
  · exact tX7_leansIt_1 h k
  · exact tX7_leansIt_2 h k
  · exact tX7_leansIt_3 h k
  · exact tX7_leansIt_4 h k
  · exact tX7_leansIt_5 h k
set_option maxHeartbeats 4000000 in
set_option maxRecDepth 20000 in
theorem tX7_plainParts {sc : pg_Sc} {g : pg_S} {K : Int32 → pg_S → Prop} {kd : Nat} {nu pg x : Int32} {s : AS} (h : MA g kd nu pg s) (k : ∀ g', MA g' kd nu pg (ppF nu pg x s).2 → FA g g' → K (ppF nu pg x s).1 g') : pg_Cal sc 2 mX7_plainParts [.ref 59, .int x] g (pg_ki K) := by
  refine pg_Cal.of rfl (Nat.le_of_ble_eq_true rfl) rfl ?_
  refine go_aload_n (pc' := 1) dX7_plainParts_0 rfl rfl ?_
  refine go_bipush (pc' := 3) 12 dX7_plainParts_1 rfl (by decide) ?_
  refine go_cVv1 (pc' := 6) (M' := mX7_ran) (d' := 1) dX7_plainParts_3 rfl cvRX7_334 rfl rfl (by decide) rfl (Nat.le_of_ble_eq_true rfl) ?_
  refine tX7_ran h (fun g1 h1 f1 => ?_)
  refine go_aload_n (pc' := 7) dX7_plainParts_6 rfl rfl ?_
  refine go_getI (pc' := 10) dX7_plainParts_7 rfl flRX7_352 rfl rfl ?_
  rw [h1.2.2.2.2.1]
  refine go_aload_n (pc' := 11) dX7_plainParts_10 rfl rfl ?_
  refine go_getI (pc' := 14) dX7_plainParts_11 rfl flRX7_337 rfl rfl ?_
  rw [h1.2.2.2.1]
  refine go_icmp_ne (pc' := 17) (tgt := 24) dX7_plainParts_14 rfl (by decide) (fun h_14 => ?_) (fun h_14 => ?_)
  · refine go_iload_n (pc' := 25) dX7_plainParts_24 rfl rfl ?_
    refine go_aload_n (pc' := 26) dX7_plainParts_25 rfl rfl ?_
    refine go_getI (pc' := 29) dX7_plainParts_26 rfl flRX7_352 rfl rfl ?_
    rw [h1.2.2.2.2.1]
    refine go_aload_n (pc' := 30) dX7_plainParts_29 rfl rfl ?_
    refine go_getI (pc' := 33) dX7_plainParts_30 rfl flRX7_337 rfl rfl ?_
    rw [h1.2.2.2.1]
    refine go_isub (pc' := 34) dX7_plainParts_33 rfl ?_
    refine go_idiv (pc' := 35) dX7_plainParts_34 rfl (fun q => h_14 (sub0.mp q)) ?_
    refine go_iret dX7_plainParts_35 (pg_narI _) ?_
    unfold ppF at k
    rw [if_neg h_14] at k
    exact k _ h1 f1
  · refine go_aload_n (pc' := 18) dX7_plainParts_17 rfl rfl ?_
    refine go_iconst (pc' := 19) 1 dX7_plainParts_18 rfl (by decide) ?_
    refine go_putZ (pc' := 22) (by decide) dX7_plainParts_19 rfl flRX7_358 rfl rfl ft7_28 ?_
    refine go_iconst (pc' := 23) 0 dX7_plainParts_22 rfl (by decide) ?_
    refine go_iret dX7_plainParts_23 (pg_narI _) ?_
    unfold ppF at k
    rw [if_pos h_14] at k
    exact k _ (ma_part h1) (FA.tr f1 (FA.ui (by decide)))

set_option maxHeartbeats 4000000 in
set_option maxRecDepth 20000 in
theorem tX7_partsIt_0 {sc : pg_Sc} {g : pg_S} {K : Int32 → pg_S → Prop} {nu pg x : Int32} {s : AS} (h0 : s.2.2 = 0) (h : MA g 0 nu pg s) (k : ∀ g', MA g' 0 nu pg (ptF 0 nu pg x s).2 → FA g g' → K (ptF 0 nu pg x s).1 g') : pg_Cal sc 5 mX7_partsIt [.ref 59, .int x] g (pg_ki K) := by
  refine pg_Cal.of rfl (Nat.le_of_ble_eq_true rfl) rfl ?_
  refine go_aload_n (pc' := 1) dX7_partsIt_0 rfl rfl ?_
  refine go_getI (pc' := 4) dX7_partsIt_1 rfl flRX7_343 rfl rfl ?_
  rw [h.2.2.1]
  refine go_iconst (pc' := 5) 3 dX7_partsIt_4 rfl (by decide) ?_
  refine go_icmp_ne (pc' := 8) (tgt := 27) dX7_partsIt_5 rfl (by decide) (fun h_5 => ?_) (fun h_5 => absurd h_5 (by decide))
  refine go_aload_n (pc' := 28) dX7_partsIt_27 rfl rfl ?_
  refine go_getI (pc' := 31) dX7_partsIt_28 rfl flRX7_343 rfl rfl ?_
  rw [h.2.2.1]
  refine go_iconst (pc' := 32) 5 dX7_partsIt_31 rfl (by decide) ?_
  refine go_icmp_ne (pc' := 35) (tgt := 69) dX7_partsIt_32 rfl (by decide) (fun h_32 => ?_) (fun h_32 => absurd h_32 (by decide))
  refine go_aload_n (pc' := 70) dX7_partsIt_69 rfl rfl ?_
  refine go_iload_n (pc' := 71) dX7_partsIt_70 rfl rfl ?_
  refine go_cVi1 (pc' := 74) (M' := mX7_plainParts) (d' := 2) dX7_partsIt_71 rfl cvRX7_361 rfl rfl (by decide) rfl (Nat.le_of_ble_eq_true rfl) ?_
  refine tX7_plainParts h (fun g2 h2 f2 => ?_)
  refine go_iret dX7_partsIt_74 (pg_narI _) ?_
  exact k _ h2 f2

set_option maxHeartbeats 4000000 in
set_option maxRecDepth 20000 in
theorem tX7_partsIt_1 {sc : pg_Sc} {g : pg_S} {K : Int32 → pg_S → Prop} {nu pg x : Int32} {s : AS} (h0 : s.2.2 = 0) (h : MA g 1 nu pg s) (k : ∀ g', MA g' 1 nu pg (ptF 1 nu pg x s).2 → FA g g' → K (ptF 1 nu pg x s).1 g') : pg_Cal sc 5 mX7_partsIt [.ref 59, .int x] g (pg_ki K) := by
  refine pg_Cal.of rfl (Nat.le_of_ble_eq_true rfl) rfl ?_
  refine go_aload_n (pc' := 1) dX7_partsIt_0 rfl rfl ?_
  refine go_getI (pc' := 4) dX7_partsIt_1 rfl flRX7_343 rfl rfl ?_
  rw [h.2.2.1]
  refine go_iconst (pc' := 5) 3 dX7_partsIt_4 rfl (by decide) ?_
  refine go_icmp_ne (pc' := 8) (tgt := 27) dX7_partsIt_5 rfl (by decide) (fun h_5 => ?_) (fun h_5 => absurd h_5 (by decide))
  refine go_aload_n (pc' := 28) dX7_partsIt_27 rfl rfl ?_
  refine go_getI (pc' := 31) dX7_partsIt_28 rfl flRX7_343 rfl rfl ?_
  rw [h.2.2.1]
  refine go_iconst (pc' := 32) 5 dX7_partsIt_31 rfl (by decide) ?_
  refine go_icmp_ne (pc' := 35) (tgt := 69) dX7_partsIt_32 rfl (by decide) (fun h_32 => ?_) (fun h_32 => absurd h_32 (by decide))
  refine go_aload_n (pc' := 70) dX7_partsIt_69 rfl rfl ?_
  refine go_iload_n (pc' := 71) dX7_partsIt_70 rfl rfl ?_
  refine go_cVi1 (pc' := 74) (M' := mX7_plainParts) (d' := 2) dX7_partsIt_71 rfl cvRX7_361 rfl rfl (by decide) rfl (Nat.le_of_ble_eq_true rfl) ?_
  refine tX7_plainParts h (fun g2 h2 f2 => ?_)
  refine go_iret dX7_partsIt_74 (pg_narI _) ?_
  exact k _ h2 f2

set_option maxHeartbeats 4000000 in
set_option maxRecDepth 20000 in
theorem tX7_partsIt_2 {sc : pg_Sc} {g : pg_S} {K : Int32 → pg_S → Prop} {nu pg x : Int32} {s : AS} (h0 : s.2.2 = 0) (h : MA g 2 nu pg s) (k : ∀ g', MA g' 2 nu pg (ptF 2 nu pg x s).2 → FA g g' → K (ptF 2 nu pg x s).1 g') : pg_Cal sc 5 mX7_partsIt [.ref 59, .int x] g (pg_ki K) := by
  refine pg_Cal.of rfl (Nat.le_of_ble_eq_true rfl) rfl ?_
  refine go_aload_n (pc' := 1) dX7_partsIt_0 rfl rfl ?_
  refine go_getI (pc' := 4) dX7_partsIt_1 rfl flRX7_343 rfl rfl ?_
  rw [h.2.2.1]
  refine go_iconst (pc' := 5) 3 dX7_partsIt_4 rfl (by decide) ?_
  refine go_icmp_ne (pc' := 8) (tgt := 27) dX7_partsIt_5 rfl (by decide) (fun h_5 => ?_) (fun h_5 => absurd h_5 (by decide))
  refine go_aload_n (pc' := 28) dX7_partsIt_27 rfl rfl ?_
  refine go_getI (pc' := 31) dX7_partsIt_28 rfl flRX7_343 rfl rfl ?_
  rw [h.2.2.1]
  refine go_iconst (pc' := 32) 5 dX7_partsIt_31 rfl (by decide) ?_
  refine go_icmp_ne (pc' := 35) (tgt := 69) dX7_partsIt_32 rfl (by decide) (fun h_32 => ?_) (fun h_32 => absurd h_32 (by decide))
  refine go_aload_n (pc' := 70) dX7_partsIt_69 rfl rfl ?_
  refine go_iload_n (pc' := 71) dX7_partsIt_70 rfl rfl ?_
  refine go_cVi1 (pc' := 74) (M' := mX7_plainParts) (d' := 2) dX7_partsIt_71 rfl cvRX7_361 rfl rfl (by decide) rfl (Nat.le_of_ble_eq_true rfl) ?_
  refine tX7_plainParts h (fun g2 h2 f2 => ?_)
  refine go_iret dX7_partsIt_74 (pg_narI _) ?_
  exact k _ h2 f2

set_option maxHeartbeats 4000000 in
set_option maxRecDepth 20000 in
theorem tX7_partsIt_3 {sc : pg_Sc} {g : pg_S} {K : Int32 → pg_S → Prop} {nu pg x : Int32} {s : AS} (h0 : s.2.2 = 0) (h : MA g 3 nu pg s) (k : ∀ g', MA g' 3 nu pg (ptF 3 nu pg x s).2 → FA g g' → K (ptF 3 nu pg x s).1 g') : pg_Cal sc 5 mX7_partsIt [.ref 59, .int x] g (pg_ki K) := by
  refine pg_Cal.of rfl (Nat.le_of_ble_eq_true rfl) rfl ?_
  refine go_aload_n (pc' := 1) dX7_partsIt_0 rfl rfl ?_
  refine go_getI (pc' := 4) dX7_partsIt_1 rfl flRX7_343 rfl rfl ?_
  rw [h.2.2.1]
  refine go_iconst (pc' := 5) 3 dX7_partsIt_4 rfl (by decide) ?_
  refine go_icmp_ne (pc' := 8) (tgt := 27) dX7_partsIt_5 rfl (by decide) (fun h_5 => absurd (by decide) h_5) (fun h_5 => ?_)
  refine go_aload_n (pc' := 9) dX7_partsIt_8 rfl rfl ?_
  refine go_bipush (pc' := 11) 50 dX7_partsIt_9 rfl (by decide) ?_
  refine go_cVv1 (pc' := 14) (M' := mX7_ran) (d' := 1) dX7_partsIt_11 rfl cvRX7_334 rfl rfl (by decide) rfl (Nat.le_of_ble_eq_true rfl) ?_
  refine tX7_ran h (fun g1 h1 f1 => ?_)
  refine go_aload_n (pc' := 15) dX7_partsIt_14 rfl rfl ?_
  refine go_iload_n (pc' := 16) dX7_partsIt_15 rfl rfl ?_
  refine go_aload_n (pc' := 17) dX7_partsIt_16 rfl rfl ?_
  refine go_getI (pc' := 20) dX7_partsIt_17 rfl flRX7_337 rfl rfl ?_
  rw [h1.2.2.2.1]
  refine go_isub (pc' := 21) dX7_partsIt_20 rfl ?_
  refine go_cVi1 (pc' := 24) (M' := mX7_plainParts) (d' := 2) dX7_partsIt_21 rfl cvRX7_361 rfl rfl (by decide) rfl (Nat.le_of_ble_eq_true rfl) ?_
  refine tX7_plainParts h1 (fun g2 h2 f2 => ?_)
  refine go_iconst (pc' := 25) 3 dX7_partsIt_24 rfl (by decide) ?_
  refine go_imul (pc' := 26) dX7_partsIt_25 rfl ?_
  refine go_iret dX7_partsIt_26 (pg_narI _) ?_
  exact k _ h2 (FA.tr f1 f2)

set_option maxHeartbeats 4000000 in
set_option maxRecDepth 20000 in
theorem tX7_partsIt_4 {sc : pg_Sc} {g : pg_S} {K : Int32 → pg_S → Prop} {nu pg x : Int32} {s : AS} (h0 : s.2.2 = 0) (h : MA g 4 nu pg s) (k : ∀ g', MA g' 4 nu pg (ptF 4 nu pg x s).2 → FA g g' → K (ptF 4 nu pg x s).1 g') : pg_Cal sc 5 mX7_partsIt [.ref 59, .int x] g (pg_ki K) := by
  refine pg_Cal.of rfl (Nat.le_of_ble_eq_true rfl) rfl ?_
  refine go_aload_n (pc' := 1) dX7_partsIt_0 rfl rfl ?_
  refine go_getI (pc' := 4) dX7_partsIt_1 rfl flRX7_343 rfl rfl ?_
  rw [h.2.2.1]
  refine go_iconst (pc' := 5) 3 dX7_partsIt_4 rfl (by decide) ?_
  refine go_icmp_ne (pc' := 8) (tgt := 27) dX7_partsIt_5 rfl (by decide) (fun h_5 => ?_) (fun h_5 => absurd h_5 (by decide))
  refine go_aload_n (pc' := 28) dX7_partsIt_27 rfl rfl ?_
  refine go_getI (pc' := 31) dX7_partsIt_28 rfl flRX7_343 rfl rfl ?_
  rw [h.2.2.1]
  refine go_iconst (pc' := 32) 5 dX7_partsIt_31 rfl (by decide) ?_
  refine go_icmp_ne (pc' := 35) (tgt := 69) dX7_partsIt_32 rfl (by decide) (fun h_32 => ?_) (fun h_32 => absurd h_32 (by decide))
  refine go_aload_n (pc' := 70) dX7_partsIt_69 rfl rfl ?_
  refine go_iload_n (pc' := 71) dX7_partsIt_70 rfl rfl ?_
  refine go_cVi1 (pc' := 74) (M' := mX7_plainParts) (d' := 2) dX7_partsIt_71 rfl cvRX7_361 rfl rfl (by decide) rfl (Nat.le_of_ble_eq_true rfl) ?_
  refine tX7_plainParts h (fun g2 h2 f2 => ?_)
  refine go_iret dX7_partsIt_74 (pg_narI _) ?_
  exact k _ h2 f2

set_option maxHeartbeats 4000000 in
set_option maxRecDepth 20000 in
theorem tX7_partsIt_5 {sc : pg_Sc} {g : pg_S} {K : Int32 → pg_S → Prop} {nu pg x : Int32} {s : AS} (h0 : s.2.2 = 0) (h : MA g 5 nu pg s) (k : ∀ g', MA g' 5 nu pg (ptF 5 nu pg x s).2 → FA g g' → K (ptF 5 nu pg x s).1 g') : pg_Cal sc 5 mX7_partsIt [.ref 59, .int x] g (pg_ki K) := by
  refine pg_Cal.of rfl (Nat.le_of_ble_eq_true rfl) rfl ?_
  refine go_aload_n (pc' := 1) dX7_partsIt_0 rfl rfl ?_
  refine go_getI (pc' := 4) dX7_partsIt_1 rfl flRX7_343 rfl rfl ?_
  rw [h.2.2.1]
  refine go_iconst (pc' := 5) 3 dX7_partsIt_4 rfl (by decide) ?_
  refine go_icmp_ne (pc' := 8) (tgt := 27) dX7_partsIt_5 rfl (by decide) (fun h_5 => ?_) (fun h_5 => absurd h_5 (by decide))
  refine go_aload_n (pc' := 28) dX7_partsIt_27 rfl rfl ?_
  refine go_getI (pc' := 31) dX7_partsIt_28 rfl flRX7_343 rfl rfl ?_
  rw [h.2.2.1]
  refine go_iconst (pc' := 32) 5 dX7_partsIt_31 rfl (by decide) ?_
  refine go_icmp_ne (pc' := 35) (tgt := 69) dX7_partsIt_32 rfl (by decide) (fun h_32 => absurd (by decide) h_32) (fun h_32 => ?_)
  refine go_aload_n (pc' := 36) dX7_partsIt_35 rfl rfl ?_
  refine go_bipush (pc' := 38) 61 dX7_partsIt_36 rfl (by decide) ?_
  refine go_cVv1 (pc' := 41) (M' := mX7_ran) (d' := 1) dX7_partsIt_38 rfl cvRX7_334 rfl rfl (by decide) rfl (Nat.le_of_ble_eq_true rfl) ?_
  refine tX7_ran h (fun g1 h1 f1 => ?_)
  have h01 := (note_pt 61 s).trans h0
  refine go_aload_n (pc' := 42) dX7_partsIt_41 rfl rfl ?_
  refine go_iload_n (pc' := 43) dX7_partsIt_42 rfl rfl ?_
  refine go_cVi1 (pc' := 46) (M' := mX7_plainParts) (d' := 2) dX7_partsIt_43 rfl cvRX7_361 rfl rfl (by decide) rfl (Nat.le_of_ble_eq_true rfl) ?_
  refine tX7_plainParts h1 (fun g2 h2 f2 => ?_)
  refine go_istore_n (pc' := 47) dX7_partsIt_46 rfl (by decide) rfl ?_
  refine go_aload_n (pc' := 48) dX7_partsIt_47 rfl rfl ?_
  refine go_getI (pc' := 51) dX7_partsIt_48 rfl flRX7_358 rfl rfl ?_
  rw [h2.2.2.2.2.2.1]
  refine go_if_eq (pc' := 54) (tgt := 58) dX7_partsIt_51 rfl (by decide) (fun h_51 => ?_) (fun h_51 => ?_)
  · refine go_iload_n (pc' := 59) dX7_partsIt_58 rfl rfl ?_
    refine go_aload_n (pc' := 60) dX7_partsIt_59 rfl rfl ?_
    refine go_aload_n (pc' := 61) dX7_partsIt_60 rfl rfl ?_
    refine go_getI (pc' := 64) dX7_partsIt_61 rfl flRX7_337 rfl rfl ?_
    rw [h2.2.2.2.1]
    refine go_cVi1 (pc' := 67) (M' := mX7_hooksIt) (d' := 4) dX7_partsIt_64 rfl cvRX7_349 rfl rfl (by decide) rfl (Nat.le_of_ble_eq_true rfl) ?_
    refine tX7_hooksIt (by decide) h2 (fun g3 h3 f3 => ?_)
    refine go_isub (pc' := 68) dX7_partsIt_67 rfl ?_
    refine go_iret dX7_partsIt_68 (pg_narI _) ?_
    have e : ptF 5 nu pg x s = ((ppF nu pg x (noteF 61 s)).1 - (hkF 5 nu nu (ppF nu pg x (noteF 61 s)).2).1, (hkF 5 nu nu (ppF nu pg x (noteF 61 s)).2).2) := by
      show ((ppF nu pg x (noteF 61 s)).1 - (hgF 5 nu nu (ppF nu pg x (noteF 61 s)).2).1, (hgF 5 nu nu (ppF nu pg x (noteF 61 s)).2).2) = _
      unfold hgF; rw [if_pos h_51]
    rw [e] at k
    exact k _ h3 (FA.tr (FA.tr f1 f2) f3)
  · refine go_iconst (pc' := 55) 0 dX7_partsIt_54 rfl (by decide) ?_
    refine go_goto (pc' := 68) dX7_partsIt_55 (by decide) ?_
    refine go_iret dX7_partsIt_68 (pg_narI _) ?_
    have e : ptF 5 nu pg x s = (0, (ppF nu pg x (noteF 61 s)).2) := by
      show ((ppF nu pg x (noteF 61 s)).1 - (hgF 5 nu nu (ppF nu pg x (noteF 61 s)).2).1, (hgF 5 nu nu (ppF nu pg x (noteF 61 s)).2).2) = _
      unfold hgF; rw [if_neg h_51, pp_0 h01 h_51]; simp
    rw [e] at k
    exact k _ h2 (FA.tr f1 f2)

theorem tX7_partsIt {sc : pg_Sc} {g : pg_S} {K : Int32 → pg_S → Prop} {kd : Nat} {nu pg x : Int32} {s : AS} (hkd : kd < 6) (h0 : s.2.2 = 0) (h : MA g kd nu pg s) (k : ∀ g', MA g' kd nu pg (ptF kd nu pg x s).2 → FA g g' → K (ptF kd nu pg x s).1 g') : pg_Cal sc 5 mX7_partsIt [.ref 59, .int x] g (pg_ki K) := by
  rcases (show kd = 0 ∨ kd = 1 ∨ kd = 2 ∨ kd = 3 ∨ kd = 4 ∨ kd = 5 by omega) with rfl | rfl | rfl | rfl | rfl | rfl
  · exact tX7_partsIt_0 h0 h k
  · exact tX7_partsIt_1 h0 h k
  · exact tX7_partsIt_2 h0 h k
  · exact tX7_partsIt_3 h0 h k
  · exact tX7_partsIt_4 h0 h k
  · exact tX7_partsIt_5 h0 h k
set_option maxHeartbeats 4000000 in
set_option maxRecDepth 20000 in
theorem tX7_plainCalls {sc : pg_Sc} {g : pg_S} {K : Int32 → pg_S → Prop} {kd : Nat} {nu pg x : Int32} {s : AS} (hkd : kd < 6) (h : MA g kd nu pg s) (k : ∀ g', MA g' kd nu pg (pcF kd nu pg x s).2 → FA g g' → K (pcF kd nu pg x s).1 g') : pg_Cal sc 7 mX7_plainCalls [.ref 59, .int x] g (pg_ki K) := by
  refine pg_Cal.of rfl (Nat.le_of_ble_eq_true rfl) rfl ?_
  refine go_aload_n (pc' := 1) dX7_plainCalls_0 rfl rfl ?_
  refine go_bipush (pc' := 3) 13 dX7_plainCalls_1 rfl (by decide) ?_
  refine go_cVv1 (pc' := 6) (M' := mX7_ran) (d' := 1) dX7_plainCalls_3 rfl cvRX7_334 rfl rfl (by decide) rfl (Nat.le_of_ble_eq_true rfl) ?_
  refine tX7_ran h (fun g1 h1 f1 => ?_)
  refine go_aload_n (pc' := 7) dX7_plainCalls_6 rfl rfl ?_
  refine go_iload_n (pc' := 8) dX7_plainCalls_7 rfl rfl ?_
  refine go_cVi1 (pc' := 11) (M' := mX7_leansIt) (d' := 6) dX7_plainCalls_8 rfl cvRX7_364 rfl rfl (by decide) rfl (Nat.le_of_ble_eq_true rfl) ?_
  refine tX7_leansIt hkd h1 (fun g2 h2 f2 => ?_)
  refine go_bipush (pc' := 13) 50 dX7_plainCalls_11 rfl (by decide) ?_
  refine go_ixor (pc' := 14) dX7_plainCalls_13 rfl ?_
  refine go_iret dX7_plainCalls_14 (pg_narI _) ?_
  exact k _ h2 (FA.tr f1 f2)

set_option maxHeartbeats 4000000 in
set_option maxRecDepth 20000 in
theorem tX7_callsIt_0 {sc : pg_Sc} {g : pg_S} {K : Int32 → pg_S → Prop} {nu pg x : Int32} {s : AS} (h0 : s.2.2 = 0) (h : MA g 0 nu pg s) (k : ∀ g', MA g' 0 nu pg (clF2 0 nu pg x s).2 → FA g g' → K (clF2 0 nu pg x s).1 g') : pg_Cal sc 8 mX7_callsIt [.ref 59, .int x] g (pg_ki K) := by
  refine pg_Cal.of rfl (Nat.le_of_ble_eq_true rfl) rfl ?_
  refine go_aload_n (pc' := 1) dX7_callsIt_0 rfl rfl ?_
  refine go_getI (pc' := 4) dX7_callsIt_1 rfl flRX7_343 rfl rfl ?_
  rw [h.2.2.1]
  refine go_iconst (pc' := 5) 2 dX7_callsIt_4 rfl (by decide) ?_
  refine go_icmp_eq (pc' := 8) (tgt := 16) dX7_callsIt_5 rfl (by decide) (fun h_5 => absurd h_5 (by decide)) (fun h_5 => ?_)
  refine go_aload_n (pc' := 9) dX7_callsIt_8 rfl rfl ?_
  refine go_getI (pc' := 12) dX7_callsIt_9 rfl flRX7_343 rfl rfl ?_
  rw [h.2.2.1]
  refine go_iconst (pc' := 13) 4 dX7_callsIt_12 rfl (by decide) ?_
  refine go_icmp_ne (pc' := 16) (tgt := 39) dX7_callsIt_13 rfl (by decide) (fun h_13 => ?_) (fun h_13 => absurd h_13 (by decide))
  refine go_aload_n (pc' := 40) dX7_callsIt_39 rfl rfl ?_
  refine go_getI (pc' := 43) dX7_callsIt_40 rfl flRX7_343 rfl rfl ?_
  rw [h.2.2.1]
  refine go_iconst (pc' := 44) 5 dX7_callsIt_43 rfl (by decide) ?_
  refine go_icmp_ne (pc' := 47) (tgt := 61) dX7_callsIt_44 rfl (by decide) (fun h_44 => ?_) (fun h_44 => absurd h_44 (by decide))
  refine go_aload_n (pc' := 62) dX7_callsIt_61 rfl rfl ?_
  refine go_iload_n (pc' := 63) dX7_callsIt_62 rfl rfl ?_
  refine go_cVi1 (pc' := 66) (M' := mX7_plainCalls) (d' := 7) dX7_callsIt_63 rfl cvRX7_367 rfl rfl (by decide) rfl (Nat.le_of_ble_eq_true rfl) ?_
  refine tX7_plainCalls (by decide) h (fun g2 h2 f2 => ?_)
  refine go_iret dX7_callsIt_66 (pg_narI _) ?_
  exact k _ h2 f2

set_option maxHeartbeats 4000000 in
set_option maxRecDepth 20000 in
theorem tX7_callsIt_1 {sc : pg_Sc} {g : pg_S} {K : Int32 → pg_S → Prop} {nu pg x : Int32} {s : AS} (h0 : s.2.2 = 0) (h : MA g 1 nu pg s) (k : ∀ g', MA g' 1 nu pg (clF2 1 nu pg x s).2 → FA g g' → K (clF2 1 nu pg x s).1 g') : pg_Cal sc 8 mX7_callsIt [.ref 59, .int x] g (pg_ki K) := by
  refine pg_Cal.of rfl (Nat.le_of_ble_eq_true rfl) rfl ?_
  refine go_aload_n (pc' := 1) dX7_callsIt_0 rfl rfl ?_
  refine go_getI (pc' := 4) dX7_callsIt_1 rfl flRX7_343 rfl rfl ?_
  rw [h.2.2.1]
  refine go_iconst (pc' := 5) 2 dX7_callsIt_4 rfl (by decide) ?_
  refine go_icmp_eq (pc' := 8) (tgt := 16) dX7_callsIt_5 rfl (by decide) (fun h_5 => absurd h_5 (by decide)) (fun h_5 => ?_)
  refine go_aload_n (pc' := 9) dX7_callsIt_8 rfl rfl ?_
  refine go_getI (pc' := 12) dX7_callsIt_9 rfl flRX7_343 rfl rfl ?_
  rw [h.2.2.1]
  refine go_iconst (pc' := 13) 4 dX7_callsIt_12 rfl (by decide) ?_
  refine go_icmp_ne (pc' := 16) (tgt := 39) dX7_callsIt_13 rfl (by decide) (fun h_13 => ?_) (fun h_13 => absurd h_13 (by decide))
  refine go_aload_n (pc' := 40) dX7_callsIt_39 rfl rfl ?_
  refine go_getI (pc' := 43) dX7_callsIt_40 rfl flRX7_343 rfl rfl ?_
  rw [h.2.2.1]
  refine go_iconst (pc' := 44) 5 dX7_callsIt_43 rfl (by decide) ?_
  refine go_icmp_ne (pc' := 47) (tgt := 61) dX7_callsIt_44 rfl (by decide) (fun h_44 => ?_) (fun h_44 => absurd h_44 (by decide))
  refine go_aload_n (pc' := 62) dX7_callsIt_61 rfl rfl ?_
  refine go_iload_n (pc' := 63) dX7_callsIt_62 rfl rfl ?_
  refine go_cVi1 (pc' := 66) (M' := mX7_plainCalls) (d' := 7) dX7_callsIt_63 rfl cvRX7_367 rfl rfl (by decide) rfl (Nat.le_of_ble_eq_true rfl) ?_
  refine tX7_plainCalls (by decide) h (fun g2 h2 f2 => ?_)
  refine go_iret dX7_callsIt_66 (pg_narI _) ?_
  exact k _ h2 f2

set_option maxHeartbeats 4000000 in
set_option maxRecDepth 20000 in
theorem tX7_callsIt_2 {sc : pg_Sc} {g : pg_S} {K : Int32 → pg_S → Prop} {nu pg x : Int32} {s : AS} (h0 : s.2.2 = 0) (h : MA g 2 nu pg s) (k : ∀ g', MA g' 2 nu pg (clF2 2 nu pg x s).2 → FA g g' → K (clF2 2 nu pg x s).1 g') : pg_Cal sc 8 mX7_callsIt [.ref 59, .int x] g (pg_ki K) := by
  refine pg_Cal.of rfl (Nat.le_of_ble_eq_true rfl) rfl ?_
  refine go_aload_n (pc' := 1) dX7_callsIt_0 rfl rfl ?_
  refine go_getI (pc' := 4) dX7_callsIt_1 rfl flRX7_343 rfl rfl ?_
  rw [h.2.2.1]
  refine go_iconst (pc' := 5) 2 dX7_callsIt_4 rfl (by decide) ?_
  refine go_icmp_eq (pc' := 8) (tgt := 16) dX7_callsIt_5 rfl (by decide) (fun h_5 => ?_) (fun h_5 => absurd (by decide) h_5)
  refine go_aload_n (pc' := 17) dX7_callsIt_16 rfl rfl ?_
  refine go_bipush (pc' := 19) 31 dX7_callsIt_17 rfl (by decide) ?_
  refine go_cVv1 (pc' := 22) (M' := mX7_ran) (d' := 1) dX7_callsIt_19 rfl cvRX7_334 rfl rfl (by decide) rfl (Nat.le_of_ble_eq_true rfl) ?_
  refine tX7_ran h (fun g1 h1 f1 => ?_)
  have h01 := (note_pt 31 s).trans h0
  refine go_aload_n (pc' := 23) dX7_callsIt_22 rfl rfl ?_
  refine go_iload_n (pc' := 24) dX7_callsIt_23 rfl rfl ?_
  refine go_cVi1 (pc' := 27) (M' := mX7_plainCalls) (d' := 7) dX7_callsIt_24 rfl cvRX7_367 rfl rfl (by decide) rfl (Nat.le_of_ble_eq_true rfl) ?_
  refine tX7_plainCalls (by decide) h1 (fun g2 h2 f2 => ?_)
  refine go_istore_n (pc' := 28) dX7_callsIt_27 rfl (by decide) rfl ?_
  refine go_iload_n (pc' := 29) dX7_callsIt_28 rfl rfl ?_
  refine go_aload_n (pc' := 30) dX7_callsIt_29 rfl rfl ?_
  refine go_aload_n (pc' := 31) dX7_callsIt_30 rfl rfl ?_
  refine go_getI (pc' := 34) dX7_callsIt_31 rfl flRX7_337 rfl rfl ?_
  rw [h2.2.2.2.1]
  refine go_cVi1 (pc' := 37) (M' := mX7_partsIt) (d' := 5) dX7_callsIt_34 rfl cvRX7_370 rfl rfl (by decide) rfl (Nat.le_of_ble_eq_true rfl) ?_
  refine tX7_partsIt (by decide) ((pc_pt 2 nu pg x _).trans h01) h2 (fun g3 h3 f3 => ?_)
  refine go_isub (pc' := 38) dX7_callsIt_37 rfl ?_
  refine go_iret dX7_callsIt_38 (pg_narI _) ?_
  exact k _ h3 (FA.tr (FA.tr f1 f2) f3)

set_option maxHeartbeats 4000000 in
set_option maxRecDepth 20000 in
theorem tX7_callsIt_3 {sc : pg_Sc} {g : pg_S} {K : Int32 → pg_S → Prop} {nu pg x : Int32} {s : AS} (h0 : s.2.2 = 0) (h : MA g 3 nu pg s) (k : ∀ g', MA g' 3 nu pg (clF2 3 nu pg x s).2 → FA g g' → K (clF2 3 nu pg x s).1 g') : pg_Cal sc 8 mX7_callsIt [.ref 59, .int x] g (pg_ki K) := by
  refine pg_Cal.of rfl (Nat.le_of_ble_eq_true rfl) rfl ?_
  refine go_aload_n (pc' := 1) dX7_callsIt_0 rfl rfl ?_
  refine go_getI (pc' := 4) dX7_callsIt_1 rfl flRX7_343 rfl rfl ?_
  rw [h.2.2.1]
  refine go_iconst (pc' := 5) 2 dX7_callsIt_4 rfl (by decide) ?_
  refine go_icmp_eq (pc' := 8) (tgt := 16) dX7_callsIt_5 rfl (by decide) (fun h_5 => absurd h_5 (by decide)) (fun h_5 => ?_)
  refine go_aload_n (pc' := 9) dX7_callsIt_8 rfl rfl ?_
  refine go_getI (pc' := 12) dX7_callsIt_9 rfl flRX7_343 rfl rfl ?_
  rw [h.2.2.1]
  refine go_iconst (pc' := 13) 4 dX7_callsIt_12 rfl (by decide) ?_
  refine go_icmp_ne (pc' := 16) (tgt := 39) dX7_callsIt_13 rfl (by decide) (fun h_13 => ?_) (fun h_13 => absurd h_13 (by decide))
  refine go_aload_n (pc' := 40) dX7_callsIt_39 rfl rfl ?_
  refine go_getI (pc' := 43) dX7_callsIt_40 rfl flRX7_343 rfl rfl ?_
  rw [h.2.2.1]
  refine go_iconst (pc' := 44) 5 dX7_callsIt_43 rfl (by decide) ?_
  refine go_icmp_ne (pc' := 47) (tgt := 61) dX7_callsIt_44 rfl (by decide) (fun h_44 => ?_) (fun h_44 => absurd h_44 (by decide))
  refine go_aload_n (pc' := 62) dX7_callsIt_61 rfl rfl ?_
  refine go_iload_n (pc' := 63) dX7_callsIt_62 rfl rfl ?_
  refine go_cVi1 (pc' := 66) (M' := mX7_plainCalls) (d' := 7) dX7_callsIt_63 rfl cvRX7_367 rfl rfl (by decide) rfl (Nat.le_of_ble_eq_true rfl) ?_
  refine tX7_plainCalls (by decide) h (fun g2 h2 f2 => ?_)
  refine go_iret dX7_callsIt_66 (pg_narI _) ?_
  exact k _ h2 f2

set_option maxHeartbeats 4000000 in
set_option maxRecDepth 20000 in
theorem tX7_callsIt_4 {sc : pg_Sc} {g : pg_S} {K : Int32 → pg_S → Prop} {nu pg x : Int32} {s : AS} (h0 : s.2.2 = 0) (h : MA g 4 nu pg s) (k : ∀ g', MA g' 4 nu pg (clF2 4 nu pg x s).2 → FA g g' → K (clF2 4 nu pg x s).1 g') : pg_Cal sc 8 mX7_callsIt [.ref 59, .int x] g (pg_ki K) := by
  refine pg_Cal.of rfl (Nat.le_of_ble_eq_true rfl) rfl ?_
  refine go_aload_n (pc' := 1) dX7_callsIt_0 rfl rfl ?_
  refine go_getI (pc' := 4) dX7_callsIt_1 rfl flRX7_343 rfl rfl ?_
  rw [h.2.2.1]
  refine go_iconst (pc' := 5) 2 dX7_callsIt_4 rfl (by decide) ?_
  refine go_icmp_eq (pc' := 8) (tgt := 16) dX7_callsIt_5 rfl (by decide) (fun h_5 => absurd h_5 (by decide)) (fun h_5 => ?_)
  refine go_aload_n (pc' := 9) dX7_callsIt_8 rfl rfl ?_
  refine go_getI (pc' := 12) dX7_callsIt_9 rfl flRX7_343 rfl rfl ?_
  rw [h.2.2.1]
  refine go_iconst (pc' := 13) 4 dX7_callsIt_12 rfl (by decide) ?_
  refine go_icmp_ne (pc' := 16) (tgt := 39) dX7_callsIt_13 rfl (by decide) (fun h_13 => absurd (by decide) h_13) (fun h_13 => ?_)
  refine go_aload_n (pc' := 17) dX7_callsIt_16 rfl rfl ?_
  refine go_bipush (pc' := 19) 31 dX7_callsIt_17 rfl (by decide) ?_
  refine go_cVv1 (pc' := 22) (M' := mX7_ran) (d' := 1) dX7_callsIt_19 rfl cvRX7_334 rfl rfl (by decide) rfl (Nat.le_of_ble_eq_true rfl) ?_
  refine tX7_ran h (fun g1 h1 f1 => ?_)
  have h01 := (note_pt 31 s).trans h0
  refine go_aload_n (pc' := 23) dX7_callsIt_22 rfl rfl ?_
  refine go_iload_n (pc' := 24) dX7_callsIt_23 rfl rfl ?_
  refine go_cVi1 (pc' := 27) (M' := mX7_plainCalls) (d' := 7) dX7_callsIt_24 rfl cvRX7_367 rfl rfl (by decide) rfl (Nat.le_of_ble_eq_true rfl) ?_
  refine tX7_plainCalls (by decide) h1 (fun g2 h2 f2 => ?_)
  refine go_istore_n (pc' := 28) dX7_callsIt_27 rfl (by decide) rfl ?_
  refine go_iload_n (pc' := 29) dX7_callsIt_28 rfl rfl ?_
  refine go_aload_n (pc' := 30) dX7_callsIt_29 rfl rfl ?_
  refine go_aload_n (pc' := 31) dX7_callsIt_30 rfl rfl ?_
  refine go_getI (pc' := 34) dX7_callsIt_31 rfl flRX7_337 rfl rfl ?_
  rw [h2.2.2.2.1]
  refine go_cVi1 (pc' := 37) (M' := mX7_partsIt) (d' := 5) dX7_callsIt_34 rfl cvRX7_370 rfl rfl (by decide) rfl (Nat.le_of_ble_eq_true rfl) ?_
  refine tX7_partsIt (by decide) ((pc_pt 4 nu pg x _).trans h01) h2 (fun g3 h3 f3 => ?_)
  refine go_isub (pc' := 38) dX7_callsIt_37 rfl ?_
  refine go_iret dX7_callsIt_38 (pg_narI _) ?_
  exact k _ h3 (FA.tr (FA.tr f1 f2) f3)

set_option maxHeartbeats 4000000 in
set_option maxRecDepth 20000 in
theorem tX7_callsIt_5 {sc : pg_Sc} {g : pg_S} {K : Int32 → pg_S → Prop} {nu pg x : Int32} {s : AS} (h0 : s.2.2 = 0) (h : MA g 5 nu pg s) (k : ∀ g', MA g' 5 nu pg (clF2 5 nu pg x s).2 → FA g g' → K (clF2 5 nu pg x s).1 g') : pg_Cal sc 8 mX7_callsIt [.ref 59, .int x] g (pg_ki K) := by
  refine pg_Cal.of rfl (Nat.le_of_ble_eq_true rfl) rfl ?_
  refine go_aload_n (pc' := 1) dX7_callsIt_0 rfl rfl ?_
  refine go_getI (pc' := 4) dX7_callsIt_1 rfl flRX7_343 rfl rfl ?_
  rw [h.2.2.1]
  refine go_iconst (pc' := 5) 2 dX7_callsIt_4 rfl (by decide) ?_
  refine go_icmp_eq (pc' := 8) (tgt := 16) dX7_callsIt_5 rfl (by decide) (fun h_5 => absurd h_5 (by decide)) (fun h_5 => ?_)
  refine go_aload_n (pc' := 9) dX7_callsIt_8 rfl rfl ?_
  refine go_getI (pc' := 12) dX7_callsIt_9 rfl flRX7_343 rfl rfl ?_
  rw [h.2.2.1]
  refine go_iconst (pc' := 13) 4 dX7_callsIt_12 rfl (by decide) ?_
  refine go_icmp_ne (pc' := 16) (tgt := 39) dX7_callsIt_13 rfl (by decide) (fun h_13 => ?_) (fun h_13 => absurd h_13 (by decide))
  refine go_aload_n (pc' := 40) dX7_callsIt_39 rfl rfl ?_
  refine go_getI (pc' := 43) dX7_callsIt_40 rfl flRX7_343 rfl rfl ?_
  rw [h.2.2.1]
  refine go_iconst (pc' := 44) 5 dX7_callsIt_43 rfl (by decide) ?_
  refine go_icmp_ne (pc' := 47) (tgt := 61) dX7_callsIt_44 rfl (by decide) (fun h_44 => absurd (by decide) h_44) (fun h_44 => ?_)
  refine go_aload_n (pc' := 48) dX7_callsIt_47 rfl rfl ?_
  refine go_bipush (pc' := 50) 60 dX7_callsIt_48 rfl (by decide) ?_
  refine go_cVv1 (pc' := 53) (M' := mX7_ran) (d' := 1) dX7_callsIt_50 rfl cvRX7_334 rfl rfl (by decide) rfl (Nat.le_of_ble_eq_true rfl) ?_
  refine tX7_ran h (fun g1 h1 f1 => ?_)
  refine go_aload_n (pc' := 54) dX7_callsIt_53 rfl rfl ?_
  refine go_iload_n (pc' := 55) dX7_callsIt_54 rfl rfl ?_
  refine go_cVi1 (pc' := 58) (M' := mX7_plainCalls) (d' := 7) dX7_callsIt_55 rfl cvRX7_367 rfl rfl (by decide) rfl (Nat.le_of_ble_eq_true rfl) ?_
  refine tX7_plainCalls (by decide) h1 (fun g2 h2 f2 => ?_)
  refine go_iconst (pc' := 59) 2 dX7_callsIt_58 rfl (by decide) ?_
  refine go_imul (pc' := 60) dX7_callsIt_59 rfl ?_
  refine go_iret dX7_callsIt_60 (pg_narI _) ?_
  exact k _ h2 (FA.tr f1 f2)

theorem tX7_callsIt {sc : pg_Sc} {g : pg_S} {K : Int32 → pg_S → Prop} {kd : Nat} {nu pg x : Int32} {s : AS} (hkd : kd < 6) (h0 : s.2.2 = 0) (h : MA g kd nu pg s) (k : ∀ g', MA g' kd nu pg (clF2 kd nu pg x s).2 → FA g g' → K (clF2 kd nu pg x s).1 g') : pg_Cal sc 8 mX7_callsIt [.ref 59, .int x] g (pg_ki K) := by
  rcases (show kd = 0 ∨ kd = 1 ∨ kd = 2 ∨ kd = 3 ∨ kd = 4 ∨ kd = 5 by omega) with rfl | rfl | rfl | rfl | rfl | rfl
  · exact tX7_callsIt_0 h0 h k
  · exact tX7_callsIt_1 h0 h k
  · exact tX7_callsIt_2 h0 h k
  · exact tX7_callsIt_3 h0 h k
  · exact tX7_callsIt_4 h0 h k
  · exact tX7_callsIt_5 h0 h k
theorem ko_iff {T : TW} {n : Nat} {h a : Int32} (wf : WF T n) : (0 ≤ koF T n h a ∧ koF T n h a ≤ 5) ↔ (h = 0 ∧ PP n a) := by
  have hn := wf.1
  unfold koF
  by_cases e : h = 0
  · rw [if_pos e]
    by_cases e2 : PP n a
    · rw [if_pos e2]
      obtain ⟨p, hp, ep⟩ := pp_ex e2
      have epn : pn a = p := by rw [ep]; exact nI_clamp (by omega)
      obtain ⟨kd, hkd, ekd⟩ := wf.kind hp
      rw [epn, ekd]
      exact ⟨fun _ => ⟨e, e2⟩, fun _ => ⟨nI_le0 (by omega), nI_le (b := 5) (by omega) (by decide)⟩⟩
    · rw [if_neg e2]
      exact ⟨fun q => absurd q.1 (by decide), fun q => absurd q.2 e2⟩
  · rw [if_neg e]
    by_cases e1 : h = 1
    · rw [if_pos e1]
      exact ⟨fun q => absurd q.2 (by decide), fun q => absurd q.1 e⟩
    · rw [if_neg e1]
      exact ⟨fun q => absurd q.1 (by decide), fun q => absurd q.1 e⟩
set_option maxHeartbeats 4000000 in
set_option maxRecDepth 20000 in
theorem tX7_act {sc : pg_Sc} {g : pg_S} {K : Int32 → pg_S → Prop} {T : TW} {n : Nat} {x y z : Int32} {H A B : Nat → Int32} (hC : ∀ s, s < 4 → MS g s (H s) (A s) (B s)) (hv : ∀ s, s < 4 → H s = 0 ∨ H s = 1 ∨ H s = 2) (h : MR g 60 T n) (wf : WF T n) (k1 : ¬ (UP x 3 ∧ UP y 3 ∧ H (pn x) = 0 ∧ PP n (A (pn x))) → ∀ g', g'.1 59 27 = 0 → FA g g' → K 0 g') (k2 : UP x 3 ∧ UP y 3 ∧ H (pn x) = 0 ∧ PP n (A (pn x)) → ∀ g', MA g' (pn (T 2 (pn (A (pn x))))) (A (pn x)) (T 3 (pn (A (pn x)))) (acR (pn (T 2 (pn (A (pn x))))) (A (pn x)) (T 3 (pn (A (pn x)))) (pn y) z).2 → FA g g' → K (pfA (acR (pn (T 2 (pn (A (pn x))))) (A (pn x)) (T 3 (pn (A (pn x)))) (pn y) z)) g') : pg_Cal sc 9 mX7_act [.ref 59, .int x, .int y, .int z] g (pg_ki K) := by
  refine pg_Cal.of rfl (Nat.le_of_ble_eq_true rfl) rfl ?_
  have hn := wf.1
  refine go_aload_n (pc' := 1) dX7_act_0 rfl rfl ?_
  refine go_iconst (pc' := 2) 0 dX7_act_1 rfl (by decide) ?_
  refine go_putI (pc' := 5) dX7_act_2 rfl flRX7_331 rfl rfl ft7_27 ?_
  refine go_gen (fun g1 e1 => ?_)
  have f1 : FA g g1 := by rw [e1]; exact FA.ui (by decide)
  have a1 : g1.1 59 27 = 0 := by rw [e1]; simp [pg_ui_at]
  have h1 := h.fa f1
  have hC1 : ∀ s, s < 4 → MS g1 s (H s) (A s) (B s) := fun s hs => (hC s hs).fa f1
  refine go_iload_n (pc' := 6) dX7_act_5 rfl rfl ?_
  refine go_cSi1 (pc' := 9) (M' := mX7_isShelf) (d' := 2) dX7_act_6 rfl csRX7_293 (by decide) rfl (Nat.le_of_ble_eq_true rfl) ?_
  refine tX7_isShelf ?_
  refine go_if_eq (pc' := 12) (tgt := 20) dX7_act_9 rfl (by decide) (fun h_9 => ?_) (fun h_9 => ?_)
  · have h_9 := pg_b0 h_9
    refine go_iconst (pc' := 21) (-1) dX7_act_20 rfl (by decide) ?_
    refine go_istore (pc' := 23) dX7_act_21 rfl (by decide) rfl ?_
    refine go_iload_n (pc' := 24) dX7_act_23 rfl rfl ?_
    refine go_iconst (pc' := 25) 0 dX7_act_24 rfl (by decide) ?_
    refine go_iconst (pc' := 26) 3 dX7_act_25 rfl (by decide) ?_
    refine go_cSi3 (pc' := 29) (M' := mX7_in) (d' := 1) dX7_act_26 rfl csRX7_60 (by decide) rfl (Nat.le_of_ble_eq_true rfl) ?_
    refine tX7_in ?_
    refine go_if_eq (pc' := 32) (tgt := 42) dX7_act_29 rfl (by decide) (fun h_29 => ?_) (fun h_29 => ?_)
    · have h_29 := pg_b0 h_29
      refine go_iconst (pc' := 43) 0 dX7_act_42 rfl (by decide) ?_
      refine go_iret dX7_act_43 (pg_narI _) ?_
      exact k1 (fun q => h_9 q.1) _ a1 f1
    · have h_29 := pg_b1 h_29
      obtain ⟨v, hv3, rfl⟩ := up_ex 3 rfl (by decide) h_29
      have ev : pn (nI v) = v := nI_clamp (by omega)
      refine go_iload (pc' := 34) dX7_act_32 rfl rfl ?_
      refine go_iconst (pc' := 35) 0 dX7_act_34 rfl (by decide) ?_
      refine go_iconst (pc' := 36) 5 dX7_act_35 rfl (by decide) ?_
      refine go_cSi3 (pc' := 39) (M' := mX7_in) (d' := 1) dX7_act_36 rfl csRX7_60 (by decide) rfl (Nat.le_of_ble_eq_true rfl) ?_
      refine tX7_in ?_
      refine go_if_ne (pc' := 42) (tgt := 44) dX7_act_39 rfl (by decide) (fun h_39 => absurd (by decide) h_39) (fun h_39 => ?_)
      have h_39 := pg_b0 h_39
      refine go_iconst (pc' := 43) 0 dX7_act_42 rfl (by decide) ?_
      refine go_iret dX7_act_43 (pg_narI _) ?_
      exact k1 (fun q => h_9 q.1) _ a1 f1
  · have h_9 := pg_b1 h_9
    obtain ⟨s, hs, rfl⟩ := up_ex 3 rfl (by decide) h_9
    have es : pn (nI s) = s := nI_clamp (by omega)
    have hs4 : s < 4 := by omega
    rw [es] at k1 k2
    obtain ⟨c0, c1, c2⟩ := hC1 s hs4
    refine go_aload_n (pc' := 13) dX7_act_12 rfl rfl ?_
    refine go_iload_n (pc' := 14) dX7_act_13 rfl rfl ?_
    refine go_cVi1 (pc' := 17) (M' := mX7_kindOn) (d' := 3) dX7_act_14 rfl cvRX7_325 rfl rfl (by decide) rfl (Nat.le_of_ble_eq_true rfl) ?_
    refine tX7_kindOn h1 wf hs4 (hC1 s hs4) (hv s hs4) ?_
    refine go_goto (pc' := 21) dX7_act_17 (by decide) ?_
    refine go_istore (pc' := 23) dX7_act_21 rfl (by decide) rfl ?_
    refine go_iload_n (pc' := 24) dX7_act_23 rfl rfl ?_
    refine go_iconst (pc' := 25) 0 dX7_act_24 rfl (by decide) ?_
    refine go_iconst (pc' := 26) 3 dX7_act_25 rfl (by decide) ?_
    refine go_cSi3 (pc' := 29) (M' := mX7_in) (d' := 1) dX7_act_26 rfl csRX7_60 (by decide) rfl (Nat.le_of_ble_eq_true rfl) ?_
    refine tX7_in ?_
    refine go_if_eq (pc' := 32) (tgt := 42) dX7_act_29 rfl (by decide) (fun h_29 => ?_) (fun h_29 => ?_)
    · have h_29 := pg_b0 h_29
      refine go_iconst (pc' := 43) 0 dX7_act_42 rfl (by decide) ?_
      refine go_iret dX7_act_43 (pg_narI _) ?_
      exact k1 (fun q => h_29 q.2.1) _ a1 f1
    · have h_29 := pg_b1 h_29
      obtain ⟨v, hv3, rfl⟩ := up_ex 3 rfl (by decide) h_29
      have ev : pn (nI v) = v := nI_clamp (by omega)
      refine go_iload (pc' := 34) dX7_act_32 rfl rfl ?_
      refine go_iconst (pc' := 35) 0 dX7_act_34 rfl (by decide) ?_
      refine go_iconst (pc' := 36) 5 dX7_act_35 rfl (by decide) ?_
      refine go_cSi3 (pc' := 39) (M' := mX7_in) (d' := 1) dX7_act_36 rfl csRX7_60 (by decide) rfl (Nat.le_of_ble_eq_true rfl) ?_
      refine tX7_in ?_
      refine go_if_ne (pc' := 42) (tgt := 44) dX7_act_39 rfl (by decide) (fun h_39 => ?_) (fun h_39 => ?_)
      · have h_39 := pg_b1 h_39
        have e0 := (ko_iff wf).mp h_39
        obtain ⟨p, hp, ep⟩ := pp_ex e0.2
        have epn : pn (A s) = p := by rw [ep]; exact nI_clamp (by omega)
        obtain ⟨kd, hkd, ekd⟩ := wf.kind hp
        have ekn : pn (T 2 p) = kd := by rw [ekd]; exact nI_clamp (by omega)
        have ek : koF T n (H s) (A s) = nI kd := by unfold koF; rw [if_pos e0.1, if_pos e0.2, epn, ekd]
        refine go_aload_n (pc' := 45) dX7_act_44 rfl rfl ?_
        refine go_iload (pc' := 47) dX7_act_45 rfl rfl ?_
        rw [ek]
        refine go_putI (pc' := 50) dX7_act_47 rfl flRX7_343 rfl rfl ft7_23 ?_
        refine go_gen (fun g2 e2 => ?_)
        have f2 : FA g1 g2 := by rw [e2]; exact FA.ui (by decide)
        refine go_aload_n (pc' := 51) dX7_act_50 rfl rfl ?_
        refine go_aload_n (pc' := 52) dX7_act_51 rfl rfl ?_
        refine go_getR (pc' := 55) dX7_act_52 rfl flRX7_47 rfl rfl ?_
        refine go_iload_n (pc' := 56) dX7_act_55 rfl rfl ?_
        refine go_iald (pc' := 57) s dX7_act_56 rfl rfl rfl hs4 (by decide) ?_
        rw [f2.1 72 (by decide) (by decide), c1 e0.1]
        refine go_putI (pc' := 60) dX7_act_57 rfl flRX7_337 rfl rfl ft7_24 ?_
        refine go_gen (fun g3 e3 => ?_)
        have f3 : FA g2 g3 := by rw [e3]; exact FA.ui (by decide)
        refine go_aload_n (pc' := 61) dX7_act_60 rfl rfl ?_
        refine go_aload_n (pc' := 62) dX7_act_61 rfl rfl ?_
        refine go_aload_n (pc' := 63) dX7_act_62 rfl rfl ?_
        refine go_getI (pc' := 66) dX7_act_63 rfl flRX7_337 rfl rfl ?_
        rw [show g3.1 59 24 = nI p by rw [e3, ← ep]; simp [pg_ui_at]]
        refine go_iconst (pc' := 67) 1 dX7_act_66 rfl (by decide) ?_
        refine go_cVi2 (pc' := 70) (M' := mX7_its) (d' := 1) dX7_act_67 rfl cvRX7_217 rfl rfl (by decide) rfl (Nat.le_of_ble_eq_true rfl) ?_
        refine tX7_its1 ((h1.fa f2).fa f3) wf hp ?_
        refine go_putI (pc' := 73) dX7_act_70 rfl flRX7_352 rfl rfl ft7_25 ?_
        refine go_gen (fun g4 e4 => ?_)
        have f4 : FA g3 g4 := by rw [e4]; exact FA.ui (by decide)
        refine go_aload_n (pc' := 74) dX7_act_73 rfl rfl ?_
        refine go_iconst (pc' := 75) 0 dX7_act_74 rfl (by decide) ?_
        refine go_putZ (pc' := 78) (by decide) dX7_act_75 rfl flRX7_358 rfl rfl ft7_28 ?_
        refine go_gen (fun g5 e5 => ?_)
        have f5 : FA g4 g5 := by rw [e5]; exact FA.ui (by decide)
        have h5 : MA g5 kd (A s) (T 3 p) as0 := by
          rw [e5, e4, e3, e2]
          refine ⟨by decide, ?_, ?_, ?_, ?_, ?_, fun j hj => absurd hj (by show ¬ j < 0; omega)⟩
          · simp [pg_ui_at]; exact a1
          · simp [pg_ui_at]
          · simp [pg_ui_at]
          · simp [pg_ui_at]
          · simp [pg_ui_at]; rfl
        have fa : FA g g5 := FA.tr (FA.tr (FA.tr (FA.tr f1 f2) f3) f4) f5
        refine go_iload_n (pc' := 79) dX7_act_78 rfl rfl ?_
        refine go_if_ne (pc' := 82) (tgt := 90) dX7_act_79 rfl (by decide) (fun h_79 => ?_) (fun h_79 => ?_)
        · refine go_iload_n (pc' := 91) dX7_act_90 rfl rfl ?_
          refine go_iconst (pc' := 92) 1 dX7_act_91 rfl (by decide) ?_
          refine go_icmp_ne (pc' := 95) (tgt := 103) dX7_act_92 rfl (by decide) (fun h_92 => ?_) (fun h_92 => ?_)
          · refine go_iload_n (pc' := 104) dX7_act_103 rfl rfl ?_
            refine go_iconst (pc' := 105) 2 dX7_act_104 rfl (by decide) ?_
            refine go_icmp_ne (pc' := 108) (tgt := 116) dX7_act_105 rfl (by decide) (fun h_105 => ?_) (fun h_105 => ?_)
            · refine go_aload_n (pc' := 117) dX7_act_116 rfl rfl ?_
              refine go_iload_n (pc' := 118) dX7_act_117 rfl rfl ?_
              refine go_cVi1 (pc' := 121) (M' := mX7_callsIt) (d' := 8) dX7_act_118 rfl cvRX7_373 rfl rfl (by decide) rfl (Nat.le_of_ble_eq_true rfl) ?_
              refine tX7_callsIt hkd rfl h5 (fun g6 h6 f6 => ?_)
              refine go_istore (pc' := 123) dX7_act_121 rfl (by decide) rfl ?_
              refine go_aload_n (pc' := 124) dX7_act_123 rfl rfl ?_
              refine go_getI (pc' := 127) dX7_act_124 rfl flRX7_358 rfl rfl ?_
              rw [h6.2.2.2.2.2.1]
              refine go_if_eq (pc' := 130) (tgt := 135) dX7_act_127 rfl (by decide) (fun h_127 => ?_) (fun h_127 => ?_)
              · refine go_iload (pc' := 137) dX7_act_135 rfl rfl ?_
                refine go_iret dX7_act_137 (pg_narI _) ?_
                have ev0 : v = 3 := by
                  rcases (show v = 0 ∨ v = 1 ∨ v = 2 ∨ v = 3 by omega) with e | e | e | e
                  · exact absurd (by rw [e]; rfl) h_79
                  · exact absurd (by rw [e]; rfl) h_92
                  · exact absurd (by rw [e]; rfl) h_105
                  · exact e
                subst ev0
                have kk := k2 ⟨h_9, h_29, e0⟩ g6
                rw [epn, ekn, ev] at kk
                unfold pfA at kk
                have kk := kk h6 (FA.tr fa f6)
                rw [show acR kd (A s) (T 3 p) 3 z = clF2 kd (A s) (T 3 p) z as0 from rfl] at kk
                rw [if_pos h_127] at kk
                exact kk
              · refine go_bipush (pc' := 132) (-15) dX7_act_130 rfl (by decide) ?_
                refine go_goto (pc' := 137) dX7_act_132 (by decide) ?_
                refine go_iret dX7_act_137 (pg_narI _) ?_
                have ev0 : v = 3 := by
                  rcases (show v = 0 ∨ v = 1 ∨ v = 2 ∨ v = 3 by omega) with e | e | e | e
                  · exact absurd (by rw [e]; rfl) h_79
                  · exact absurd (by rw [e]; rfl) h_92
                  · exact absurd (by rw [e]; rfl) h_105
                  · exact e
                subst ev0
                have kk := k2 ⟨h_9, h_29, e0⟩ g6
                rw [epn, ekn, ev] at kk
                unfold pfA at kk
                have kk := kk h6 (FA.tr fa f6)
                rw [show acR kd (A s) (T 3 p) 3 z = clF2 kd (A s) (T 3 p) z as0 from rfl] at kk
                rw [if_neg h_127] at kk
                exact kk
            · refine go_aload_n (pc' := 109) dX7_act_108 rfl rfl ?_
              refine go_iload_n (pc' := 110) dX7_act_109 rfl rfl ?_
              refine go_cVi1 (pc' := 113) (M' := mX7_partsIt) (d' := 5) dX7_act_110 rfl cvRX7_370 rfl rfl (by decide) rfl (Nat.le_of_ble_eq_true rfl) ?_
              refine tX7_partsIt hkd rfl h5 (fun g6 h6 f6 => ?_)
              refine go_goto (pc' := 121) dX7_act_113 (by decide) ?_
              refine go_istore (pc' := 123) dX7_act_121 rfl (by decide) rfl ?_
              refine go_aload_n (pc' := 124) dX7_act_123 rfl rfl ?_
              refine go_getI (pc' := 127) dX7_act_124 rfl flRX7_358 rfl rfl ?_
              rw [h6.2.2.2.2.2.1]
              refine go_if_eq (pc' := 130) (tgt := 135) dX7_act_127 rfl (by decide) (fun h_127 => ?_) (fun h_127 => ?_)
              · refine go_iload (pc' := 137) dX7_act_135 rfl rfl ?_
                refine go_iret dX7_act_137 (pg_narI _) ?_
                have ev0 : v = 2 := (nI_eq (b := 2) (by omega) (by decide)).mp h_105
                subst ev0
                have kk := k2 ⟨h_9, h_29, e0⟩ g6
                rw [epn, ekn, ev] at kk
                unfold pfA at kk
                have kk := kk h6 (FA.tr fa f6)
                rw [show acR kd (A s) (T 3 p) 2 z = ptF kd (A s) (T 3 p) z as0 from rfl] at kk
                rw [if_pos h_127] at kk
                exact kk
              · refine go_bipush (pc' := 132) (-15) dX7_act_130 rfl (by decide) ?_
                refine go_goto (pc' := 137) dX7_act_132 (by decide) ?_
                refine go_iret dX7_act_137 (pg_narI _) ?_
                have ev0 : v = 2 := (nI_eq (b := 2) (by omega) (by decide)).mp h_105
                subst ev0
                have kk := k2 ⟨h_9, h_29, e0⟩ g6
                rw [epn, ekn, ev] at kk
                unfold pfA at kk
                have kk := kk h6 (FA.tr fa f6)
                rw [show acR kd (A s) (T 3 p) 2 z = ptF kd (A s) (T 3 p) z as0 from rfl] at kk
                rw [if_neg h_127] at kk
                exact kk
          · refine go_aload_n (pc' := 96) dX7_act_95 rfl rfl ?_
            refine go_iload_n (pc' := 97) dX7_act_96 rfl rfl ?_
            refine go_cVi1 (pc' := 100) (M' := mX7_leansIt) (d' := 6) dX7_act_97 rfl cvRX7_364 rfl rfl (by decide) rfl (Nat.le_of_ble_eq_true rfl) ?_
            refine tX7_leansIt hkd h5 (fun g6 h6 f6 => ?_)
            refine go_goto (pc' := 121) dX7_act_100 (by decide) ?_
            refine go_istore (pc' := 123) dX7_act_121 rfl (by decide) rfl ?_
            refine go_aload_n (pc' := 124) dX7_act_123 rfl rfl ?_
            refine go_getI (pc' := 127) dX7_act_124 rfl flRX7_358 rfl rfl ?_
            rw [h6.2.2.2.2.2.1]
            refine go_if_eq (pc' := 130) (tgt := 135) dX7_act_127 rfl (by decide) (fun h_127 => ?_) (fun h_127 => ?_)
            · refine go_iload (pc' := 137) dX7_act_135 rfl rfl ?_
              refine go_iret dX7_act_137 (pg_narI _) ?_
              have ev0 : v = 1 := (nI_eq (b := 1) (by omega) (by decide)).mp h_92
              subst ev0
              have kk := k2 ⟨h_9, h_29, e0⟩ g6
              rw [epn, ekn, ev] at kk
              unfold pfA at kk
              have kk := kk h6 (FA.tr fa f6)
              rw [show acR kd (A s) (T 3 p) 1 z = lnF kd (A s) (T 3 p) z as0 from rfl] at kk
              rw [if_pos h_127] at kk
              exact kk
            · refine go_bipush (pc' := 132) (-15) dX7_act_130 rfl (by decide) ?_
              refine go_goto (pc' := 137) dX7_act_132 (by decide) ?_
              refine go_iret dX7_act_137 (pg_narI _) ?_
              have ev0 : v = 1 := (nI_eq (b := 1) (by omega) (by decide)).mp h_92
              subst ev0
              have kk := k2 ⟨h_9, h_29, e0⟩ g6
              rw [epn, ekn, ev] at kk
              unfold pfA at kk
              have kk := kk h6 (FA.tr fa f6)
              rw [show acR kd (A s) (T 3 p) 1 z = lnF kd (A s) (T 3 p) z as0 from rfl] at kk
              rw [if_neg h_127] at kk
              exact kk
        · refine go_aload_n (pc' := 83) dX7_act_82 rfl rfl ?_
          refine go_iload_n (pc' := 84) dX7_act_83 rfl rfl ?_
          refine go_cVi1 (pc' := 87) (M' := mX7_hooksIt) (d' := 4) dX7_act_84 rfl cvRX7_349 rfl rfl (by decide) rfl (Nat.le_of_ble_eq_true rfl) ?_
          refine tX7_hooksIt (pg := T 3 p) hkd h5 (fun g6 h6 f6 => ?_)
          refine go_goto (pc' := 121) dX7_act_87 (by decide) ?_
          refine go_istore (pc' := 123) dX7_act_121 rfl (by decide) rfl ?_
          refine go_aload_n (pc' := 124) dX7_act_123 rfl rfl ?_
          refine go_getI (pc' := 127) dX7_act_124 rfl flRX7_358 rfl rfl ?_
          rw [h6.2.2.2.2.2.1]
          refine go_if_eq (pc' := 130) (tgt := 135) dX7_act_127 rfl (by decide) (fun h_127 => ?_) (fun h_127 => ?_)
          · refine go_iload (pc' := 137) dX7_act_135 rfl rfl ?_
            refine go_iret dX7_act_137 (pg_narI _) ?_
            have ev0 : v = 0 := (nI_eq (b := 0) (by omega) (by decide)).mp h_79
            subst ev0
            have kk := k2 ⟨h_9, h_29, e0⟩ g6
            rw [epn, ekn, ev] at kk
            unfold pfA at kk
            have kk := kk h6 (FA.tr fa f6)
            rw [show acR kd (A s) (T 3 p) 0 z = hkF kd (A s) z as0 from rfl] at kk
            rw [if_pos h_127] at kk
            exact kk
          · refine go_bipush (pc' := 132) (-15) dX7_act_130 rfl (by decide) ?_
            refine go_goto (pc' := 137) dX7_act_132 (by decide) ?_
            refine go_iret dX7_act_137 (pg_narI _) ?_
            have ev0 : v = 0 := (nI_eq (b := 0) (by omega) (by decide)).mp h_79
            subst ev0
            have kk := k2 ⟨h_9, h_29, e0⟩ g6
            rw [epn, ekn, ev] at kk
            unfold pfA at kk
            have kk := kk h6 (FA.tr fa f6)
            rw [show acR kd (A s) (T 3 p) 0 z = hkF kd (A s) z as0 from rfl] at kk
            rw [if_neg h_127] at kk
            exact kk
      · have h_39 := pg_b0 h_39
        refine go_iconst (pc' := 43) 0 dX7_act_42 rfl (by decide) ?_
        refine go_iret dX7_act_43 (pg_narI _) ?_
        exact k1 (fun q => h_39 ((ko_iff wf).mpr q.2.2)) _ a1 f1

