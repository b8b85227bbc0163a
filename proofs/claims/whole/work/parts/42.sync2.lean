theorem up_lt {x : Int32} (h : UP x 3) : pn x < 4 := by
  obtain ⟨p, hp, rfl⟩ := up_ex (x := x) 3 rfl (by decide) h
  rw [show pn (nI p) = p from nI_clamp (by omega)]; omega
theorem ISheet.h6 {g : pg_S} (h : ISheet g) : ∀ s, s < 4 → ∃ c, c ≤ 40 ∧ g.1 (45 + 2 * s) 2 = nI c := fun s hs => by
  obtain ⟨c, k, a1, a2, a3, a4, a5, a6, a7⟩ := h s hs
  exact ⟨c, a1, a3⟩
theorem ISheet.h7 {g : pg_S} (h : ISheet g) : ∀ s, s < 4 → (∃ c, c ≤ 40 ∧ g.1 69 s = nI c) ∧ ∃ k, k ≤ 4 ∧ g.1 68 s = nI k - 1 := fun s hs => by
  obtain ⟨c, k, a1, a2, a3, a4, a5, a6, a7⟩ := h s hs
  exact ⟨⟨c, a1, a4⟩, k, a2, a6⟩
theorem ISheet.hI {g : pg_S} (h : ISheet g) : ∀ s, s < 4 → ∀ c, c ≤ 40 → g.1 69 s = nI c → ∀ j, j < c → g.2 70 (40 * s + j) = (g.1 (46 + 2 * s) j).toInt64 := fun s hs d hd ed j hj => by
  obtain ⟨c, k, a1, a2, a3, a4, a5, a6, a7⟩ := h s hs
  have : c = d := (nI_eq (by omega) (by omega)).mp (a4.symm.trans ed)
  subst this
  exact a7 j hj
theorem ISheet.so {g : pg_S} (h : ISheet g) {s : Nat} (hs : s < 4) : g.1 (45 + 2 * s) 1 = g.1 68 s := by
  obtain ⟨c, k, a1, a2, a3, a4, a5, a6, a7⟩ := h s hs
  exact a5.trans a6.symm
theorem ISheet.ct {g : pg_S} (h : ISheet g) {s : Nat} (hs : s < 4) : g.1 (45 + 2 * s) 2 = g.1 69 s := by
  obtain ⟨c, k, a1, a2, a3, a4, a5, a6, a7⟩ := h s hs
  exact a3.trans a4.symm
theorem Ch.pr {g g' : pg_S} {x : Int32} (h : g'.1 59 = upd (g.1 59) 16 x) (f : FL [59, 60, 63, 66, 67] g g') : Ch [60, 63, 66, 67] [16] false g g' :=
  ⟨fun a q r => f.1 a (fun z => by
    rcases List.mem_cons.mp z with z | z
    · exact q z
    · exact r z), fun j q r => by
    rw [h]
    exact if_neg (fun z => r (by rw [z]; decide)), fun _ => by rw [f.2]⟩
theorem CR.ch {P F : List Nat} {J : Bool} {g g' : pg_S} {n : Nat} {T : TW} (h : CR g 1 T n) (c : Ch P F J g g') (hP : ∀ a ∈ ([1, 2, 3, 4, 5, 6, 7, 8, 9] : List Nat), a ≠ 59 ∧ a ∉ P) : CR g' 1 T n := by
  obtain ⟨q1, q2, q3, q4, q5⟩ := h
  refine ⟨q1, fun j hj => ?_, fun j hj => ?_, fun j hj => ?_, fun k hk1 hk2 j hj => ?_⟩
  · rw [c.at hP (a := 1) (by decide)]; exact q2 j hj
  · rw [c.at hP (a := 1 + 1) (by decide)]; exact q3 j hj
  · rw [c.at hP (a := 1 + 2) (by decide)]; exact q4 j hj
  · rw [c.at hP (a := 1 + 1 + k) ((by decide : ∀ k, k < 7 → 1 + 1 + k ∈ ([1, 2, 3, 4, 5, 6, 7, 8, 9] : List Nat)) k hk2)]; exact q5 k hk1 hk2 j hj
theorem MR.ch {P F : List Nat} {J : Bool} {g g' : pg_S} {n : Nat} {T : TW} (h : MR g 60 T n) (c : Ch P F J g g') (hP : 60 ∉ P) : MR g' 60 T n := by
  unfold MR at h ⊢
  rw [c.1 60 (by decide) hP]; exact h
theorem jdg_cong {r r' : Nat → Nat → Int32} {n p : Nat} {T : TW} : ∀ (m i : Nat), (∀ j, i ≤ j → j < i + m → ∀ v, v < 3 → r j v = r' j v) → jdgF r n p T m i = jdgF r' n p T m i
  | 0, _, _ => rfl
  | m + 1, i, h => by
    unfold jdgF
    rw [h i (by omega) (by omega) 0 (by omega), h i (by omega) (by omega) 1 (by omega), h i (by omega) (by omega) 2 (by omega), jdg_cong m (i + 1) (fun j h1 h2 => h j (by omega) (by omega))]
theorem item_v {so ct v v' x y z : Int32} (h : UP x 3 → (0 ≤ z ∧ z < ct) → v = v') : itemA so ct v x y z = itemA so ct v' x y z := by
  unfold itemA
  split
  · rfl
  · rename_i q1
    split
    · rfl
    · split
      · rfl
      · split
        · rfl
        · rename_i q2
          exact h (Classical.not_not.mp q1).1 (Classical.not_not.mp q2)
theorem sy_fits {sc : pg_Sc} {g : pg_S} {K : Int32 → pg_S → Prop} {x1 x2 x3 : Int32} (I : INV g) (k : ∀ r g1, (∀ K7 : Int32 → pg_S → Prop, (∀ g2, INV g2 → K7 r g2) → pg_Cal sc 6 mX7_fits [.ref 59, .int x1, .int x2, .int x3] g1 (pg_ki K7)) → K r g1) : pg_Cal sc 5 mX6_fits [.ref 0, .int x1, .int x2, .int x3] g (pg_ki K) := by
  obtain ⟨T, n, c, m, wf⟩ := I.1
  have iS := I.2.2.2.1
  by_cases hc : (UP x1 3 ∧ PP n x2 ∧ UP x3 1) ∧ ¬ g.1 (45 + 2 * pn x1) 1 = -1
  · have hs := up_lt hc.1.1
    have es := iS.so hs
    have ec := iS.ct hs
    refine tX6_fits iS.h6 c wf (fun q => absurd hc q) (fun _ g1 f1 => ?_)
    refine k _ g1 (fun K7 k7 => ?_)
    have iS1 : ISheet g1 := iS.keep (Ch.fr f1 (by decide)) (by decide) rfl
    have e46 : g1.1 (46 + 2 * pn x1) = g.1 (46 + 2 * pn x1) := f1.1 _ (by omega)
    have e69 : g1.1 69 = g.1 69 := f1.1 69 (by decide)
    have e68 : g1.1 68 = g.1 68 := f1.1 68 (by decide)
    refine tX7_fits (it := fun s j => g1.1 (46 + 2 * s) j) iS1.h7 iS1.hI (m.fr f1 (by decide)) wf (fun q => absurd ⟨hc.1, by rw [e68, ← es]; exact hc.2⟩ q) (fun _ g2 m2 f2 => ?_)
    show K7 (fiA n (pn (g1.1 69 (pn x1))) (g1.1 (46 + 2 * pn x1)) T x2 x3) g2
    rw [e69, ← ec, e46]
    exact k7 g2 (I.now ((c.fr f1 (by decide)).fm f2) m2 wf (Ch.tr (Ch.fr f1 (by decide)) (Ch.fm f2)) (by decide) (by decide) rfl)
  · refine tX6_fits iS.h6 c wf (fun _ => ?_) (fun q => absurd q hc)
    refine k _ g (fun K7 k7 => ?_)
    exact tX7_fits (it := fun s j => g.1 (46 + 2 * s) j) iS.h7 iS.hI m wf (fun _ => k7 g I) (fun q => absurd ⟨q.1, by rw [iS.so (up_lt q.1.1)]; exact q.2⟩ hc)
theorem sy_judge {sc : pg_Sc} {g : pg_S} {K : Int32 → pg_S → Prop} {x1 : Int32} (I : INV g) (k : ∀ r g1, (∀ K7 : Int32 → pg_S → Prop, (∀ g2, INV g2 → K7 r g2) → pg_Cal sc 6 mX7_judge [.ref 59, .int x1] g1 (pg_ki K7)) → K r g1) : pg_Cal sc 4 mX6_judge [.ref 0, .int x1] g (pg_ki K) := by
  obtain ⟨T, n, c, m, wf⟩ := I.1
  obtain ⟨R, h10, r1, r2, r3⟩ := I.2.2.1
  by_cases hc : PP n x1
  · refine tX6_judge c wf r1 h10 (fun q => absurd hc q) (fun _ g1 f1 => ?_)
    refine k _ g1 (fun K7 k7 => ?_)
    have e59 : g1.1 59 = g.1 59 := f1.1 59 (by decide)
    have e66 : g1.1 66 = g.1 66 := f1.1 66 (by decide)
    refine tX7_judge (m.fr f1 (by decide)) wf (by rw [e59]; exact r2) h10 (fun q => absurd hc q) (fun _ g2 m2 f2 => ?_)
    have cc := Ch.tr (Ch.fr f1 (by decide)) (Ch.fl f2 (by decide))
    rw [← jdg_cong (r := fun j => g.1 (32 + j)) (r' := fun j v => g1.1 66 (3 * j + v)) R 0 (fun j _ hj v hv => by rw [e66]; exact r3 j (by omega) v hv)]
    exact k7 g2 (I.now (c.ch cc (by decide)) m2 wf cc (by decide) (by decide) rfl)
  · refine tX6_judge c wf r1 h10 (fun _ => ?_) (fun q => absurd q hc)
    refine k _ g (fun K7 k7 => ?_)
    exact tX7_judge m wf r2 h10 (fun _ => k7 g I) (fun q => absurd q hc)
theorem sy_prove {sc : pg_Sc} {g : pg_S} {K : Int32 → pg_S → Prop} {x1 x2 : Int32} (I : INV g) (k : ∀ r g1, (∀ K7 : Int32 → pg_S → Prop, (∀ g2, INV g2 → K7 r g2) → pg_Cal sc 6 mX7_prove [.ref 59, .int x1, .int x2] g1 (pg_ki K7)) → K r g1) : pg_Cal sc 4 mX6_prove [.ref 0, .int x1, .int x2] g (pg_ki K) := by
  obtain ⟨T, n, c, m, wf⟩ := I.1
  by_cases hc : PP n x1 ∧ IN x2 1 10
  · refine tX6_prove c wf (fun q => absurd hc q) (fun _ _ g1 v1 w1 f1 => ?_)
    refine k _ g1 (fun K7 k7 => ?_)
    have c1 := Ch.fs f1 (by decide) (by decide)
    refine tX7_prove (m.ch c1 (by decide)) wf (fun q => absurd hc q) (fun _ _ g2 m2 v2 w2 f2 => k7 g2 ?_)
    have cc := Ch.tr c1 (Ch.pr w2 f2)
    obtain ⟨i1, i2, i3, i4, i5, i6, i7⟩ := I
    refine ⟨⟨T, n, c.ch cc (by decide), m2, wf⟩, i2.keep cc (by decide) (by decide), ?_, i4.keep cc (by decide) rfl, i5.keep cc (by decide), i6.keep cc (by decide) (by decide), i7.keep cc (by decide) (by decide)⟩
    obtain ⟨p, hp1, hp2, rfl⟩ := in_ex (x := x2) 1 10 rfl rfl (by decide) (by decide) hc.2
    have hp : pn (nI p) = p := nI_clamp (by omega)
    rw [hp] at v1 v2
    refine ⟨p, hp2, ?_, ?_, fun j hj v hv => ?_⟩
    · rw [f2.1 30 (by decide)]; exact w1
    · rw [w2]; exact if_pos rfl
    · rw [f2.1 (32 + j) (by intro z; simp only [List.mem_cons, List.not_mem_nil, or_false] at z; omega), v1 j hj v hv, v2 j hj v hv]
  · refine tX6_prove c wf (fun _ => ?_) (by intros; exact absurd (by first | assumption | exact ⟨by assumption, by assumption⟩ | exact ⟨by assumption, by assumption, by assumption⟩ | exact ⟨⟨by assumption, by assumption, by assumption⟩, by assumption⟩) hc)
    refine k _ g (fun K7 k7 => ?_)
    exact tX7_prove m wf (fun _ => k7 g I) (by intros; exact absurd (by first | assumption | exact ⟨by assumption, by assumption⟩ | exact ⟨by assumption, by assumption, by assumption⟩ | exact ⟨⟨by assumption, by assumption, by assumption⟩, by assumption⟩) hc)
theorem sy_row {sc : pg_Sc} {g : pg_S} {K : Int32 → pg_S → Prop} {x1 x2 : Int32} (I : INV g) (k : ∀ r g1, (∀ K7 : Int32 → pg_S → Prop, (∀ g2, INV g2 → K7 r g2) → pg_Cal sc 3 mX7_row [.ref 59, .int x1, .int x2] g1 (pg_ki K7)) → K r g1) : pg_Cal sc 3 mX6_row [.ref 0, .int x1, .int x2] g (pg_ki K) := by
  obtain ⟨R, h10, r1, r2, r3⟩ := I.2.2.1
  have r12 : g.1 59 16 = g.1 30 1 := r2.trans r1.symm
  by_cases hc : (0 ≤ x1 ∧ x1 < g.1 30 1) ∧ UP x2 2
  · have hx : pn x1 < R := by
      have h1 := hc.1
      rw [r1] at h1
      obtain ⟨p, hp, rfl⟩ := pp_ex (n := R) (x := x1) h1
      rw [show pn (nI p) = p from nI_clamp (by omega)]; exact hp
    have hy : pn x2 < 3 := by
      obtain ⟨p, hp, rfl⟩ := up_ex (x := x2) 2 rfl (by decide) hc.2
      rw [show pn (nI p) = p from nI_clamp (by omega)]; omega
    refine tX6_row ⟨R, h10, r1⟩ (fun q => absurd hc q) (fun _ => ?_)
    refine k _ g (fun K7 k7 => ?_)
    refine tX7_row ⟨R, h10, r2⟩ (fun q => absurd (by rw [r12]; exact hc) q) (fun _ => ?_)
    rw [← r3 _ hx _ hy]
    exact k7 g I
  · refine tX6_row ⟨R, h10, r1⟩ (fun _ => ?_) (fun q => absurd q hc)
    refine k _ g (fun K7 k7 => ?_)
    exact tX7_row ⟨R, h10, r2⟩ (fun _ => k7 g I) (fun q => absurd (by rw [← r12]; exact q) hc)
theorem sy_alterRow {sc : pg_Sc} {g : pg_S} {K : Int32 → pg_S → Prop} {x1 x2 x3 : Int32} (I : INV g) (k : ∀ r g1, (∀ K7 : Int32 → pg_S → Prop, (∀ g2, INV g2 → K7 r g2) → pg_Cal sc 3 mX7_alterRow [.ref 59, .int x1, .int x2, .int x3] g1 (pg_ki K7)) → K r g1) : pg_Cal sc 3 mX6_alterRow [.ref 0, .int x1, .int x2, .int x3] g (pg_ki K) := by
  obtain ⟨R, h10, r1, r2, r3⟩ := I.2.2.1
  have r12 : g.1 59 16 = g.1 30 1 := r2.trans r1.symm
  by_cases hc : (0 ≤ x1 ∧ x1 < g.1 30 1) ∧ UP x2 2
  · have hx : pn x1 < R := by
      have h1 := hc.1
      rw [r1] at h1
      obtain ⟨p, hp, rfl⟩ := pp_ex (n := R) (x := x1) h1
      rw [show pn (nI p) = p from nI_clamp (by omega)]; exact hp
    have hy : pn x2 < 3 := by
      obtain ⟨p, hp, rfl⟩ := up_ex (x := x2) 2 rfl (by decide) hc.2
      rw [show pn (nI p) = p from nI_clamp (by omega)]; omega
    refine tX6_alterRow ⟨R, h10, r1⟩ (fun q => absurd hc q) (fun _ => ?_)
    refine k _ _ (fun K7 k7 => ?_)
    have hne : 32 + pn x1 ≠ 59 := by omega
    have c1 : Ch (List.range' 32 10) [] false g (pg_ui g.1 (32 + pn x1) (pn x2) x3, g.2) := Ch.fr (lo := 32) (hi := 42) (FR.ui (by omega)) (by decide)
    generalize hg1 : (pg_ui g.1 (32 + pn x1) (pn x2) x3, g.2) = g1 at c1 ⊢
    have e30 : g1.1 30 = g.1 30 := c1.1 30 (by decide) (by decide)
    have e16 : g1.1 59 16 = g.1 59 16 := c1.2.1 16 (by decide) (by decide)
    have e66 : g1.1 66 = g.1 66 := c1.1 66 (by decide) (by decide)
    refine tX7_alterRow ⟨R, h10, e16.trans r2⟩ (fun q => absurd (by rw [e16, r12]; exact hc) q) (fun _ => ?_)
    rw [e66, ← r3 _ hx _ hy]
    have c2 : Ch [66] [] false g1 (pg_ui g1.1 66 (3 * pn x1 + pn x2) x3, g1.2) := Ch.ui (by decide)
    have cc := Ch.tr c1 c2
    obtain ⟨i1, i2, i3, i4, i5, i6, i7⟩ := I
    refine k7 _ ⟨i1.keep cc (by decide), i2.keep cc (by decide) (by decide), ?_, i4.keep cc (by decide) rfl, i5.keep cc (by decide), i6.keep cc (by decide) (by decide), i7.keep cc (by decide) (by decide)⟩
    refine ⟨R, h10, ?_, ?_, fun j hj v hv => ?_⟩
    · rw [cc.1 30 (by decide) (by decide)]; exact r1
    · rw [cc.2.1 16 (by decide) (by decide)]; exact r2
    · refine (rd_ui (by omega)).trans ?_
      rw [← hg1]
      refine (pg_ui_at g.1 _ _ _ _ _).trans ?_
      refine Eq.trans ?_ (pg_ui_at _ 66 _ _ 66 _).symm
      by_cases e : j = pn x1 ∧ v = pn x2
      · rw [if_pos ⟨by omega, e.2⟩, if_pos ⟨rfl, by omega⟩]
      · rw [if_neg (fun z => e ⟨by omega, z.2⟩), if_neg (fun z => e (by omega))]
        refine Eq.trans ?_ (pg_ui_at g.1 (32 + pn x1) (pn x2) x3 66 (3 * j + v)).symm
        rw [if_neg (by omega)]
        exact r3 j hj v hv
  · refine tX6_alterRow ⟨R, h10, r1⟩ (fun _ => ?_) (fun q => absurd q hc)
    refine k _ g (fun K7 k7 => ?_)
    exact tX7_alterRow ⟨R, h10, r2⟩ (fun _ => k7 g I) (fun q => absurd (by rw [← r12]; exact q) hc)
