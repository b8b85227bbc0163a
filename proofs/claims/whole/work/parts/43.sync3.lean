theorem sy_minds {sc : pg_Sc} {g : pg_S} {K : Int32 → pg_S → Prop} {x1 x2 x3 x4 : Int32} (I : INV g) (k : ∀ r g1, (∀ K7 : Int32 → pg_S → Prop, (∀ g2, INV g2 → K7 r g2) → pg_Cal sc 3 mX7_minds [.ref 59, .int x1, .int x2, .int x3, .int x4] g1 (pg_ki K7)) → K r g1) : pg_Cal sc 3 mX6_minds [.ref 0, .int x1, .int x2, .int x3, .int x4] g (pg_ki K) := by
  obtain ⟨T, n, c, m, wf⟩ := I.1
  have iS := I.2.2.2.1
  by_cases hc : MDO n (g.1 (45 + 2 * pn x1) 1) (g.1 (45 + 2 * pn x1) 2) x1 x2 x3 x4
  · have hs := up_lt hc.1.1
    have es := iS.so hs
    have ec := iS.ct hs
    refine tX6_minds iS.h6 c wf (fun q => absurd hc q) (fun _ g1 c1 f1 => ?_)
    refine k _ g1 (fun K7 k7 => ?_)
    have iS1 : ISheet g1 := iS.keep (Ch.fr f1 (by decide)) (by decide) rfl
    have e69 : g1.1 69 = g.1 69 := f1.1 69 (by decide)
    have e68 : g1.1 68 = g.1 68 := f1.1 68 (by decide)
    have e46 : g1.1 (46 + 2 * pn x1) = g.1 (46 + 2 * pn x1) := f1.1 _ (by omega)
    refine tX7_minds (it := fun s j => g1.1 (46 + 2 * s) j) iS1.h7 iS1.hI (m.fr f1 (by decide)) wf (fun q => absurd (by rw [e68, e69, ← es, ← ec]; exact hc) q) (fun _ g2 m2 f2 => k7 g2 ?_)
    have m2 : MR g2 60 (agF T (pn x3) (fun j => g1.1 (46 + 2 * pn x1) (pn x2 + j)) (pn x4)) n := m2
    rw [e46] at m2
    exact I.now (c1.fr f2 (by decide)) m2 (wf.ag _) (Ch.tr (Ch.fr f1 (by decide)) (Ch.fr f2 (by decide))) (by decide) (by decide) rfl
  · refine tX6_minds iS.h6 c wf (fun _ => ?_) (fun q => absurd q hc)
    refine k _ g (fun K7 k7 => ?_)
    refine tX7_minds (it := fun s j => g.1 (46 + 2 * s) j) iS.h7 iS.hI m wf (fun _ => ?_) (fun q => absurd (by rw [iS.so (up_lt q.1.1), iS.ct (up_lt q.1.1)]; exact q) hc)
    by_cases hx : UP x1 3
    · rw [← iS.so (up_lt hx), ← iS.ct (up_lt hx)]
      exact k7 g I
    · have e : ∀ so ct, mdA n so ct x1 x2 x3 x4 = -1 := fun so ct => mdA_1 (fun q => hx q.1)
      rw [e] at k7 ⊢
      exact k7 g I
theorem sy_item {sc : pg_Sc} {g : pg_S} {K : Int32 → pg_S → Prop} {x1 x2 x3 : Int32} (I : INV g) (k : ∀ r g1, (∀ K7 : Int32 → pg_S → Prop, (∀ g2, INV g2 → K7 r g2) → pg_Cal sc 3 mX7_item [.ref 59, .int x1, .int x2, .int x3] g1 (pg_ki K7)) → K r g1) : pg_Cal sc 3 mX6_item [.ref 0, .int x1, .int x2, .int x3] g (pg_ki K) := by
  obtain ⟨T, n, c, m, wf⟩ := I.1
  have iS := I.2.2.2.1
  refine tX6_item iS.h6 (k _ g (fun K7 k7 => tX7_item iS.h7 ?_))
  by_cases hx : UP x1 3
  · rw [← iS.so (up_lt hx), ← iS.ct (up_lt hx), item_v (v' := g.1 (46 + 2 * pn x1) (pn x3)) (fun _ hz => ?_)]
    · exact k7 g I
    · obtain ⟨d, kk, a1, a2, a3, a4, a5, a6, a7⟩ := iS _ (up_lt hx)
      rw [a3] at hz
      have hj : pn x3 < d := by
        obtain ⟨p, hp, rfl⟩ := pp_ex (n := d) (x := x3) hz
        rw [show pn (nI p) = p from nI_clamp (by omega)]; exact hp
      rw [a7 _ hj, Int32.toInt32_toInt64]
  · rw [itemA_1 (fun q => hx q.1)] at k7 ⊢
    exact k7 g I
theorem sy_put {sc : pg_Sc} {g : pg_S} {K : Int32 → pg_S → Prop} {x1 x2 x3 : Int32} (I : INV g) (k : ∀ r g1, (∀ K7 : Int32 → pg_S → Prop, (∀ g2, INV g2 → K7 r g2) → pg_Cal sc 3 mX7_put [.ref 59, .int x1, .int x2, .int x3] g1 (pg_ki K7)) → K r g1) : pg_Cal sc 3 mX6_put [.ref 0, .int x1, .int x2, .int x3] g (pg_ki K) := by
  obtain ⟨T, n, c, m, wf⟩ := I.1
  have iS := I.2.2.2.1
  by_cases hc : UP x1 3 ∧ ¬ g.1 (45 + 2 * pn x1) 1 = -1 ∧ (0 ≤ x2 ∧ x2 < g.1 (45 + 2 * pn x1) 2)
  · have hs := up_lt hc.1
    have es := iS.so hs
    have ec := iS.ct hs
    refine tX6_put iS.h6 (fun q => absurd hc q) (fun _ => ?_)
    refine k _ _ (fun K7 k7 => ?_)
    have c1 : Ch (List.range' 45 8) [] false g (pg_ui g.1 (46 + 2 * pn x1) (pn x2) (narF (g.1 (45 + 2 * pn x1) 1) x3), g.2) := Ch.fr (lo := 45) (hi := 53) (FR.ui (by omega)) (by decide)
    have o1 : ∀ a, a ≠ 46 + 2 * pn x1 → (pg_ui g.1 (46 + 2 * pn x1) (pn x2) (narF (g.1 (45 + 2 * pn x1) 1) x3), g.2).1 a = g.1 a := fun a ha => pg_ui_ne _ _ _ _ a ha
    have o2 : ∀ j, (pg_ui g.1 (46 + 2 * pn x1) (pn x2) (narF (g.1 (45 + 2 * pn x1) 1) x3), g.2).1 (46 + 2 * pn x1) j = if j = pn x2 then narF (g.1 (45 + 2 * pn x1) 1) x3 else g.1 (46 + 2 * pn x1) j := fun j => by
      refine (pg_ui_at _ _ _ _ _ _).trans ?_
      by_cases e : j = pn x2
      · rw [if_pos ⟨rfl, e⟩, if_pos e]
      · rw [if_neg (fun z => e z.2), if_neg e]
    have o3 : (pg_ui g.1 (46 + 2 * pn x1) (pn x2) (narF (g.1 (45 + 2 * pn x1) 1) x3), g.2).2 = g.2 := rfl
    generalize (pg_ui g.1 (46 + 2 * pn x1) (pn x2) (narF (g.1 (45 + 2 * pn x1) 1) x3), g.2) = g1 at c1 o1 o2 o3 ⊢
    have e68 : g1.1 68 = g.1 68 := c1.1 68 (by decide) (by decide)
    have e69 : g1.1 69 = g.1 69 := c1.1 69 (by decide) (by decide)
    have h7 : ∀ s, s < 4 → (∃ c, c ≤ 40 ∧ g1.1 69 s = nI c) ∧ ∃ k, k ≤ 4 ∧ g1.1 68 s = nI k - 1 := by rw [e68, e69]; exact iS.h7
    refine tX7_put h7 (fun q => absurd (by rw [e68, e69, ← es, ← ec]; exact hc) q) (fun _ => ?_)
    have c2 : Ch [] [] true g1 (g1.1, pg_uj g1.2 70 (40 * pn x1 + pn x2) (narF (g1.1 68 (pn x1)) x3).toInt64) := ⟨fun _ _ _ => rfl, fun _ _ _ => rfl, fun q => by cases q⟩
    have cc := Ch.tr c1 c2
    obtain ⟨i1, i2, i3, i4, i5, i6, i7⟩ := I
    refine k7 _ ⟨i1.keep cc (by decide), i2.keep cc (by decide) (by decide), i3.keep cc (by decide) (by decide), ?_, i5.keep cc (by decide), i6.keep cc (by decide) (by decide), i7.keep cc (by decide) (by decide)⟩
    intro s hs4
    obtain ⟨d, kk, a1, a2, a3, a4, a5, a6, a7⟩ := iS s hs4
    refine ⟨d, kk, a1, a2, ?_, ?_, ?_, ?_, fun j hj => ?_⟩
    · show g1.1 (45 + 2 * s) 2 = _
      rw [o1 _ (by omega)]; exact a3
    · show g1.1 69 s = _
      rw [e69]; exact a4
    · show g1.1 (45 + 2 * s) 1 = _
      rw [o1 _ (by omega)]; exact a5
    · show g1.1 68 s = _
      rw [e68]; exact a6
    · show pg_uj g1.2 70 (40 * pn x1 + pn x2) (narF (g1.1 68 (pn x1)) x3).toInt64 70 (40 * s + j) = (g1.1 (46 + 2 * s) j).toInt64
      have hx2 : pn x2 < 40 := by
        obtain ⟨d', kk', b1, b2, b3, b4, b5, b6, b7⟩ := iS _ hs
        have hz := hc.2.2
        rw [b3] at hz
        obtain ⟨p, hp, rfl⟩ := pp_ex (n := d') (x := x2) hz
        rw [show pn (nI p) = p from nI_clamp (by omega)]; omega
      rw [pg_uj_at, o3, e68, ← es]
      by_cases e : s = pn x1
      · subst e
        rw [o2 j]
        by_cases e2 : j = pn x2
        · subst e2
          rw [if_pos ⟨rfl, rfl⟩, if_pos rfl]
        · rw [if_neg (by omega), if_neg e2]
          exact a7 j hj
      · rw [if_neg (by omega), o1 _ (by omega)]
        exact a7 j hj
  · refine tX6_put iS.h6 (fun _ => ?_) (fun q => absurd q hc)
    refine k _ g (fun K7 k7 => ?_)
    refine tX7_put iS.h7 (fun _ => ?_) (fun q => absurd (by rw [iS.so (up_lt q.1), iS.ct (up_lt q.1)]; exact q) hc)
    by_cases hx : UP x1 3
    · rw [← iS.so (up_lt hx), ← iS.ct (up_lt hx)]
      exact k7 g I
    · have e : ∀ so ct, putA so ct x1 x2 = -1 := fun so ct => if_pos hx
      rw [e] at k7 ⊢
      exact k7 g I
theorem in5 {y : Int32} (h : IN y (-1) 3) : ∃ k, k ≤ 4 ∧ y = nI k - 1 := by
  have h1 : (-1 : Int) ≤ y.toInt := by have := Int32.le_iff_toInt_le.mp h.1; simpa using this
  have h2 : y.toInt ≤ 3 := by have := Int32.le_iff_toInt_le.mp h.2; simpa using this
  rcases (show y.toInt = -1 ∨ y.toInt = 0 ∨ y.toInt = 1 ∨ y.toInt = 2 ∨ y.toInt = 3 by omega) with e | e | e | e | e
  · exact ⟨0, by omega, Int32.toInt_inj.mp (e.trans (by decide))⟩
  · exact ⟨1, by omega, Int32.toInt_inj.mp (e.trans (by decide))⟩
  · exact ⟨2, by omega, Int32.toInt_inj.mp (e.trans (by decide))⟩
  · exact ⟨3, by omega, Int32.toInt_inj.mp (e.trans (by decide))⟩
  · exact ⟨4, by omega, Int32.toInt_inj.mp (e.trans (by decide))⟩
theorem sy_sheet {sc : pg_Sc} {g : pg_S} {K : Int32 → pg_S → Prop} {x1 x2 x3 : Int32} (I : INV g) (k : ∀ r g1, (∀ K7 : Int32 → pg_S → Prop, (∀ g2, INV g2 → K7 r g2) → pg_Cal sc 3 mX7_sheet [.ref 59, .int x1, .int x2, .int x3] g1 (pg_ki K7)) → K r g1) : pg_Cal sc 3 mX6_sheet [.ref 0, .int x1, .int x2, .int x3] g (pg_ki K) := by
  obtain ⟨T, n, c, m, wf⟩ := I.1
  have iS := I.2.2.2.1
  by_cases hc : SHO x1 x2 x3
  · have hs := up_lt hc.1
    refine tX6_sheet (fun q => absurd hc q) (fun _ _ _ g1 a1 a2 a3 f1 => ?_)
    refine k _ g1 (fun K7 k7 => ?_)
    have c1 : Ch (List.range' 45 8) [] false g g1 := Ch.fr (f1.wd (lo' := 45) (hi' := 53) (by omega) (by omega)) (by decide)
    refine tX7_sheet (fun q => absurd hc q) (fun _ _ _ g2 b1 b2 b3 b4 f2 => k7 g2 ?_)
    have cc := Ch.tr c1 (Ch.fj f2)
    obtain ⟨i1, i2, i3, i4, i5, i6, i7⟩ := I
    refine ⟨i1.keep cc (by decide), i2.keep cc (by decide) (by decide), i3.keep cc (by decide) (by decide), ?_, i5.keep cc (by decide), i6.keep cc (by decide) (by decide), i7.keep cc (by decide) (by decide)⟩
    intro s hs4
    have e45 : g2.1 (45 + 2 * s) = g1.1 (45 + 2 * s) := f2.1 _ (by omega) (by omega)
    have e46 : g2.1 (46 + 2 * s) = g1.1 (46 + 2 * s) := f2.1 _ (by omega) (by omega)
    by_cases e : s = pn x1
    · subst e
      obtain ⟨kk, hk4, ek⟩ := in5 hc.2.1
      obtain ⟨d, hd, ed, hz⟩ : ∃ d, d ≤ 40 ∧ ctF x2 x3 = nI d ∧ (x2 = -1 → d = 0) := by
        by_cases ey : x2 = -1
        · exact ⟨0, by omega, if_pos ey, fun _ => rfl⟩
        · rcases hc.2.2 with q | q
          · exact absurd q ey
          · obtain ⟨p, hp, rfl⟩ := up_ex (x := x3) 40 rfl (by decide) ⟨q.2, q.1⟩
            exact ⟨p, hp, if_neg ey, fun z => absurd z ey⟩
      refine ⟨d, kk, hd, hk4, ?_, ?_, ?_, ?_, fun j hj => ?_⟩
      · rw [e45, a2]; exact ed
      · rw [b2]; exact (if_pos rfl).trans ed
      · rw [e45, a1]; exact ek
      · rw [b1]; exact (if_pos rfl).trans ek
      · have ey : ¬ x2 = -1 := fun q => by have := hz q; omega
        rw [b3 j (by omega), e46, a3 ey j (by omega)]; rfl
    · obtain ⟨d, kk, q1, q2, q3, q4, q5, q6, q7⟩ := iS s hs4
      have f45 : g1.1 (45 + 2 * s) = g.1 (45 + 2 * s) := f1.1 _ (by omega)
      have f46 : g1.1 (46 + 2 * s) = g.1 (46 + 2 * s) := f1.1 _ (by omega)
      have f68 : g1.1 68 = g.1 68 := f1.1 68 (by omega)
      have f69 : g1.1 69 = g.1 69 := f1.1 69 (by omega)
      refine ⟨d, kk, q1, q2, ?_, ?_, ?_, ?_, fun j hj => ?_⟩
      · rw [e45, f45]; exact q3
      · rw [b2, f69]; exact (if_neg e).trans q4
      · rw [e45, f45]; exact q5
      · rw [b1, f68]; exact (if_neg e).trans q6
      · rw [b4 _ (by omega), f1.2, e46, f46]; exact q7 j hj
  · refine tX6_sheet (fun _ => ?_) (fun p q r => absurd ⟨p, q, r⟩ hc)
    refine k _ g (fun K7 k7 => ?_)
    exact tX7_sheet (fun _ => k7 g I) (fun p q r => absurd ⟨p, q, r⟩ hc)
theorem shl_so {g : pg_S} (iS : ISheet g) {n : Nat} {x y z : Int32} (h : OKS n x y z) : shH y (g.1 68 (pn z)) = shH y (g.1 (45 + 2 * pn z) 1) ∧ shN y (g.1 68 (pn z)) z = shN y (g.1 (45 + 2 * pn z) 1) z := by
  by_cases e : y = 1
  · rcases h.2 with q | q | q
    · exact absurd (e.symm.trans q.1) (by decide)
    · rw [iS.so (up_lt q.2)]; exact ⟨rfl, rfl⟩
    · exact absurd (e.symm.trans q) (by decide)
  · unfold shH shN
    rw [if_neg (fun q => e q.1), if_neg (fun q => e q.1), if_neg e, if_neg e]
    exact ⟨rfl, rfl⟩
theorem shl_3 {n : Nat} {x y z so : Int32} (h : OKS n x y z) : shH y so = 0 ∨ shH y so = 1 ∨ shH y so = 2 := by
  unfold shH
  split
  · exact Or.inr (Or.inr rfl)
  · rcases h.2 with q | q | q
    · exact Or.inl q.1
    · exact Or.inr (Or.inl q.1)
    · exact Or.inr (Or.inr q)
theorem sy_shelf {sc : pg_Sc} {g : pg_S} {K : Int32 → pg_S → Prop} {x1 x2 x3 : Int32} (I : INV g) (k : ∀ r g1, (∀ K7 : Int32 → pg_S → Prop, (∀ g2, INV g2 → K7 r g2) → pg_Cal sc 4 mX7_shelf [.ref 59, .int x1, .int x2, .int x3] g1 (pg_ki K7)) → K r g1) : pg_Cal sc 3 mX6_shelf [.ref 0, .int x1, .int x2, .int x3] g (pg_ki K) := by
  obtain ⟨T, n, c, m, wf⟩ := I.1
  have iS := I.2.2.2.1
  by_cases hc : OKS n x1 x2 x3
  · have hs := up_lt hc.1
    refine tX6_shelf c wf (fun q => absurd hc q) (fun _ g1 a1 f1 => ?_)
    refine k _ g1 (fun K7 k7 => ?_)
    have c1 : Ch (List.range' 54 4) [] false g g1 := Ch.fr (f1.wd (lo' := 54) (hi' := 58) (by omega) (by omega)) (by decide)
    have iS1 : ISheet g1 := iS.keep c1 (by decide) rfl
    refine tX7_shelf iS1.h7 (m.ch c1 (by decide)) wf (fun q => absurd hc q) (fun _ g2 b1 b2 f2 => k7 g2 ?_)
    have cc := Ch.tr c1 (Ch.fl f2 (by decide))
    obtain ⟨i1, i2, i3, i4, ⟨H, A, B, i5⟩, i6, i7⟩ := I
    refine ⟨i1.keep cc (by decide), i2.keep cc (by decide) (by decide), i3.keep cc (by decide) (by decide), i4.keep cc (by decide) rfl, ?_, i6.keep cc (by decide) (by decide), i7.keep cc (by decide) (by decide)⟩
    have e68 : g1.1 68 = g.1 68 := c1.1 68 (by decide) (by decide)
    have e69 : g1.1 69 = g.1 69 := c1.1 69 (by decide) (by decide)
    rw [e68, e69, (shl_so iS hc).1, (shl_so iS hc).2] at b1
    refine ⟨fun s => if s = pn x1 then shH x2 (g.1 (45 + 2 * pn x3) 1) else H s, fun s => if s = pn x1 then shN x2 (g.1 (45 + 2 * pn x3) 1) x3 else A s, fun s => if s = pn x1 then g.1 (45 + 2 * pn x3) 2 else B s, fun s hs4 => ?_⟩
    by_cases e : s = pn x1
    · subst e
      simp only [if_pos]
      refine ⟨?_, ?_, shl_3 hc⟩
      · unfold CS at a1 ⊢
        rw [f2.1 (54 + pn x1) (by intro z; simp only [List.mem_cons, List.not_mem_nil, or_false] at z; omega)]; exact a1
      · refine ⟨b1.1, b1.2.1, fun h1 => ⟨(b1.2.2 h1).1, ?_⟩⟩
        have e1 : x2 = 1 := by
          unfold shH at h1
          split at h1
          · exact absurd h1 (by decide)
          · exact h1
        rcases hc.2 with q | q | q
        · exact absurd (e1.symm.trans q.1) (by decide)
        · rw [iS.ct (up_lt q.2)]; exact (b1.2.2 h1).2
        · exact absurd (e1.symm.trans q) (by decide)
    · simp only [if_neg e]
      obtain ⟨q1, q2, q3⟩ := i5 s hs4
      refine ⟨?_, ?_, q3⟩
      · unfold CS at q1 ⊢
        rw [f2.1 (54 + s) (by intro z; simp only [List.mem_cons, List.not_mem_nil, or_false] at z; omega), f1.1 (54 + s) (by omega)]; exact q1
      · obtain ⟨z1, z2, z3⟩ := b2 s e
        unfold MS at q2 ⊢
        rw [z1, z2, z3, c1.1 71 (by decide) (by decide), c1.1 72 (by decide) (by decide), c1.1 73 (by decide) (by decide)]; exact q2
  · refine tX6_shelf c wf (fun _ => ?_) (fun q => absurd q hc)
    refine k _ g (fun K7 k7 => ?_)
    exact tX7_shelf iS.h7 m wf (fun _ => k7 g I) (fun q => absurd q hc)
theorem sy_taken {sc : pg_Sc} {g : pg_S} {K : Int32 → pg_S → Prop} {x1 x2 : Int32} (I : INV g) (k : ∀ r g1, (∀ K7 : Int32 → pg_S → Prop, (∀ g2, INV g2 → K7 r g2) → pg_Cal sc 4 mX7_taken [.ref 59, .int x1, .int x2] g1 (pg_ki K7)) → K r g1) : pg_Cal sc 3 mX6_taken [.ref 0, .int x1, .int x2] g (pg_ki K) := by
  obtain ⟨T, n, c, m, wf⟩ := I.1
  obtain ⟨H, A, B, hh⟩ := I.2.2.2.2.1
  have hC : ∀ s, s < 4 → CS g s (H s) (A s) (B s) := fun s hs => (hh s hs).1
  have hM : ∀ s, s < 4 → MS g s (H s) (A s) (B s) := fun s hs => (hh s hs).2.1
  have hv : ∀ s, s < 4 → H s = 0 ∨ H s = 1 ∨ H s = 2 := fun s hs => (hh s hs).2.2
  exact tX6_taken hC c wf (k _ g (fun K7 k7 => tX7_taken hM hv m wf (k7 g I)))
theorem sy_act {sc : pg_Sc} {g : pg_S} {K : Int32 → pg_S → Prop} {x1 x2 x3 : Int32} (I : INV g) (k : ∀ r g1, (∀ K7 : Int32 → pg_S → Prop, (∀ g2, INV g2 → K7 r g2) → pg_Cal sc 9 mX7_act [.ref 59, .int x1, .int x2, .int x3] g1 (pg_ki K7)) → K r g1) : pg_Cal sc 32 mX6_act [.ref 0, .int x1, .int x2, .int x3] g (pg_ki K) := by
  obtain ⟨T, n, c, m, wf⟩ := I.1
  obtain ⟨H, A, B, hh⟩ := I.2.2.2.2.1
  have hC : ∀ s, s < 4 → CS g s (H s) (A s) (B s) := fun s hs => (hh s hs).1
  have hM : ∀ s, s < 4 → MS g s (H s) (A s) (B s) := fun s hs => (hh s hs).2.1
  have hv : ∀ s, s < 4 → H s = 0 ∨ H s = 1 ∨ H s = 2 := fun s hs => (hh s hs).2.2
  by_cases hc : UP x1 3 ∧ UP x2 3 ∧ H (pn x1) = 0 ∧ PP n (A (pn x1))
  · refine tX6_act hC c wf (fun q => absurd hc q) (fun _ g1 a1 f1 => ?_)
    refine k _ g1 (fun K7 k7 => ?_)
    have c1 := Ch.fr f1 (by decide)
    have hM1 : ∀ s, s < 4 → MS g1 s (H s) (A s) (B s) := fun s hs => by
      have q2 := hM s hs
      unfold MS at q2 ⊢
      rw [c1.1 71 (by decide) (by decide), c1.1 72 (by decide) (by decide), c1.1 73 (by decide) (by decide)]; exact q2
    refine tX7_act hM1 hv (m.ch c1 (by decide)) wf (fun q => absurd hc q) (fun _ g2 b1 f2 => k7 g2 ?_)
    have cc := Ch.tr c1 (Ch.fa f2)
    obtain ⟨i1, i2, i3, i4, i5, i6, i7⟩ := I
    refine ⟨i1.keep cc (by decide), i2.keep cc (by decide) (by decide), i3.keep cc (by decide) (by decide), i4.keep cc (by decide) rfl, i5.keep cc (by decide), ?_, i7.keep cc (by decide) (by decide)⟩
    refine ⟨_, a1.1, ?_, b1.2.1, fun j hj => ?_⟩
    · rw [f2.1 42 (by decide) (by decide)]; exact a1.2.1
    · rw [f2.1 43 (by decide) (by decide)]
      exact (a1.2.2.2.2.2.2 j hj).trans (b1.2.2.2.2.2.2 j hj).symm
  · refine tX6_act hC c wf (fun _ g1 a1 f1 => ?_) (fun q => absurd q hc)
    refine k _ g1 (fun K7 k7 => ?_)
    have c1 := Ch.fr f1 (by decide)
    have hM1 : ∀ s, s < 4 → MS g1 s (H s) (A s) (B s) := fun s hs => by
      have q2 := hM s hs
      unfold MS at q2 ⊢
      rw [c1.1 71 (by decide) (by decide), c1.1 72 (by decide) (by decide), c1.1 73 (by decide) (by decide)]; exact q2
    refine tX7_act hM1 hv (m.ch c1 (by decide)) wf (fun _ g2 b1 f2 => k7 g2 ?_) (fun q => absurd q hc)
    have cc := Ch.tr c1 (Ch.fa f2)
    obtain ⟨i1, i2, i3, i4, i5, i6, i7⟩ := I
    refine ⟨i1.keep cc (by decide), i2.keep cc (by decide) (by decide), i3.keep cc (by decide) (by decide), i4.keep cc (by decide) rfl, i5.keep cc (by decide), ?_, i7.keep cc (by decide) (by decide)⟩
    refine ⟨0, by omega, ?_, b1, fun j hj => absurd hj (by omega)⟩
    rw [f2.1 42 (by decide) (by decide)]; exact a1
theorem sy_trace {sc : pg_Sc} {g : pg_S} {K : Int32 → pg_S → Prop} {x1 : Int32} (I : INV g) (k : ∀ r g1, (∀ K7 : Int32 → pg_S → Prop, (∀ g2, INV g2 → K7 r g2) → pg_Cal sc 2 mX7_trace [.ref 59, .int x1] g1 (pg_ki K7)) → K r g1) : pg_Cal sc 1 mX6_trace [.ref 0, .int x1] g (pg_ki K) := by
  obtain ⟨r, h30, r1, r2, r3⟩ := I.2.2.2.2.2.1
  refine tX6_trace ⟨r, h30, r1⟩ (k _ g (fun K7 k7 => tX7_trace ⟨r, h30, r2⟩ ?_))
  rw [r2]
  rw [r1] at k7
  by_cases hc : 0 ≤ x1 ∧ x1 < nI r
  · rw [if_pos hc] at k7 ⊢
    have hx : pn x1 < r := by
      obtain ⟨p, hp, rfl⟩ := pp_ex (n := r) (x := x1) hc
      rw [show pn (nI p) = p from nI_clamp (by omega)]; exact hp
    rw [← r3 _ hx]
    exact k7 g I
  · rw [if_neg hc] at k7 ⊢
    exact k7 g I
theorem sy_keep {sc : pg_Sc} {g : pg_S} {K : Int32 → pg_S → Prop} (I : INV g) (k : ∀ r g1, (∀ K7 : Int32 → pg_S → Prop, (∀ g2, INV g2 → K7 r g2) → pg_Cal sc 2 mX7_keep [.ref 59] g1 (pg_ki K7)) → K r g1) : pg_Cal sc 2 mX6_keep [.ref 0] g (pg_ki K) := by
  obtain ⟨T, n, c, m, wf⟩ := I.1
  refine tX6_keep c wf (fun ga ca fa => ?_)
  refine k _ _ (fun K7 k7 => ?_)
  have c1 : Ch (List.range' 19 9 ++ [0]) [] false g (pg_ui ga.1 0 3 1, ga.2) := Ch.tr (Ch.fr fa (by decide)) (Ch.ui (by decide))
  have n0 : (pg_ui ga.1 0 3 1, ga.2).1 0 3 = 1 := (pg_ui_at ga.1 0 3 1 0 3).trans (if_pos ⟨rfl, rfl⟩)
  have cb : CR (pg_ui ga.1 0 3 1, ga.2) 19 T n := ca.fr (lo := 0) (hi := 1) (FR.ui (by decide)) (by decide)
  generalize (pg_ui ga.1 0 3 1, ga.2) = g1 at c1 n0 cb ⊢
  refine tX7_keep (m.ch c1 (by decide)) wf (fun gb mb fb => k7 _ ?_)
  have c2 : Ch ([62] ++ []) ([] ++ [4]) false g1 (pg_ui gb.1 59 4 1, gb.2) := Ch.tr (Ch.fr fb (by decide)) Ch.u59
  have cc := Ch.tr c1 c2
  obtain ⟨i1, i2, i3, i4, i5, i6, i7⟩ := I
  refine ⟨i1.keep cc (by decide), i2.keep cc (by decide) (by decide), i3.keep cc (by decide) (by decide), i4.keep cc (by decide) rfl, i5.keep cc (by decide), i6.keep cc (by decide) (by decide), Or.inr ⟨?_, ?_, T, n, ?_, ?_, wf⟩⟩
  · rw [c2.1 0 (by decide) (by decide)]; exact n0
  · exact (pg_ui_at gb.1 59 4 1 59 4).trans (if_pos ⟨rfl, rfl⟩)
  · have h2 := cb.fr fb (by decide)
    exact h2.fr (lo := 59) (hi := 60) (FR.ui (by decide)) (by decide)
  · exact mb.fr (lo := 59) (hi := 60) (FR.ui (by decide)) (by decide)
theorem sy_again {sc : pg_Sc} {g : pg_S} {K : Int32 → pg_S → Prop} (I : INV g) (k : ∀ r g1, (∀ K7 : Int32 → pg_S → Prop, (∀ g2, INV g2 → K7 r g2) → pg_Cal sc 2 mX7_again [.ref 59] g1 (pg_ki K7)) → K r g1) : pg_Cal sc 2 mX6_again [.ref 0] g (pg_ki K) := by
  rcases I.2.2.2.2.2.2 with ⟨a1, a2⟩ | ⟨a1, a2, T, n, c, m, wf⟩
  · refine tX6_again (fun _ => ?_) (fun q => absurd a1 q)
    refine k _ g (fun K7 k7 => ?_)
    exact tX7_again (fun _ => k7 g I) (fun q => absurd a2 q)
  · refine tX6_again (fun q => absurd (a1.symm.trans q) (by decide)) (fun _ => ⟨T, n, c, wf.1, fun g1 c1 f1 => ?_⟩)
    refine k _ g1 (fun K7 k7 => ?_)
    have e4 : g1.1 59 4 = 1 := by rw [f1.1 59 (by decide)]; exact a2
    refine tX7_again (fun q => absurd (e4.symm.trans q) (by decide)) (fun _ => ⟨T, n, m.fr f1 (by decide), wf.1, fun g2 m2 f2 => k7 g2 ?_⟩)
    exact I.now (c1.fr f2 (by decide)) m2 wf (Ch.tr (Ch.fr f1 (by decide)) (Ch.fr f2 (by decide))) (by decide) (by decide) rfl
theorem sy_feed {sc : pg_Sc} {g : pg_S} {K : Int32 → pg_S → Prop} {y1 : Int64} {x1 : Int32} (I : INV g) (k : ∀ r g1, (∀ K7 : Int32 → pg_S → Prop, (∀ g2, INV g2 → K7 r g2) → pg_Cal sc 2 mX7_feed [.ref 59, .long y1, .int x1] g1 (pg_ki K7)) → K r g1) : pg_Cal sc 2 mX6_feed [.ref 0, .long y1, .int x1] g (pg_ki K) := by
  obtain ⟨B, L, t1, t2⟩ := I.2.1
  by_cases hc : IN x1 1 8
  · by_cases hL : L + pn x1 ≤ 200
    · refine tX6_feed t1 (fun q => absurd hc q) (fun _ q => absurd q (by omega)) (fun _ _ g1 u1 f1 => ?_)
      refine k _ g1 (fun K7 k7 => ?_)
      have c1 := Ch.fr f1 (by decide)
      have t2b : MTP g1 B L := by
        obtain ⟨b1, b2, b3⟩ := t2
        exact ⟨(c1.2.1 6 (by decide) (by decide)).trans b1, b2, fun j hj => ⟨(b3 j hj).1, by rw [c1.1 64 (by decide) (by decide)]; exact (b3 j hj).2⟩⟩
      refine tX7_feed t2b (fun q => absurd hc q) (fun _ q => absurd q (by omega)) (fun _ _ g2 u2 f2 f3 f4 => k7 g2 ?_)
      have c2 : Ch [64] [6] false g1 g2 := ⟨fun a q r => f2 a q (fun z => r (by rw [z]; decide)), fun j _ r => f3 j (fun z => r (by rw [z]; decide)), fun _ => by rw [f4]⟩
      have cc := Ch.tr c1 c2
      obtain ⟨i1, i2, i3, i4, i5, i6, i7⟩ := I
      refine ⟨i1.keep cc (by decide), ⟨_, _, ?_, u2⟩, i3.keep cc (by decide) (by decide), i4.keep cc (by decide) rfl, i5.keep cc (by decide), i6.keep cc (by decide) (by decide), i7.keep cc (by decide) (by decide)⟩
      unfold TP at u1 ⊢
      rw [f2 28 (by decide) (by decide), f2 29 (by decide) (by decide)]; exact u1
    · refine tX6_feed t1 (fun q => absurd hc q) (fun _ _ => ?_) (fun _ q => absurd q hL)
      refine k _ g (fun K7 k7 => ?_)
      exact tX7_feed t2 (fun q => absurd hc q) (fun _ _ => k7 g I) (fun _ q => absurd q hL)
  · refine tX6_feed t1 (fun _ => ?_) (fun q => absurd q hc) (fun q => absurd q hc)
    refine k _ g (fun K7 k7 => ?_)
    exact tX7_feed t2 (fun _ => k7 g I) (fun q => absurd q hc) (fun q => absurd q hc)
theorem sy_school {sc : pg_Sc} {g : pg_S} {K : Int32 → pg_S → Prop} (I : INV g) (k : ∀ r g1, (∀ K7 : Int32 → pg_S → Prop, (∀ g2, INV g2 → K7 r g2) → pg_Cal sc 7 mX7_school [.ref 59] g1 (pg_ki K7)) → K r g1) : pg_Cal sc 12 mX6_school [.ref 0] g (pg_ki K) := by
  obtain ⟨T, n, c, m, wf⟩ := I.1
  obtain ⟨B, L, t1, t2⟩ := I.2.1
  cases hr : schF B L (T 8 2) with
  | inl q =>
    refine tX6_school_f (n' := 0) (T' := T) c t1 hr (fun g1 l1 e30 c1' f1 f1b => ?_)
    refine k _ g1 (fun K7 k7 => ?_)
    have c1 : Ch (List.range' 1 18 ++ [28, 30]) [] false g g1 := ⟨fun a _ r => f1 a (fun z => r (List.mem_append_right _ z)) (fun z => r (List.mem_append_left _ (List.mem_range'_1.mpr (by omega)))), fun j _ _ => by rw [f1 59 (by decide) (by decide)], fun _ => by rw [f1b]⟩
    have t2b : MTP g1 B L := by
      obtain ⟨b1, b2, b3⟩ := t2
      exact ⟨(c1.2.1 6 (by decide) (by decide)).trans b1, b2, fun j hj => ⟨(b3 j hj).1, by rw [c1.1 64 (by decide) (by decide)]; exact (b3 j hj).2⟩⟩
    refine tX7_school_f (n' := 0) (T' := T) t2b (m.ch c1 (by decide)) hr (fun g2 l2 e16 m2 f2 f3 f4 => k7 g2 ?_)
    have c2 : Ch [60, 61] [6, 16] false g1 g2 := ⟨fun a q r => f2 a (fun z => by
      rcases List.mem_cons.mp z with z | z
      · exact q z
      · exact r z), fun j q r => f3 j (by
        have : ∀ j ∈ ([4, 6, 16, 27] : List Nat), j ∉ ([6, 16] : List Nat) → j ∉ ([6, 7, 8, 9, 11, 12, 16] : List Nat) := by decide
        exact this j q r), fun _ => f4 70 (by decide)⟩
    have cc := Ch.tr c1 c2
    obtain ⟨i1, i2, i3, i4, i5, i6, i7⟩ := I
    have cr : CR g2 1 T n := c1'.ch c2 (by decide)
    refine ⟨⟨T, n, cr, m2, wf⟩, ⟨B, 0, ⟨?_, by omega, fun j hj => absurd hj (by omega)⟩, ⟨l2, by omega, fun j hj => absurd hj (by omega)⟩⟩, ?_, i4.keep cc (by decide) rfl, i5.keep cc (by decide), i6.keep cc (by decide) (by decide), i7.keep cc (by decide) (by decide)⟩
    · rw [c2.1 28 (by decide) (by decide)]; exact l1
    · obtain ⟨R, r0, r1, r2, r3⟩ := i3
      refine ⟨R, r0, ?_, ?_, fun j hj v hv => ?_⟩
      · rw [c2.1 30 (by decide) (by decide), e30]; exact r1
      · rw [e16, c1.2.1 16 (by decide) (by decide)]; exact r2
      · rw [cc.1 66 (by decide) (by decide), cc.1 (32 + j) (by omega) ((by decide : ∀ j, j < 10 → 32 + j ∉ ((List.range' 1 18 ++ [28, 30]) ++ [60, 61] : List Nat)) j (by omega))]; exact r3 j hj v hv
  | inr t =>
    obtain ⟨q, T', n'⟩ := t
    have wf' := sch_wf hr
    refine tX6_school_t c t1 hr (fun g1 l1 e30 c1' f1 f1b => ?_)
    refine k _ g1 (fun K7 k7 => ?_)
    have c1 : Ch (List.range' 1 18 ++ [28, 30]) [] false g g1 := ⟨fun a _ r => f1 a (fun z => r (List.mem_append_right _ z)) (fun z => r (List.mem_append_left _ (List.mem_range'_1.mpr (by omega)))), fun j _ _ => by rw [f1 59 (by decide) (by decide)], fun _ => by rw [f1b]⟩
    have t2b : MTP g1 B L := by
      obtain ⟨b1, b2, b3⟩ := t2
      exact ⟨(c1.2.1 6 (by decide) (by decide)).trans b1, b2, fun j hj => ⟨(b3 j hj).1, by rw [c1.1 64 (by decide) (by decide)]; exact (b3 j hj).2⟩⟩
    refine tX7_school_t t2b (m.ch c1 (by decide)) hr (fun g2 l2 e16 m2 f2 f3 f4 => k7 g2 ?_)
    have c2 : Ch [60, 61] [6, 16] false g1 g2 := ⟨fun a q r => f2 a (fun z => by
      rcases List.mem_cons.mp z with z | z
      · exact q z
      · exact r z), fun j q r => f3 j (by
        have : ∀ j ∈ ([4, 6, 16, 27] : List Nat), j ∉ ([6, 16] : List Nat) → j ∉ ([6, 7, 8, 9, 11, 12, 16] : List Nat) := by decide
        exact this j q r), fun _ => f4 70 (by decide)⟩
    have cc := Ch.tr c1 c2
    obtain ⟨i1, i2, i3, i4, i5, i6, i7⟩ := I
    have cr : CR g2 1 T' n' := c1'.ch c2 (by decide)
    refine ⟨⟨T', n', cr, m2, wf'⟩, ⟨B, 0, ⟨?_, by omega, fun j hj => absurd hj (by omega)⟩, ⟨l2, by omega, fun j hj => absurd hj (by omega)⟩⟩, ⟨0, by omega, ?_, e16, fun j hj => absurd hj (by omega)⟩, i4.keep cc (by decide) rfl, i5.keep cc (by decide), i6.keep cc (by decide) (by decide), i7.keep cc (by decide) (by decide)⟩
    · rw [c2.1 28 (by decide) (by decide)]; exact l1
    · rw [c2.1 30 (by decide) (by decide)]; exact e30
