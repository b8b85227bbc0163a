theorem CR.fm {g g' : pg_S} {t n : Nat} {T : TW} (h : CR g t T n) (f : FM g g') (ht : t + 9 ≤ 60 := by decide) : CR g' t T n := by
  obtain ⟨q1, q2, q3, q4, q5⟩ := h
  refine ⟨q1, fun j hj => ?_, fun j hj => ?_, fun j hj => ?_, fun k hk1 hk2 j hj => ?_⟩
  · rw [f.1 t (by omega) (by omega)]; exact q2 j hj
  · rw [f.1 (t + 1) (by omega) (by omega)]; exact q3 j hj
  · rw [f.1 (t + 2) (by omega) (by omega)]; exact q4 j hj
  · rw [f.1 (t + 1 + k) (by omega) (by omega)]; exact q5 k hk1 hk2 j hj
theorem sy_lawOf {sc : pg_Sc} {g : pg_S} {K : Int32 → pg_S → Prop} {x1 : Int32} (I : INV g) (k : ∀ r g1, (∀ K7 : Int32 → pg_S → Prop, (∀ g2, INV g2 → K7 r g2) → pg_Cal sc 2 mX7_lawOf [.ref 59, .int x1] g1 (pg_ki K7)) → K r g1) : pg_Cal sc 2 mX6_lawOf [.ref 0, .int x1] g (pg_ki K) := by
  obtain ⟨T, n, c, m, wf⟩ := I.1
  by_cases hc : UP x1 3
  · refine tX6_lawOf c wf (fun q => absurd hc q) (by
      intros
      refine k _ g (fun K7 k7 => ?_)
      refine tX7_lawOf m wf (fun q => absurd hc q) (by intros; exact k7 g I))
  · refine tX6_lawOf c wf (fun _ => ?_) (by intros; exact absurd (by first | assumption | exact ⟨by assumption, by assumption⟩ | exact ⟨by assumption, by assumption, by assumption⟩ | exact ⟨⟨by assumption, by assumption, by assumption⟩, by assumption⟩) hc)
    refine k _ g (fun K7 k7 => ?_)
    exact tX7_lawOf m wf (fun _ => k7 g I) (by intros; exact absurd (by first | assumption | exact ⟨by assumption, by assumption⟩ | exact ⟨by assumption, by assumption, by assumption⟩ | exact ⟨⟨by assumption, by assumption, by assumption⟩, by assumption⟩) hc)
theorem sy_of {sc : pg_Sc} {g : pg_S} {K : Int32 → pg_S → Prop} {x1 x2 : Int32} (I : INV g) (k : ∀ r g1, (∀ K7 : Int32 → pg_S → Prop, (∀ g2, INV g2 → K7 r g2) → pg_Cal sc 3 mX7_of [.ref 59, .int x1, .int x2] g1 (pg_ki K7)) → K r g1) : pg_Cal sc 2 mX6_of [.ref 0, .int x1, .int x2] g (pg_ki K) := by
  obtain ⟨T, n, c, m, wf⟩ := I.1
  by_cases hc : PP n x1 ∧ UP x2 5
  · refine tX6_of c wf (fun q => absurd hc q) (by
      intros
      refine k _ g (fun K7 k7 => ?_)
      refine tX7_of m wf (fun q => absurd hc q) (by intros; exact k7 g I))
  · refine tX6_of c wf (fun _ => ?_) (by intros; exact absurd (by first | assumption | exact ⟨by assumption, by assumption⟩ | exact ⟨by assumption, by assumption, by assumption⟩ | exact ⟨⟨by assumption, by assumption, by assumption⟩, by assumption⟩) hc)
    refine k _ g (fun K7 k7 => ?_)
    exact tX7_of m wf (fun _ => k7 g I) (by intros; exact absurd (by first | assumption | exact ⟨by assumption, by assumption⟩ | exact ⟨by assumption, by assumption, by assumption⟩ | exact ⟨⟨by assumption, by assumption, by assumption⟩, by assumption⟩) hc)
theorem sy_leans {sc : pg_Sc} {g : pg_S} {K : Int32 → pg_S → Prop} {x1 x2 : Int32} (I : INV g) (k : ∀ r g1, (∀ K7 : Int32 → pg_S → Prop, (∀ g2, INV g2 → K7 r g2) → pg_Cal sc 3 mX7_leans [.ref 59, .int x1, .int x2] g1 (pg_ki K7)) → K r g1) : pg_Cal sc 2 mX6_leans [.ref 0, .int x1, .int x2] g (pg_ki K) := by
  obtain ⟨T, n, c, m, wf⟩ := I.1
  by_cases hc : PP n x1 ∧ UP x2 9999
  · refine tX6_leans c wf (fun q => absurd hc q) (by
      intros
      refine k _ g (fun K7 k7 => ?_)
      refine tX7_leans m wf (fun q => absurd hc q) (by intros; exact k7 g I))
  · refine tX6_leans c wf (fun _ => ?_) (by intros; exact absurd (by first | assumption | exact ⟨by assumption, by assumption⟩ | exact ⟨by assumption, by assumption, by assumption⟩ | exact ⟨⟨by assumption, by assumption, by assumption⟩, by assumption⟩) hc)
    refine k _ g (fun K7 k7 => ?_)
    exact tX7_leans m wf (fun _ => k7 g I) (by intros; exact absurd (by first | assumption | exact ⟨by assumption, by assumption⟩ | exact ⟨by assumption, by assumption, by assumption⟩ | exact ⟨⟨by assumption, by assumption, by assumption⟩, by assumption⟩) hc)
theorem sy_strides {sc : pg_Sc} {g : pg_S} {K : Int32 → pg_S → Prop} {x1 : Int32} (I : INV g) (k : ∀ r g1, (∀ K7 : Int32 → pg_S → Prop, (∀ g2, INV g2 → K7 r g2) → pg_Cal sc 3 mX7_strides [.ref 59, .int x1] g1 (pg_ki K7)) → K r g1) : pg_Cal sc 2 mX6_strides [.ref 0, .int x1] g (pg_ki K) := by
  obtain ⟨T, n, c, m, wf⟩ := I.1
  by_cases hc : PP n x1
  · refine tX6_strides c wf (fun q => absurd hc q) (by
      intros
      refine k _ g (fun K7 k7 => ?_)
      refine tX7_strides m wf (fun q => absurd hc q) (by intros; exact k7 g I))
  · refine tX6_strides c wf (fun _ => ?_) (by intros; exact absurd (by first | assumption | exact ⟨by assumption, by assumption⟩ | exact ⟨by assumption, by assumption, by assumption⟩ | exact ⟨⟨by assumption, by assumption, by assumption⟩, by assumption⟩) hc)
    refine k _ g (fun K7 k7 => ?_)
    exact tX7_strides m wf (fun _ => k7 g I) (by intros; exact absurd (by first | assumption | exact ⟨by assumption, by assumption⟩ | exact ⟨by assumption, by assumption, by assumption⟩ | exact ⟨⟨by assumption, by assumption, by assumption⟩, by assumption⟩) hc)
theorem sy_peg {sc : pg_Sc} {g : pg_S} {K : Int32 → pg_S → Prop} {x1 x2 : Int32} (I : INV g) (k : ∀ r g1, (∀ K7 : Int32 → pg_S → Prop, (∀ g2, INV g2 → K7 r g2) → pg_Cal sc 3 mX7_peg [.ref 59, .int x1, .int x2] g1 (pg_ki K7)) → K r g1) : pg_Cal sc 2 mX6_peg [.ref 0, .int x1, .int x2] g (pg_ki K) := by
  obtain ⟨T, n, c, m, wf⟩ := I.1
  by_cases hc : UP x1 5 ∧ UP x2 1
  · refine tX6_peg c wf (fun q => absurd hc q) (by
      intros
      refine k _ g (fun K7 k7 => ?_)
      refine tX7_peg m wf (fun q => absurd hc q) (by intros; exact k7 g I))
  · refine tX6_peg c wf (fun _ => ?_) (by intros; exact absurd (by first | assumption | exact ⟨by assumption, by assumption⟩ | exact ⟨by assumption, by assumption, by assumption⟩ | exact ⟨⟨by assumption, by assumption, by assumption⟩, by assumption⟩) hc)
    refine k _ g (fun K7 k7 => ?_)
    exact tX7_peg m wf (fun _ => k7 g I) (by intros; exact absurd (by first | assumption | exact ⟨by assumption, by assumption⟩ | exact ⟨by assumption, by assumption, by assumption⟩ | exact ⟨⟨by assumption, by assumption, by assumption⟩, by assumption⟩) hc)
theorem sy_circle {sc : pg_Sc} {g : pg_S} {K : Int32 → pg_S → Prop} {x1 : Int32} (I : INV g) (k : ∀ r g1, (∀ K7 : Int32 → pg_S → Prop, (∀ g2, INV g2 → K7 r g2) → pg_Cal sc 3 mX7_circle [.ref 59, .int x1] g1 (pg_ki K7)) → K r g1) : pg_Cal sc 2 mX6_circle [.ref 0, .int x1] g (pg_ki K) := by
  obtain ⟨T, n, c, m, wf⟩ := I.1
  by_cases hc : PP n x1
  · refine tX6_circle c wf (fun q => absurd hc q) (by
      intros
      refine k _ g (fun K7 k7 => ?_)
      refine tX7_circle m wf (fun q => absurd hc q) (by intros; rw [← circ_8 wf (by obtain ⟨p, hp, rfl⟩ := pp_ex hc; have := wf.1; rw [show pn (nI p) = p from nI_clamp (by omega)]; exact hp)]; exact k7 g I))
  · refine tX6_circle c wf (fun _ => ?_) (by intros; exact absurd (by first | assumption | exact ⟨by assumption, by assumption⟩ | exact ⟨by assumption, by assumption, by assumption⟩ | exact ⟨⟨by assumption, by assumption, by assumption⟩, by assumption⟩) hc)
    refine k _ g (fun K7 k7 => ?_)
    exact tX7_circle m wf (fun _ => k7 g I) (by intros; exact absurd (by first | assumption | exact ⟨by assumption, by assumption⟩ | exact ⟨by assumption, by assumption, by assumption⟩ | exact ⟨⟨by assumption, by assumption, by assumption⟩, by assumption⟩) hc)
theorem sy_odds {sc : pg_Sc} {g : pg_S} {K : Int64 → pg_S → Prop} {x1 x2 x3 : Int32} (I : INV g) (k : ∀ r g1, (∀ K7 : Int64 → pg_S → Prop, (∀ g2, INV g2 → K7 r g2) → pg_Cal sc 2 mX7_odds [.ref 59, .int x1, .int x2, .int x3] g1 (pg_kl K7)) → K r g1) : pg_Cal sc 3 mX6_odds [.ref 0, .int x1, .int x2, .int x3] g (pg_kl K) := by
  obtain ⟨T, n, c, m, wf⟩ := I.1
  by_cases hc : UP x1 8 ∧ UP x2 x1 ∧ UP x3 1
  · refine tX6_odds c wf (fun q => absurd hc q) (by
      intros
      refine k _ g (fun K7 k7 => ?_)
      refine tX7_odds m wf (fun q => absurd hc q) (by intros; exact k7 g I))
  · refine tX6_odds c wf (fun _ => ?_) (by intros; exact absurd (by first | assumption | exact ⟨by assumption, by assumption⟩ | exact ⟨by assumption, by assumption, by assumption⟩ | exact ⟨⟨by assumption, by assumption, by assumption⟩, by assumption⟩) hc)
    refine k _ g (fun K7 k7 => ?_)
    exact tX7_odds m wf (fun _ => k7 g I) (by intros; exact absurd (by first | assumption | exact ⟨by assumption, by assumption⟩ | exact ⟨by assumption, by assumption, by assumption⟩ | exact ⟨⟨by assumption, by assumption, by assumption⟩, by assumption⟩) hc)
theorem sy_hope {sc : pg_Sc} {g : pg_S} {K : Int64 → pg_S → Prop} {x1 x2 : Int32} (I : INV g) (k : ∀ r g1, (∀ K7 : Int64 → pg_S → Prop, (∀ g2, INV g2 → K7 r g2) → pg_Cal sc 2 mX7_hope [.ref 59, .int x1, .int x2] g1 (pg_kl K7)) → K r g1) : pg_Cal sc 3 mX6_hope [.ref 0, .int x1, .int x2] g (pg_kl K) := by
  obtain ⟨T, n, c, m, wf⟩ := I.1
  by_cases hc : UP x1 99 ∧ UP x2 1
  · refine tX6_hope c wf (fun q => absurd hc q) (by
      intros
      refine k _ g (fun K7 k7 => ?_)
      refine tX7_hope m wf (fun q => absurd hc q) (by intros; exact k7 g I))
  · refine tX6_hope c wf (fun _ => ?_) (by intros; exact absurd (by first | assumption | exact ⟨by assumption, by assumption⟩ | exact ⟨by assumption, by assumption, by assumption⟩ | exact ⟨⟨by assumption, by assumption, by assumption⟩, by assumption⟩) hc)
    refine k _ g (fun K7 k7 => ?_)
    exact tX7_hope m wf (fun _ => k7 g I) (by intros; exact absurd (by first | assumption | exact ⟨by assumption, by assumption⟩ | exact ⟨by assumption, by assumption, by assumption⟩ | exact ⟨⟨by assumption, by assumption, by assumption⟩, by assumption⟩) hc)
theorem sy_state {sc : pg_Sc} {g : pg_S} {K : Int32 → pg_S → Prop} {x1 : Int32} (I : INV g) (k : ∀ r g1, (∀ K7 : Int32 → pg_S → Prop, (∀ g2, INV g2 → K7 r g2) → pg_Cal sc 4 mX7_state [.ref 59, .int x1] g1 (pg_ki K7)) → K r g1) : pg_Cal sc 4 mX6_state [.ref 0, .int x1] g (pg_ki K) := by
  obtain ⟨T, n, c, m, wf⟩ := I.1
  refine tX6_state c wf (k _ g (fun K7 k7 => tX7_state m wf ?_))
  rw [← state_8 wf]
  exact k7 g I
theorem sy_many {sc : pg_Sc} {g : pg_S} {K : Int32 → pg_S → Prop} {x1 : Int32} (I : INV g) (k : ∀ r g1, (∀ K7 : Int32 → pg_S → Prop, (∀ g2, INV g2 → K7 r g2) → pg_Cal sc 4 mX7_many [.ref 59, .int x1] g1 (pg_ki K7)) → K r g1) : pg_Cal sc 2 mX6_many [.ref 0, .int x1] g (pg_ki K) := by
  obtain ⟨T, n, c, m, wf⟩ := I.1
  obtain ⟨R, _, r1, r2, _⟩ := I.2.2.1
  obtain ⟨B, L, t1, t2⟩ := I.2.1
  obtain ⟨r, _, a1, a2, _⟩ := I.2.2.2.2.2.1
  refine tX6_many c wf (k _ g (fun K7 k7 => tX7_many m wf ?_))
  rw [← pegs_6 wf, r2, a2, t2.1, ← r1, ← a1, ← t1.1]
  exact k7 g I
theorem sy_set {sc : pg_Sc} {g : pg_S} {K : Int32 → pg_S → Prop} {x1 x2 : Int32} (I : INV g) (k : ∀ r g1, (∀ K7 : Int32 → pg_S → Prop, (∀ g2, INV g2 → K7 r g2) → pg_Cal sc 2 mX7_set [.ref 59, .int x1, .int x2] g1 (pg_ki K7)) → K r g1) : pg_Cal sc 2 mX6_set [.ref 0, .int x1, .int x2] g (pg_ki K) := by
  obtain ⟨T, n, c, m, wf⟩ := I.1
  by_cases hc : UP x1 3 ∧ UP x2 (mstF x1)
  · refine tX6_set c wf (fun q => absurd hc q) (fun _ _ g1 c1 f1 => ?_)
    refine k _ g1 (fun K7 k7 => ?_)
    refine tX7_set (m.fr f1 (by decide)) wf (fun q => absurd hc q) (fun _ _ g2 m2 f2 => k7 g2 ?_)
    refine I.now (c1.fr f2 (by decide)) m2 ?_ (Ch.tr (Ch.fr f1 (by decide)) (Ch.fr f2 (by decide))) (by decide) (by decide) rfl
    obtain ⟨p, hp, rfl⟩ := up_ex (x := x1) 3 rfl (by decide) hc.1
    rw [show pn (nI p) = p from nI_clamp (by omega)]
    have e : mstF (nI p) = nI (mstN p) := mst_m p (by omega)
    have hb : mstN p < 2 ^ 31 := by have := (mst_n p (by omega)).2; omega
    obtain ⟨q, hq, rfl⟩ := up_ex (mstN p) e hb hc.2
    exact wf.law (by omega) hq
  · refine tX6_set c wf (fun _ => ?_) (by intros; exact absurd (by first | assumption | exact ⟨by assumption, by assumption⟩ | exact ⟨by assumption, by assumption, by assumption⟩ | exact ⟨⟨by assumption, by assumption, by assumption⟩, by assumption⟩) hc)
    refine k _ g (fun K7 k7 => ?_)
    exact tX7_set m wf (fun _ => k7 g I) (by intros; exact absurd (by first | assumption | exact ⟨by assumption, by assumption⟩ | exact ⟨by assumption, by assumption, by assumption⟩ | exact ⟨⟨by assumption, by assumption, by assumption⟩, by assumption⟩) hc)
theorem sy_mind {sc : pg_Sc} {g : pg_S} {K : Int32 → pg_S → Prop} {x1 x2 x3 : Int32} (I : INV g) (k : ∀ r g1, (∀ K7 : Int32 → pg_S → Prop, (∀ g2, INV g2 → K7 r g2) → pg_Cal sc 4 mX7_mind [.ref 59, .int x1, .int x2, .int x3] g1 (pg_ki K7)) → K r g1) : pg_Cal sc 2 mX6_mind [.ref 0, .int x1, .int x2, .int x3] g (pg_ki K) := by
  obtain ⟨T, n, c, m, wf⟩ := I.1
  by_cases hc : PP n x1 ∧ UP x2 5 ∧ UP x3 5
  · refine tX6_mind c wf (fun q => absurd hc q) (fun _ _ _ g1 c1 f1 => ?_)
    refine k _ g1 (fun K7 k7 => ?_)
    refine tX7_mind (m.fr f1 (by decide)) wf (fun q => absurd hc q) (fun _ _ _ g2 m2 f2 => k7 g2 ?_)
    refine I.now (c1.fr f2 (by decide)) m2 ?_ (Ch.tr (Ch.fr f1 (by decide)) (Ch.fr f2 (by decide))) (by decide) (by decide) rfl
    obtain ⟨a, ha, rfl⟩ := up_ex (x := x2) 5 rfl (by decide) hc.2.1
    obtain ⟨b, hb, rfl⟩ := up_ex (x := x3) 5 rfl (by decide) hc.2.2
    exact (wf.tu2 (by omega)).tu3 (by omega)
  · refine tX6_mind c wf (fun _ => ?_) (by intros; exact absurd (by first | assumption | exact ⟨by assumption, by assumption⟩ | exact ⟨by assumption, by assumption, by assumption⟩ | exact ⟨⟨by assumption, by assumption, by assumption⟩, by assumption⟩) hc)
    refine k _ g (fun K7 k7 => ?_)
    exact tX7_mind m wf (fun _ => k7 g I) (by intros; exact absurd (by first | assumption | exact ⟨by assumption, by assumption⟩ | exact ⟨by assumption, by assumption, by assumption⟩ | exact ⟨⟨by assumption, by assumption, by assumption⟩, by assumption⟩) hc)
theorem sy_age {sc : pg_Sc} {g : pg_S} {K : Int32 → pg_S → Prop} {x1 x2 : Int32} (I : INV g) (k : ∀ r g1, (∀ K7 : Int32 → pg_S → Prop, (∀ g2, INV g2 → K7 r g2) → pg_Cal sc 3 mX7_age [.ref 59, .int x1, .int x2] g1 (pg_ki K7)) → K r g1) : pg_Cal sc 2 mX6_age [.ref 0, .int x1, .int x2] g (pg_ki K) := by
  obtain ⟨T, n, c, m, wf⟩ := I.1
  by_cases hc : PP n x1 ∧ UP x2 99
  · refine tX6_age c wf (fun q => absurd hc q) (fun _ _ g1 c1 f1 => ?_)
    refine k _ g1 (fun K7 k7 => ?_)
    refine tX7_age (m.fr f1 (by decide)) wf (fun q => absurd hc q) (fun _ _ g2 m2 f2 => k7 g2 ?_)
    refine I.now (c1.fr f2 (by decide)) m2 ?_ (Ch.tr (Ch.fr f1 (by decide)) (Ch.fr f2 (by decide))) (by decide) (by decide) rfl
    obtain ⟨a, ha, rfl⟩ := up_ex (x := x2) 99 rfl (by decide) hc.2
    exact wf.tu4 ha
  · refine tX6_age c wf (fun _ => ?_) (by intros; exact absurd (by first | assumption | exact ⟨by assumption, by assumption⟩ | exact ⟨by assumption, by assumption, by assumption⟩ | exact ⟨⟨by assumption, by assumption, by assumption⟩, by assumption⟩) hc)
    refine k _ g (fun K7 k7 => ?_)
    exact tX7_age m wf (fun _ => k7 g I) (by intros; exact absurd (by first | assumption | exact ⟨by assumption, by assumption⟩ | exact ⟨by assumption, by assumption, by assumption⟩ | exact ⟨⟨by assumption, by assumption, by assumption⟩, by assumption⟩) hc)
theorem sy_bring {sc : pg_Sc} {g : pg_S} {K : Int32 → pg_S → Prop} {x1 x2 : Int32} (I : INV g) (k : ∀ r g1, (∀ K7 : Int32 → pg_S → Prop, (∀ g2, INV g2 → K7 r g2) → pg_Cal sc 3 mX7_bring [.ref 59, .int x1, .int x2] g1 (pg_ki K7)) → K r g1) : pg_Cal sc 2 mX6_bring [.ref 0, .int x1, .int x2] g (pg_ki K) := by
  obtain ⟨T, n, c, m, wf⟩ := I.1
  by_cases hc : PP n x1 ∧ UP x2 11
  · refine tX6_bring c wf (fun q => absurd hc q) (fun _ _ g1 c1 f1 => ?_)
    refine k _ g1 (fun K7 k7 => ?_)
    refine tX7_bring (m.fr f1 (by decide)) wf (fun q => absurd hc q) (fun _ _ g2 m2 f2 => k7 g2 ?_)
    refine I.now (c1.fr f2 (by decide)) m2 ?_ (Ch.tr (Ch.fr f1 (by decide)) (Ch.fr f2 (by decide))) (by decide) (by decide) rfl
    obtain ⟨a, ha, rfl⟩ := up_ex (x := x2) 11 rfl (by decide) hc.2
    exact wf.tu5 (by omega)
  · refine tX6_bring c wf (fun _ => ?_) (by intros; exact absurd (by first | assumption | exact ⟨by assumption, by assumption⟩ | exact ⟨by assumption, by assumption, by assumption⟩ | exact ⟨⟨by assumption, by assumption, by assumption⟩, by assumption⟩) hc)
    refine k _ g (fun K7 k7 => ?_)
    exact tX7_bring m wf (fun _ => k7 g I) (by intros; exact absurd (by first | assumption | exact ⟨by assumption, by assumption⟩ | exact ⟨by assumption, by assumption, by assumption⟩ | exact ⟨⟨by assumption, by assumption, by assumption⟩, by assumption⟩) hc)
theorem sy_weigh {sc : pg_Sc} {g : pg_S} {K : Int32 → pg_S → Prop} {x1 x2 : Int32} (I : INV g) (k : ∀ r g1, (∀ K7 : Int32 → pg_S → Prop, (∀ g2, INV g2 → K7 r g2) → pg_Cal sc 3 mX7_weigh [.ref 59, .int x1, .int x2] g1 (pg_ki K7)) → K r g1) : pg_Cal sc 2 mX6_weigh [.ref 0, .int x1, .int x2] g (pg_ki K) := by
  obtain ⟨T, n, c, m, wf⟩ := I.1
  by_cases hc : UP x1 5 ∧ UP x2 99
  · refine tX6_weigh c wf (fun q => absurd hc q) (fun _ _ g1 c1 f1 => ?_)
    refine k _ g1 (fun K7 k7 => ?_)
    refine tX7_weigh (m.fr f1 (by decide)) wf (fun q => absurd hc q) (fun _ _ g2 m2 f2 => k7 g2 ?_)
    refine I.now (c1.fr f2 (by decide)) m2 ?_ (Ch.tr (Ch.fr f1 (by decide)) (Ch.fr f2 (by decide))) (by decide) (by decide) rfl
    obtain ⟨a, ha, rfl⟩ := up_ex (x := x2) 99 rfl (by decide) hc.2
    exact wf.wei ha
  · refine tX6_weigh c wf (fun _ => ?_) (by intros; exact absurd (by first | assumption | exact ⟨by assumption, by assumption⟩ | exact ⟨by assumption, by assumption, by assumption⟩ | exact ⟨⟨by assumption, by assumption, by assumption⟩, by assumption⟩) hc)
    refine k _ g (fun K7 k7 => ?_)
    exact tX7_weigh m wf (fun _ => k7 g I) (by intros; exact absurd (by first | assumption | exact ⟨by assumption, by assumption⟩ | exact ⟨by assumption, by assumption, by assumption⟩ | exact ⟨⟨by assumption, by assumption, by assumption⟩, by assumption⟩) hc)
theorem sy_know {sc : pg_Sc} {g : pg_S} {K : Int32 → pg_S → Prop} {x1 x2 x3 : Int32} (I : INV g) (k : ∀ r g1, (∀ K7 : Int32 → pg_S → Prop, (∀ g2, INV g2 → K7 r g2) → pg_Cal sc 3 mX7_know [.ref 59, .int x1, .int x2, .int x3] g1 (pg_ki K7)) → K r g1) : pg_Cal sc 3 mX6_know [.ref 0, .int x1, .int x2, .int x3] g (pg_ki K) := by
  obtain ⟨T, n, c, m, wf⟩ := I.1
  by_cases hc : (PP n x1 ∧ PP n x2 ∧ ¬ x1 = x2) ∧ UP x3 1
  · refine tX6_know c wf (fun q => absurd hc q) (fun _ _ _ _ g1 c1 f1 => ?_)
    refine k _ g1 (fun K7 k7 => ?_)
    refine tX7_know (m.fr f1 (by decide)) wf (fun q => absurd hc q) (fun _ _ _ _ g2 m2 f2 => k7 g2 ?_)
    refine I.now (c1.fr f2 (by decide)) m2 ?_ (Ch.tr (Ch.fr f1 (by decide)) (Ch.fr f2 (by decide))) (by decide) (by decide) rfl
    have w8 := wf.1
    obtain ⟨p, hp, rfl⟩ := pp_ex (x := x1) hc.1.1
    obtain ⟨q, hq, rfl⟩ := pp_ex (x := x2) hc.1.2.1
    rw [show pn (nI p) = p from nI_clamp (by omega)]
    rw [show pn (nI q) = q from nI_clamp (by omega)]
    split
    · exact wf.acq hp hq
    · exact wf.est hp hq
  · refine tX6_know c wf (fun _ => ?_) (by intros; exact absurd (by first | assumption | exact ⟨by assumption, by assumption⟩ | exact ⟨by assumption, by assumption, by assumption⟩ | exact ⟨⟨by assumption, by assumption, by assumption⟩, by assumption⟩) hc)
    refine k _ g (fun K7 k7 => ?_)
    exact tX7_know m wf (fun _ => k7 g I) (by intros; exact absurd (by first | assumption | exact ⟨by assumption, by assumption⟩ | exact ⟨by assumption, by assumption, by assumption⟩ | exact ⟨⟨by assumption, by assumption, by assumption⟩, by assumption⟩) hc)
theorem sy_hours {sc : pg_Sc} {g : pg_S} {K : Int32 → pg_S → Prop} {x1 : Int32} (I : INV g) (k : ∀ r g1, (∀ K7 : Int32 → pg_S → Prop, (∀ g2, INV g2 → K7 r g2) → pg_Cal sc 5 mX7_hours [.ref 59, .int x1] g1 (pg_ki K7)) → K r g1) : pg_Cal sc 5 mX6_hours [.ref 0, .int x1] g (pg_ki K) := by
  obtain ⟨T, n, c, m, wf⟩ := I.1
  by_cases hc : IN x1 1 60
  · refine tX6_hours c wf (fun q => absurd hc q) (fun _ g1 c1 f1 => ?_)
    refine k _ g1 (fun K7 k7 => ?_)
    refine tX7_hours (m.fr f1 (by decide)) wf (fun q => absurd hc q) (fun _ g2 m2 f2 => k7 g2 ?_)
    refine I.now (c1.fr f2 (by decide)) m2 ?_ (Ch.tr (Ch.fr f1 (by decide)) (Ch.fr f2 (by decide))) (by decide) (by decide) rfl
    exact wf.hours _
  · refine tX6_hours c wf (fun _ => ?_) (by intros; exact absurd (by first | assumption | exact ⟨by assumption, by assumption⟩ | exact ⟨by assumption, by assumption, by assumption⟩ | exact ⟨⟨by assumption, by assumption, by assumption⟩, by assumption⟩) hc)
    refine k _ g (fun K7 k7 => ?_)
    exact tX7_hours m wf (fun _ => k7 g I) (by intros; exact absurd (by first | assumption | exact ⟨by assumption, by assumption⟩ | exact ⟨by assumption, by assumption, by assumption⟩ | exact ⟨⟨by assumption, by assumption, by assumption⟩, by assumption⟩) hc)
theorem sy_seed {sc : pg_Sc} {g : pg_S} {K : Int32 → pg_S → Prop} {x1 : Int32} (I : INV g) (k : ∀ r g1, (∀ K7 : Int32 → pg_S → Prop, (∀ g2, INV g2 → K7 r g2) → pg_Cal sc 2 mX7_seed [.ref 59, .int x1] g1 (pg_ki K7)) → K r g1) : pg_Cal sc 1 mX6_seed [.ref 0, .int x1] g (pg_ki K) := by
  obtain ⟨T, n, c, m, wf⟩ := I.1
  refine tX6_seed c wf (fun g1 c1 f1 => ?_)
  refine k _ g1 (fun K7 k7 => ?_)
  refine tX7_seed (m.fr f1 (by decide)) wf (fun g2 m2 f2 => k7 g2 ?_)
  exact I.now (c1.fr f2 (by decide)) m2 wf.tu8 (Ch.tr (Ch.fr f1 (by decide)) (Ch.fr f2 (by decide))) (by decide) (by decide) rfl
theorem sy_hour {sc : pg_Sc} {g : pg_S} {K : Int32 → pg_S → Prop} (I : INV g) (k : ∀ r g1, (∀ K7 : Int32 → pg_S → Prop, (∀ g2, INV g2 → K7 r g2) → pg_Cal sc 6 mX7_hour [.ref 59] g1 (pg_ki K7)) → K r g1) : pg_Cal sc 5 mX6_hour [.ref 0] g (pg_ki K) := by
  obtain ⟨T, n, c, m, wf⟩ := I.1
  refine tX6_hour c wf (fun g1 c1 f1 => ?_)
  refine k _ g1 (fun K7 k7 => ?_)
  refine tX7_hour (m.fr f1 (by decide)) wf (fun g2 m2 f2 => k7 g2 ?_)
  exact I.now (c1.fr f2 (by decide)) m2 (wf.draw).hour (Ch.tr (Ch.fr f1 (by decide)) (Ch.fr f2 (by decide))) (by decide) (by decide) rfl
theorem sy_person {sc : pg_Sc} {g : pg_S} {K : Int32 → pg_S → Prop} {x1 x2 x3 x4 : Int32} (I : INV g) (k : ∀ r g1, (∀ K7 : Int32 → pg_S → Prop, (∀ g2, INV g2 → K7 r g2) → pg_Cal sc 4 mX7_person [.ref 59, .int x1, .int x2, .int x3, .int x4] g1 (pg_ki K7)) → K r g1) : pg_Cal sc 2 mX6_person [.ref 0, .int x1, .int x2, .int x3, .int x4] g (pg_ki K) := by
  obtain ⟨T, n, c, m, wf⟩ := I.1
  by_cases hc : UP x1 5 ∧ UP x2 5 ∧ UP x3 99 ∧ UP x4 11
  · by_cases h8 : n = 8
    · refine tX6_person c wf (fun q => absurd hc q) (fun _ _ => ?_) (fun _ q => absurd q (by omega))
      refine k _ g (fun K7 k7 => ?_)
      exact tX7_person m wf (fun q => absurd hc q) (fun _ _ => k7 g I) (fun _ q => absurd q (by omega))
    · have hn : n < 8 := by have := wf.1; omega
      refine tX6_person c wf (fun q => absurd hc q) (fun _ q => absurd q h8) (fun _ _ g1 c1 f1 => ?_)
      refine k _ g1 (fun K7 k7 => ?_)
      refine tX7_person (m.fr f1 (by decide)) wf (fun q => absurd hc q) (fun _ q => absurd q h8) (fun _ _ g2 m2 f2 => k7 g2 ?_)
      refine I.now (c1.fr f2 (by decide)) m2 ?_ (Ch.tr (Ch.fr f1 (by decide)) (Ch.fr f2 (by decide))) (by decide) (by decide) rfl
      obtain ⟨a, ha, rfl⟩ := up_ex (x := x1) 5 rfl (by decide) hc.1
      obtain ⟨b, hb, rfl⟩ := up_ex (x := x2) 5 rfl (by decide) hc.2.1
      obtain ⟨d, hd, rfl⟩ := up_ex (x := x3) 99 rfl (by decide) hc.2.2.1
      obtain ⟨e, he, rfl⟩ := up_ex (x := x4) 11 rfl (by decide) hc.2.2.2
      exact wf.adm hn (by omega) (by omega) hd (by omega)
  · refine tX6_person c wf (fun _ => ?_) (fun q => absurd q hc) (fun q => absurd q hc)
    refine k _ g (fun K7 k7 => ?_)
    exact tX7_person m wf (fun _ => k7 g I) (fun q => absurd q hc) (fun q => absurd q hc)
theorem sy_ahead {sc : pg_Sc} {g : pg_S} {K : Int32 → pg_S → Prop} {x1 x2 x3 : Int32} (I : INV g) (k : ∀ r g1, (∀ K7 : Int32 → pg_S → Prop, (∀ g2, INV g2 → K7 r g2) → pg_Cal sc 6 mX7_ahead [.ref 59, .int x1, .int x2, .int x3] g1 (pg_ki K7)) → K r g1) : pg_Cal sc 5 mX6_ahead [.ref 0, .int x1, .int x2, .int x3] g (pg_ki K) := by
  obtain ⟨T, n, c, m, wf⟩ := I.1
  by_cases hc : PP n x1 ∧ UP x2 60 ∧ UP x3 1
  · refine tX6_ahead c wf (fun q => absurd hc q) (fun _ _ _ g1 f1 => ?_)
    refine k _ g1 (fun K7 k7 => ?_)
    refine tX7_ahead (m.fr f1 (by decide)) wf (fun q => absurd hc q) (fun _ _ _ g2 m2 f2 => k7 g2 ?_)
    exact I.now ((c.fr f1 (by decide)).fm f2) m2 wf (Ch.tr (Ch.fr f1 (by decide)) (Ch.fm f2)) (by decide) (by decide) rfl
  · refine tX6_ahead c wf (fun _ => ?_) (by intros; exact absurd (by first | assumption | exact ⟨by assumption, by assumption⟩ | exact ⟨by assumption, by assumption, by assumption⟩ | exact ⟨⟨by assumption, by assumption, by assumption⟩, by assumption⟩) hc)
    refine k _ g (fun K7 k7 => ?_)
    exact tX7_ahead m wf (fun _ => k7 g I) (by intros; exact absurd (by first | assumption | exact ⟨by assumption, by assumption⟩ | exact ⟨by assumption, by assumption, by assumption⟩ | exact ⟨⟨by assumption, by assumption, by assumption⟩, by assumption⟩) hc)
theorem sy_meet {sc : pg_Sc} {g : pg_S} {K : Int32 → pg_S → Prop} {x1 x2 : Int32} (I : INV g) (k : ∀ r g1, (∀ K7 : Int32 → pg_S → Prop, (∀ g2, INV g2 → K7 r g2) → pg_Cal sc 5 mX7_meet [.ref 59, .int x1, .int x2] g1 (pg_ki K7)) → K r g1) : pg_Cal sc 4 mX6_meet [.ref 0, .int x1, .int x2] g (pg_ki K) := by
  obtain ⟨T, n, c, m, wf⟩ := I.1
  by_cases hc : PP n x1 ∧ PP n x2 ∧ ¬ x1 = x2
  · refine tX6_meet c wf (fun q => absurd hc q) (fun _ _ _ g1 f1 => ?_)
    refine k _ g1 (fun K7 k7 => ?_)
    refine tX7_meet (m.fr f1 (by decide)) wf (fun q => absurd hc q) (fun _ _ _ g2 m2 f2 => k7 g2 ?_)
    exact I.now ((c.fr f1 (by decide)).fm f2) m2 wf (Ch.tr (Ch.fr f1 (by decide)) (Ch.fm f2)) (by decide) (by decide) rfl
  · refine tX6_meet c wf (fun _ => ?_) (by intros; exact absurd (by first | assumption | exact ⟨by assumption, by assumption⟩ | exact ⟨by assumption, by assumption, by assumption⟩ | exact ⟨⟨by assumption, by assumption, by assumption⟩, by assumption⟩) hc)
    refine k _ g (fun K7 k7 => ?_)
    exact tX7_meet m wf (fun _ => k7 g I) (by intros; exact absurd (by first | assumption | exact ⟨by assumption, by assumption⟩ | exact ⟨by assumption, by assumption, by assumption⟩ | exact ⟨⟨by assumption, by assumption, by assumption⟩, by assumption⟩) hc)
theorem sy_gather {sc : pg_Sc} {g : pg_S} {K : Int32 → pg_S → Prop} (I : INV g) (k : ∀ r g1, (∀ K7 : Int32 → pg_S → Prop, (∀ g2, INV g2 → K7 r g2) → pg_Cal sc 5 mX7_gather [.ref 59] g1 (pg_ki K7)) → K r g1) : pg_Cal sc 4 mX6_gather [.ref 0] g (pg_ki K) := by
  obtain ⟨T, n, c, m, wf⟩ := I.1
  refine tX6_gather c wf (fun  g1 f1 => ?_)
  refine k _ g1 (fun K7 k7 => ?_)
  refine tX7_gather (m.fr f1 (by decide)) wf (fun  g2 m2 f2 => k7 g2 ?_)
  exact I.now ((c.fr f1 (by decide)).fm f2) m2 wf (Ch.tr (Ch.fr f1 (by decide)) (Ch.fm f2)) (by decide) (by decide) rfl
theorem sy_alone {sc : pg_Sc} {g : pg_S} {K : Int32 → pg_S → Prop} {x1 : Int32} (I : INV g) (k : ∀ r g1, (∀ K7 : Int32 → pg_S → Prop, (∀ g2, INV g2 → K7 r g2) → pg_Cal sc 5 mX7_alone [.ref 59, .int x1] g1 (pg_ki K7)) → K r g1) : pg_Cal sc 4 mX6_alone [.ref 0, .int x1] g (pg_ki K) := by
  obtain ⟨T, n, c, m, wf⟩ := I.1
  by_cases hc : PP n x1
  · refine tX6_alone c wf (fun q => absurd hc q) (fun _ g1 f1 => ?_)
    refine k _ g1 (fun K7 k7 => ?_)
    refine tX7_alone (m.fr f1 (by decide)) wf (fun q => absurd hc q) (fun _ g2 m2 f2 => k7 g2 ?_)
    exact I.now ((c.fr f1 (by decide)).fm f2) m2 wf (Ch.tr (Ch.fr f1 (by decide)) (Ch.fm f2)) (by decide) (by decide) rfl
  · refine tX6_alone c wf (fun _ => ?_) (by intros; exact absurd (by first | assumption | exact ⟨by assumption, by assumption⟩ | exact ⟨by assumption, by assumption, by assumption⟩ | exact ⟨⟨by assumption, by assumption, by assumption⟩, by assumption⟩) hc)
    refine k _ g (fun K7 k7 => ?_)
    exact tX7_alone m wf (fun _ => k7 g I) (by intros; exact absurd (by first | assumption | exact ⟨by assumption, by assumption⟩ | exact ⟨by assumption, by assumption, by assumption⟩ | exact ⟨⟨by assumption, by assumption, by assumption⟩, by assumption⟩) hc)
theorem sy_pegFor {sc : pg_Sc} {g : pg_S} {K : Int32 → pg_S → Prop} {x1 x2 : Int32} (I : INV g) (k : ∀ r g1, (∀ K7 : Int32 → pg_S → Prop, (∀ g2, INV g2 → K7 r g2) → pg_Cal sc 7 mX7_pegFor [.ref 59, .int x1, .int x2] g1 (pg_ki K7)) → K r g1) : pg_Cal sc 6 mX6_pegFor [.ref 0, .int x1, .int x2] g (pg_ki K) := by
  obtain ⟨T, n, c, m, wf⟩ := I.1
  by_cases hc : PP n x1 ∧ IN x2 1 20
  · refine tX6_pegFor c wf (fun q => absurd hc q) (fun _ _ g1 f1 => ?_)
    refine k _ g1 (fun K7 k7 => ?_)
    refine tX7_pegFor (m.fr f1 (by decide)) wf (fun q => absurd hc q) (fun _ _ g2 m2 f2 => k7 g2 ?_)
    exact I.now ((c.fr f1 (by decide)).fm f2) m2 wf (Ch.tr (Ch.fr f1 (by decide)) (Ch.fm f2)) (by decide) (by decide) rfl
  · refine tX6_pegFor c wf (fun _ => ?_) (by intros; exact absurd (by first | assumption | exact ⟨by assumption, by assumption⟩ | exact ⟨by assumption, by assumption, by assumption⟩ | exact ⟨⟨by assumption, by assumption, by assumption⟩, by assumption⟩) hc)
    refine k _ g (fun K7 k7 => ?_)
    exact tX7_pegFor m wf (fun _ => k7 g I) (by intros; exact absurd (by first | assumption | exact ⟨by assumption, by assumption⟩ | exact ⟨by assumption, by assumption, by assumption⟩ | exact ⟨⟨by assumption, by assumption, by assumption⟩, by assumption⟩) hc)
theorem sy_kindFor {sc : pg_Sc} {g : pg_S} {K : Int32 → pg_S → Prop} {x1 x2 : Int32} (I : INV g) (k : ∀ r g1, (∀ K7 : Int32 → pg_S → Prop, (∀ g2, INV g2 → K7 r g2) → pg_Cal sc 7 mX7_kindFor [.ref 59, .int x1, .int x2] g1 (pg_ki K7)) → K r g1) : pg_Cal sc 6 mX6_kindFor [.ref 0, .int x1, .int x2] g (pg_ki K) := by
  obtain ⟨T, n, c, m, wf⟩ := I.1
  by_cases hc : PP n x1 ∧ IN x2 1 20
  · refine tX6_kindFor c wf (fun q => absurd hc q) (fun _ _ g1 f1 => ?_)
    refine k _ g1 (fun K7 k7 => ?_)
    refine tX7_kindFor (m.fr f1 (by decide)) wf (fun q => absurd hc q) (fun _ _ g2 m2 f2 => k7 g2 ?_)
    exact I.now ((c.fr f1 (by decide)).fm f2) m2 wf (Ch.tr (Ch.fr f1 (by decide)) (Ch.fm f2)) (by decide) (by decide) rfl
  · refine tX6_kindFor c wf (fun _ => ?_) (by intros; exact absurd (by first | assumption | exact ⟨by assumption, by assumption⟩ | exact ⟨by assumption, by assumption, by assumption⟩ | exact ⟨⟨by assumption, by assumption, by assumption⟩, by assumption⟩) hc)
    refine k _ g (fun K7 k7 => ?_)
    exact tX7_kindFor m wf (fun _ => k7 g I) (by intros; exact absurd (by first | assumption | exact ⟨by assumption, by assumption⟩ | exact ⟨by assumption, by assumption, by assumption⟩ | exact ⟨⟨by assumption, by assumption, by assumption⟩, by assumption⟩) hc)
theorem sy_placeFor {sc : pg_Sc} {g : pg_S} {K : Int32 → pg_S → Prop} {x1 x2 : Int32} (I : INV g) (k : ∀ r g1, (∀ K7 : Int32 → pg_S → Prop, (∀ g2, INV g2 → K7 r g2) → pg_Cal sc 7 mX7_placeFor [.ref 59, .int x1, .int x2] g1 (pg_ki K7)) → K r g1) : pg_Cal sc 6 mX6_placeFor [.ref 0, .int x1, .int x2] g (pg_ki K) := by
  obtain ⟨T, n, c, m, wf⟩ := I.1
  by_cases hc : PP n x1 ∧ IN x2 1 20
  · refine tX6_placeFor c wf (fun q => absurd hc q) (fun _ _ g1 f1 => ?_)
    refine k _ g1 (fun K7 k7 => ?_)
    refine tX7_placeFor (m.fr f1 (by decide)) wf (fun q => absurd hc q) (fun _ _ g2 m2 f2 => k7 g2 ?_)
    exact I.now ((c.fr f1 (by decide)).fm f2) m2 wf (Ch.tr (Ch.fr f1 (by decide)) (Ch.fm f2)) (by decide) (by decide) rfl
  · refine tX6_placeFor c wf (fun _ => ?_) (by intros; exact absurd (by first | assumption | exact ⟨by assumption, by assumption⟩ | exact ⟨by assumption, by assumption, by assumption⟩ | exact ⟨⟨by assumption, by assumption, by assumption⟩, by assumption⟩) hc)
    refine k _ g (fun K7 k7 => ?_)
    exact tX7_placeFor m wf (fun _ => k7 g I) (by intros; exact absurd (by first | assumption | exact ⟨by assumption, by assumption⟩ | exact ⟨by assumption, by assumption, by assumption⟩ | exact ⟨⟨by assumption, by assumption, by assumption⟩, by assumption⟩) hc)
theorem sy_found {sc : pg_Sc} {g : pg_S} {K : Int32 → pg_S → Prop} {x1 : Int32} (I : INV g) (k : ∀ r g1, (∀ K7 : Int32 → pg_S → Prop, (∀ g2, INV g2 → K7 r g2) → pg_Cal sc 6 mX7_found [.ref 59, .int x1] g1 (pg_ki K7)) → K r g1) : pg_Cal sc 5 mX6_found [.ref 0, .int x1] g (pg_ki K) := by
  obtain ⟨T, n, c, m, wf⟩ := I.1
  by_cases hc : IN x1 1 30
  · refine tX6_found c wf (fun q => absurd hc q) (fun _ g1 f1 => ?_)
    refine k _ g1 (fun K7 k7 => ?_)
    refine tX7_found (m.fr f1 (by decide)) wf (fun q => absurd hc q) (fun _ g2 m2 f2 => k7 g2 ?_)
    exact I.now ((c.fr f1 (by decide)).fm f2) m2 wf (Ch.tr (Ch.fr f1 (by decide)) (Ch.fm f2)) (by decide) (by decide) rfl
  · refine tX6_found c wf (fun _ => ?_) (by intros; exact absurd (by first | assumption | exact ⟨by assumption, by assumption⟩ | exact ⟨by assumption, by assumption, by assumption⟩ | exact ⟨⟨by assumption, by assumption, by assumption⟩, by assumption⟩) hc)
    refine k _ g (fun K7 k7 => ?_)
    exact tX7_found m wf (fun _ => k7 g I) (by intros; exact absurd (by first | assumption | exact ⟨by assumption, by assumption⟩ | exact ⟨by assumption, by assumption, by assumption⟩ | exact ⟨⟨by assumption, by assumption, by assumption⟩, by assumption⟩) hc)
theorem sy_apart {sc : pg_Sc} {g : pg_S} {K : Int32 → pg_S → Prop} (I : INV g) (k : ∀ r g1, (∀ K7 : Int32 → pg_S → Prop, (∀ g2, INV g2 → K7 r g2) → pg_Cal sc 4 mX7_apart [.ref 59] g1 (pg_ki K7)) → K r g1) : pg_Cal sc 4 mX6_apart [.ref 0] g (pg_ki K) := by
  obtain ⟨T, n, c, m, wf⟩ := I.1
  refine tX6_apart c wf (fun  g1 f1 => ?_)
  refine k _ g1 (fun K7 k7 => ?_)
  refine tX7_apart (m.fr f1 (by decide)) wf (fun  g2 m2 f2 => k7 g2 ?_)
  exact I.now ((c.fr f1 (by decide)).fr f2 (by decide)) m2 wf (Ch.tr (Ch.fr f1 (by decide)) (Ch.fr f2 (by decide))) (by decide) (by decide) rfl
