abbrev SHO (x y z : Int32) : Prop := UP x 3 ∧ IN y (-1) 3 ∧ (y = -1 ∨ (z ≤ 40 ∧ 0 ≤ z))
def shA (x y z : Int32) : Int32 := if ¬ (UP x 3 ∧ IN y (-1) 3) then -1 else if y = -1 then 1 else if ¬ z ≤ 40 then -1 else if ¬ 0 ≤ z then -14 else 1
def ctF (y z : Int32) : Int32 := if y = -1 then 0 else z
theorem shA_1 {x y z : Int32} (h : ¬ (UP x 3 ∧ IN y (-1) 3)) : shA x y z = -1 := if_pos h
theorem shA_2 {x y z : Int32} (h : UP x 3 ∧ IN y (-1) 3) (h2 : ¬ y = -1) (h3 : ¬ z ≤ 40) : shA x y z = -1 := by unfold shA; rw [if_neg (fun q => q h), if_neg h2, if_pos h3]
theorem shA_3 {x y z : Int32} (h : UP x 3 ∧ IN y (-1) 3) (h2 : ¬ y = -1) (h3 : z ≤ 40) (h4 : ¬ 0 ≤ z) : shA x y z = -14 := by unfold shA; rw [if_neg (fun q => q h), if_neg h2, if_neg (fun q => q h3), if_pos h4]
theorem in_m1 {y : Int32} (h : IN y (-1) 3) : y < 0 ↔ y = -1 := by
  obtain ⟨h1, h2⟩ := h
  rw [Int32.le_iff_toInt_le, show (-1 : Int32).toInt = -1 from rfl] at h1
  rw [Int32.lt_iff_toInt_lt, ← Int32.toInt_inj, show (-1 : Int32).toInt = -1 from rfl, show (0 : Int32).toInt = 0 from rfl]
  omega
/-- what the reference's sheets alone change -/
def FJ (g g' : pg_S) : Prop := (∀ a, a ≠ 68 → a ≠ 69 → g'.1 a = g.1 a) ∧ ∀ a, a ≠ 70 → g'.2 a = g.2 a
set_option maxHeartbeats 4000000 in
set_option maxRecDepth 20000 in
theorem tX6_sheet {sc : pg_Sc} {g : pg_S} {K : Int32 → pg_S → Prop} {x y z : Int32} (k1 : ¬ SHO x y z → K (shA x y z) g) (k : UP x 3 → IN y (-1) 3 → (y = -1 ∨ (z ≤ 40 ∧ 0 ≤ z)) → ∀ g', g'.1 (45 + 2 * pn x) 1 = y → g'.1 (45 + 2 * pn x) 2 = ctF y z → (¬ y = -1 → ∀ j, j < 40 → g'.1 (46 + 2 * pn x) j = 0) → FR (45 + 2 * pn x) (47 + 2 * pn x) g g' → K 1 g') : pg_Cal sc 3 mX6_sheet [.ref 0, .int x, .int y, .int z] g (pg_ki K) := by
  refine pg_Cal.of rfl (Nat.le_of_ble_eq_true rfl) rfl ?_
  refine go_iload_n (pc' := 1) dX6_sheet_0 rfl rfl ?_
  refine go_cSi1 (pc' := 4) (M' := mX6_isSheet) (d' := 2) dX6_sheet_1 rfl csRX6_206 (by decide) rfl (Nat.le_of_ble_eq_true rfl) ?_
  refine tX6_isSheet ?_
  refine go_if_eq (pc' := 7) (tgt := 16) dX6_sheet_4 rfl (by decide) (fun h_4 => ?_) (fun h_4 => ?_)
  · have h_4 := pg_b0 h_4
    refine go_iconst (pc' := 17) (-1) dX6_sheet_16 rfl (by decide) ?_
    refine go_iret dX6_sheet_17 (pg_narI _) ?_
    rw [shA_1 (fun q => h_4 q.1)] at k1
    exact k1 (fun q => h_4 q.1)
  · have h_4 := pg_b1 h_4
    obtain ⟨s, hs, rfl⟩ := up_ex 3 rfl (by decide) h_4
    have es : pn (nI s) = s := nI_clamp (by omega)
    have hs4 : s < 4 := by omega
    rw [es] at k
    refine go_iload_n (pc' := 8) dX6_sheet_7 rfl rfl ?_
    refine go_iconst (pc' := 9) (-1) dX6_sheet_8 rfl (by decide) ?_
    refine go_iconst (pc' := 10) 3 dX6_sheet_9 rfl (by decide) ?_
    refine go_cSi3 (pc' := 13) (M' := mX6_between) (d' := 1) dX6_sheet_10 rfl csRX6_65 (by decide) rfl (Nat.le_of_ble_eq_true rfl) ?_
    refine tX6_between ?_
    refine go_if_ne (pc' := 16) (tgt := 18) dX6_sheet_13 rfl (by decide) (fun h_13 => ?_) (fun h_13 => ?_)
    · have h_13 := pg_b1 h_13
      refine go_iload_n (pc' := 19) dX6_sheet_18 rfl rfl ?_
      refine go_iconst (pc' := 20) (-1) dX6_sheet_19 rfl (by decide) ?_
      refine go_icmp_ne (pc' := 23) (tgt := 34) dX6_sheet_20 rfl (by decide) (fun h_20 => ?_) (fun h_20 => ?_)
      · refine go_iload_n (pc' := 35) dX6_sheet_34 rfl rfl ?_
        refine go_bipush (pc' := 37) 40 dX6_sheet_35 rfl (by decide) ?_
        refine go_icmp_le (pc' := 40) (tgt := 42) dX6_sheet_37 rfl (by decide) (fun h_37 => ?_) (fun h_37 => ?_)
        · refine go_iload_n (pc' := 43) dX6_sheet_42 rfl rfl ?_
          refine go_if_ge (pc' := 46) (tgt := 49) dX6_sheet_43 rfl (by decide) (fun h_43 => ?_) (fun h_43 => ?_)
          · refine go_aload_n (pc' := 50) dX6_sheet_49 rfl rfl ?_
            refine go_getR (pc' := 53) dX6_sheet_50 rfl flRX6_49 rfl rfl ?_
            refine go_iload_n (pc' := 54) dX6_sheet_53 rfl rfl ?_
            refine go_aald (pc' := 55) s dX6_sheet_54 rfl rfl (by decide) rfl hs4 (by decide) (sheet_rs s hs4) ?_
            refine go_iload_n (pc' := 56) dX6_sheet_55 rfl rfl ?_
            refine go_iload_n (pc' := 57) dX6_sheet_56 rfl rfl ?_
            refine go_cVv2 (pc' := 60) (M' := mX2_begin) (d' := 1) dX6_sheet_57 rfl cvRX6_262 (sheet_sh s hs4) rfl (by decide) rfl (Nat.le_of_ble_eq_true rfl) ?_
            refine tX2_begin hs4 (fun g1 a1 a2 z1 f1 => ?_)
            refine go_iconst (pc' := 61) 1 dX6_sheet_60 rfl (by decide) ?_
            refine go_iret dX6_sheet_61 (pg_narI _) ?_
            refine k h_4 h_13 (Or.inr ⟨h_37, h_43⟩) g1 a1 ?_ (fun _ => z1) f1
            rw [a2, ctF, if_neg h_20]
          · refine go_bipush (pc' := 48) (-14) dX6_sheet_46 rfl (by decide) ?_
            refine go_iret dX6_sheet_48 (pg_narI _) ?_
            rw [shA_3 ⟨h_4, h_13⟩ h_20 h_37 h_43] at k1
            exact k1 (fun q => q.2.2.elim h_20 (fun z => h_43 z.2))
        · refine go_iconst (pc' := 41) (-1) dX6_sheet_40 rfl (by decide) ?_
          refine go_iret dX6_sheet_41 (pg_narI _) ?_
          rw [shA_2 ⟨h_4, h_13⟩ h_20 h_37] at k1
          exact k1 (fun q => q.2.2.elim h_20 (fun z => h_37 z.1))
      · refine go_aload_n (pc' := 24) dX6_sheet_23 rfl rfl ?_
        refine go_getR (pc' := 27) dX6_sheet_24 rfl flRX6_49 rfl rfl ?_
        refine go_iload_n (pc' := 28) dX6_sheet_27 rfl rfl ?_
        refine go_aald (pc' := 29) s dX6_sheet_28 rfl rfl (by decide) rfl hs4 (by decide) (sheet_rs s hs4) ?_
        refine go_cVv0 (pc' := 32) (M' := mX2_lose) (d' := 1) dX6_sheet_29 rfl cvRX6_259 (sheet_sh s hs4) rfl (by decide) rfl (Nat.le_of_ble_eq_true rfl) ?_
        refine tX2_lose hs4 ?_
        refine go_iconst (pc' := 33) 1 dX6_sheet_32 rfl (by decide) ?_
        refine go_iret dX6_sheet_33 (pg_narI _) ?_
        refine k h_4 h_13 (Or.inl h_20) _ ?_ ?_ (fun q => absurd h_20 q) (FR.tr (FR.ui (by omega)) (FR.ui (by omega)))
        · rw [h_20]; simp [pg_ui_at]
        · rw [h_20]; simp [pg_ui_at, ctF]
    · have h_13 := pg_b0 h_13
      refine go_iconst (pc' := 17) (-1) dX6_sheet_16 rfl (by decide) ?_
      refine go_iret dX6_sheet_17 (pg_narI _) ?_
      rw [shA_1 (fun q => h_13 q.2)] at k1
      exact k1 (fun q => h_13 q.2.1)

set_option maxHeartbeats 4000000 in
set_option maxRecDepth 20000 in
theorem lmsh {sc : pg_Sc} {K : Int32 → pg_S → Prop} {s : Nat} {y z : Int32} (hs4 : s < 4) : ∀ (m : Nat) (i : Nat) (g : pg_S), i + m = 40 → (∀ j, j < i → g.2 70 (40 * s + j) = 0) → (∀ g', (∀ j, j < 40 → g'.2 70 (40 * s + j) = 0) → (∀ j, ¬ (40 * s ≤ j ∧ j < 40 * s + 40) → g'.2 70 j = g.2 70 j) → g'.1 = g.1 → (∀ a, a ≠ 70 → g'.2 a = g.2 a) → K 1 g') → pg_Go sc 3 mX7_sheet 64 [(0, .ref 59), (1, .int (nI s)), (2, .int y), (3, .int z), (4, .int (nI i))] [] g (pg_ki K) := by
  intro m
  induction m with
  | zero =>
    intro i g hi hr k
    obtain rfl : i = 40 := by omega
    refine go_iload (pc' := 66) dX7_sheet_64 rfl rfl ?_
    refine go_bipush (pc' := 68) 40 dX7_sheet_66 rfl (by decide) ?_
    refine go_icmp_ge (pc' := 71) (tgt := 90) dX7_sheet_68 rfl (by decide) (fun h_68 => ?_) (fun h_68 => absurd (Int32.le_refl _) h_68)
    refine go_iconst (pc' := 91) 1 dX7_sheet_90 rfl (by decide) ?_
    refine go_iret dX7_sheet_91 (pg_narI _) ?_
    exact k _ hr (fun _ _ => rfl) rfl (fun _ _ => rfl)
  | succ m ih =>
    intro i g hi hr k
    have hin : i < 40 := by omega
    refine go_iload (pc' := 66) dX7_sheet_64 rfl rfl ?_
    refine go_bipush (pc' := 68) 40 dX7_sheet_66 rfl (by decide) ?_
    refine go_icmp_ge (pc' := 71) (tgt := 90) dX7_sheet_68 rfl (by decide) (fun h_68 => absurd h_68 (nI_ge (b := 40) hin (by decide))) (fun h_68 => ?_)
    refine go_aload_n (pc' := 72) dX7_sheet_71 rfl rfl ?_
    refine go_getR (pc' := 75) dX7_sheet_72 rfl flRX7_40 rfl rfl ?_
    refine go_bipush (pc' := 77) 40 dX7_sheet_75 rfl (by decide) ?_
    refine go_iload_n (pc' := 78) dX7_sheet_77 rfl rfl ?_
    refine go_imul (pc' := 79) dX7_sheet_78 rfl ?_
    refine go_iload (pc' := 81) dX7_sheet_79 rfl rfl ?_
    refine go_iadd (pc' := 82) dX7_sheet_81 rfl ?_
    refine go_lconst (pc' := 83) 0 dX7_sheet_82 rfl (by decide) ?_
    refine go_last (pc' := 84) (40 * s + i) dX7_sheet_83 rfl rfl (ix40 s i) (by omega) (by decide) ?_
    refine go_iinc (pc' := 87) _ dX7_sheet_84 rfl rfl (pg_inc _) (by decide) rfl ?_
    refine go_goto (pc' := 64) dX7_sheet_87 (by decide) ?_
    refine ih (i + 1) _ (by omega) (fun j hj => ?_) (fun g' z1 z2 z3 z4 => k g' z1 (fun j hj => (z2 j hj).trans ?_) z3 (fun a ha => (z4 a ha).trans ?_))
    · show pg_uj g.2 70 (40 * s + i) 0 70 (40 * s + j) = 0
      rw [pg_uj_at]
      by_cases e : j = i
      · rw [if_pos ⟨rfl, by omega⟩]
      · rw [if_neg (by omega)]; exact hr j (by omega)
    · show pg_uj g.2 70 (40 * s + i) 0 70 j = _
      rw [pg_uj_at, if_neg (by omega)]
    · exact pg_uj_ne g.2 70 _ 0 a ha

set_option maxHeartbeats 4000000 in
set_option maxRecDepth 20000 in
theorem tX7_sheet {sc : pg_Sc} {g : pg_S} {K : Int32 → pg_S → Prop} {x y z : Int32} (k1 : ¬ SHO x y z → K (shA x y z) g) (k : UP x 3 → IN y (-1) 3 → (y = -1 ∨ (z ≤ 40 ∧ 0 ≤ z)) → ∀ g', g'.1 68 = upd (g.1 68) (pn x) y → g'.1 69 = upd (g.1 69) (pn x) (ctF y z) → (∀ j, j < 40 → g'.2 70 (40 * pn x + j) = 0) → (∀ j, ¬ (40 * pn x ≤ j ∧ j < 40 * pn x + 40) → g'.2 70 j = g.2 70 j) → FJ g g' → K 1 g') : pg_Cal sc 3 mX7_sheet [.ref 59, .int x, .int y, .int z] g (pg_ki K) := by
  refine pg_Cal.of rfl (Nat.le_of_ble_eq_true rfl) rfl ?_
  refine go_iload_n (pc' := 1) dX7_sheet_0 rfl rfl ?_
  refine go_cSi1 (pc' := 4) (M' := mX7_isShelf) (d' := 2) dX7_sheet_1 rfl csRX7_293 (by decide) rfl (Nat.le_of_ble_eq_true rfl) ?_
  refine tX7_isShelf ?_
  refine go_if_eq (pc' := 7) (tgt := 26) dX7_sheet_4 rfl (by decide) (fun h_4 => ?_) (fun h_4 => ?_)
  · have h_4 := pg_b0 h_4
    refine go_iconst (pc' := 27) (-1) dX7_sheet_26 rfl (by decide) ?_
    refine go_iret dX7_sheet_27 (pg_narI _) ?_
    rw [shA_1 (fun q => h_4 q.1)] at k1
    exact k1 (fun q => h_4 q.1)
  · have h_4 := pg_b1 h_4
    obtain ⟨s, hs, rfl⟩ := up_ex 3 rfl (by decide) h_4
    have es : pn (nI s) = s := nI_clamp (by omega)
    have hs4 : s < 4 := by omega
    rw [es] at k
    refine go_iload_n (pc' := 8) dX7_sheet_7 rfl rfl ?_
    refine go_iconst (pc' := 9) (-1) dX7_sheet_8 rfl (by decide) ?_
    refine go_iconst (pc' := 10) 3 dX7_sheet_9 rfl (by decide) ?_
    refine go_cSi3 (pc' := 13) (M' := mX7_in) (d' := 1) dX7_sheet_10 rfl csRX7_60 (by decide) rfl (Nat.le_of_ble_eq_true rfl) ?_
    refine tX7_in ?_
    refine go_if_eq (pc' := 16) (tgt := 26) dX7_sheet_13 rfl (by decide) (fun h_13 => ?_) (fun h_13 => ?_)
    · have h_13 := pg_b0 h_13
      refine go_iconst (pc' := 27) (-1) dX7_sheet_26 rfl (by decide) ?_
      refine go_iret dX7_sheet_27 (pg_narI _) ?_
      rw [shA_1 (fun q => h_13 q.2)] at k1
      exact k1 (fun q => h_13 q.2.1)
    · have h_13 := pg_b1 h_13
      refine go_iload_n (pc' := 17) dX7_sheet_16 rfl rfl ?_
      refine go_if_lt (pc' := 20) (tgt := 28) dX7_sheet_17 rfl (by decide) (fun h_17 => ?_) (fun h_17 => ?_)
      · refine go_iload_n (pc' := 29) dX7_sheet_28 rfl rfl ?_
        refine go_if_lt (pc' := 32) (tgt := 39) dX7_sheet_29 rfl (by decide) (fun h_29 => ?_) (fun h_29 => absurd (h_17) h_29)
        refine go_aload_n (pc' := 40) dX7_sheet_39 rfl rfl ?_
        refine go_getR (pc' := 43) dX7_sheet_40 rfl flRX7_34 rfl rfl ?_
        refine go_iload_n (pc' := 44) dX7_sheet_43 rfl rfl ?_
        refine go_iload_n (pc' := 45) dX7_sheet_44 rfl rfl ?_
        refine go_iast (pc' := 46) s dX7_sheet_45 rfl rfl rfl hs4 (by decide) ?_
        refine go_aload_n (pc' := 47) dX7_sheet_46 rfl rfl ?_
        refine go_getR (pc' := 50) dX7_sheet_47 rfl flRX7_37 rfl rfl ?_
        refine go_iload_n (pc' := 51) dX7_sheet_50 rfl rfl ?_
        refine go_iload_n (pc' := 52) dX7_sheet_51 rfl rfl ?_
        refine go_if_ge (pc' := 55) (tgt := 59) dX7_sheet_52 rfl (by decide) (fun h_52 => absurd h_52 (pg_lt_nle h_17)) (fun h_52 => ?_)
        refine go_iconst (pc' := 56) 0 dX7_sheet_55 rfl (by decide) ?_
        refine go_goto (pc' := 60) dX7_sheet_56 (by decide) ?_
        refine go_iast (pc' := 61) s dX7_sheet_60 rfl rfl rfl hs4 (by decide) ?_
        refine go_iconst (pc' := 62) 0 dX7_sheet_61 rfl (by decide) ?_
        refine go_istore (pc' := 64) dX7_sheet_62 rfl (by decide) rfl ?_
        have hy : y = -1 := (in_m1 h_13).mp h_17
        have hok : y = -1 ∨ (z ≤ 40 ∧ 0 ≤ z) := Or.inl hy
        have hct : ctF y z = 0 := if_pos hy
        refine go_gen (fun g2 e2 => ?_)
        refine lmsh hs4 40 0 g2 (by omega) (fun j hj => absurd hj (by omega)) (fun g' a b c d => k h_4 h_13 hok g' ?_ ?_ a (fun j hj => (b j hj).trans (by rw [e2])) ⟨fun a q1 q2 => ?_, fun a q => (d a q).trans (by rw [e2])⟩)
        · rw [c, e2]; show pg_ui (pg_ui g.1 68 s y) 69 s 0 68 = upd (g.1 68) s y; rw [pg_ui_ne _ 69 s 0 68 (by decide), pg_ui_eq]
        · rw [c, e2, hct]; show pg_ui (pg_ui g.1 68 s y) 69 s 0 69 = upd (g.1 69) s 0; rw [pg_ui_eq, pg_ui_ne _ 68 s y 69 (by decide)]
        · rw [c, e2]; show pg_ui (pg_ui g.1 68 s y) 69 s 0 a = g.1 a; rw [pg_ui_ne _ 69 s 0 a q2, pg_ui_ne _ 68 s y a q1]
      · refine go_iload_n (pc' := 21) dX7_sheet_20 rfl rfl ?_
        refine go_bipush (pc' := 23) 40 dX7_sheet_21 rfl (by decide) ?_
        refine go_icmp_le (pc' := 26) (tgt := 28) dX7_sheet_23 rfl (by decide) (fun h_23 => ?_) (fun h_23 => ?_)
        · refine go_iload_n (pc' := 29) dX7_sheet_28 rfl rfl ?_
          refine go_if_lt (pc' := 32) (tgt := 39) dX7_sheet_29 rfl (by decide) (fun h_29 => absurd h_29 (h_17)) (fun h_29 => ?_)
          refine go_iload_n (pc' := 33) dX7_sheet_32 rfl rfl ?_
          refine go_if_ge (pc' := 36) (tgt := 39) dX7_sheet_33 rfl (by decide) (fun h_33 => ?_) (fun h_33 => ?_)
          · refine go_aload_n (pc' := 40) dX7_sheet_39 rfl rfl ?_
            refine go_getR (pc' := 43) dX7_sheet_40 rfl flRX7_34 rfl rfl ?_
            refine go_iload_n (pc' := 44) dX7_sheet_43 rfl rfl ?_
            refine go_iload_n (pc' := 45) dX7_sheet_44 rfl rfl ?_
            refine go_iast (pc' := 46) s dX7_sheet_45 rfl rfl rfl hs4 (by decide) ?_
            refine go_aload_n (pc' := 47) dX7_sheet_46 rfl rfl ?_
            refine go_getR (pc' := 50) dX7_sheet_47 rfl flRX7_37 rfl rfl ?_
            refine go_iload_n (pc' := 51) dX7_sheet_50 rfl rfl ?_
            refine go_iload_n (pc' := 52) dX7_sheet_51 rfl rfl ?_
            refine go_if_ge (pc' := 55) (tgt := 59) dX7_sheet_52 rfl (by decide) (fun h_52 => ?_) (fun h_52 => absurd (pg_nlt_le h_17) h_52)
            refine go_iload_n (pc' := 60) dX7_sheet_59 rfl rfl ?_
            refine go_iast (pc' := 61) s dX7_sheet_60 rfl rfl rfl hs4 (by decide) ?_
            refine go_iconst (pc' := 62) 0 dX7_sheet_61 rfl (by decide) ?_
            refine go_istore (pc' := 64) dX7_sheet_62 rfl (by decide) rfl ?_
            have hy : ¬ y = -1 := fun q => h_17 ((in_m1 h_13).mpr q)
            have hok : y = -1 ∨ (z ≤ 40 ∧ 0 ≤ z) := Or.inr ⟨h_23, h_33⟩
            have hct : ctF y z = z := if_neg hy
            refine go_gen (fun g2 e2 => ?_)
            refine lmsh hs4 40 0 g2 (by omega) (fun j hj => absurd hj (by omega)) (fun g' a b c d => k h_4 h_13 hok g' ?_ ?_ a (fun j hj => (b j hj).trans (by rw [e2])) ⟨fun a q1 q2 => ?_, fun a q => (d a q).trans (by rw [e2])⟩)
            · rw [c, e2]; show pg_ui (pg_ui g.1 68 s y) 69 s z 68 = upd (g.1 68) s y; rw [pg_ui_ne _ 69 s z 68 (by decide), pg_ui_eq]
            · rw [c, e2, hct]; show pg_ui (pg_ui g.1 68 s y) 69 s z 69 = upd (g.1 69) s z; rw [pg_ui_eq, pg_ui_ne _ 68 s y 69 (by decide)]
            · rw [c, e2]; show pg_ui (pg_ui g.1 68 s y) 69 s z a = g.1 a; rw [pg_ui_ne _ 69 s z a q2, pg_ui_ne _ 68 s y a q1]
          · refine go_bipush (pc' := 38) (-14) dX7_sheet_36 rfl (by decide) ?_
            refine go_iret dX7_sheet_38 (pg_narI _) ?_
            have hy : ¬ y = -1 := fun q => h_17 ((in_m1 h_13).mpr q)
            rw [shA_3 ⟨h_4, h_13⟩ hy h_23 h_33] at k1
            exact k1 (fun q => q.2.2.elim hy (fun z => h_33 z.2))
        · refine go_iconst (pc' := 27) (-1) dX7_sheet_26 rfl (by decide) ?_
          refine go_iret dX7_sheet_27 (pg_narI _) ?_
          have hy : ¬ y = -1 := fun q => h_17 ((in_m1 h_13).mpr q)
          rw [shA_2 ⟨h_4, h_13⟩ hy h_23] at k1
          exact k1 (fun q => q.2.2.elim hy (fun z => h_23 z.1))

def hldF (v a b : Int32) : Int32 := if v < a then a else if b < v then b else v
def clF (v : Int32) : Int32 := if (0 : Int32) < (if v < 99 then v else 99) then (if v < 99 then v else 99) else 0
theorem cl_hld (v : Int32) : hldF v 0 99 = clF v := by
  unfold hldF clF
  simp only [Int32.lt_iff_toInt_lt, show (0 : Int32).toInt = 0 from rfl, show (99 : Int32).toInt = 99 from rfl]
  by_cases h : v.toInt < 0
  · rw [if_pos h, if_pos (show v.toInt < 99 by omega), if_neg (by omega)]
  · rw [if_neg h]
    by_cases h2 : v.toInt < 99
    · rw [if_neg (show ¬ 99 < v.toInt by omega), if_pos h2]
      by_cases h3 : 0 < v.toInt
      · rw [if_pos h3]
      · rw [if_neg h3]
        exact Int32.toInt_inj.mp (show v.toInt = 0 by omega)
    · rw [if_neg h2]
      rw [if_pos (show (0 : Int) < (99 : Int32).toInt from by decide)]
      by_cases h3 : 99 < v.toInt
      · rw [if_pos h3]
      · rw [if_neg h3]
        exact Int32.toInt_inj.mp (show v.toInt = 99 by omega)
theorem cl_ex (v : Int32) : ∃ u, u ≤ 99 ∧ clF v = nI u := by
  rw [← cl_hld]
  unfold hldF
  by_cases h : v < 0
  · exact ⟨0, by omega, by rw [if_pos h]; rfl⟩
  · rw [if_neg h]
    by_cases h2 : 99 < v
    · exact ⟨99, by omega, by rw [if_pos h2]; rfl⟩
    · obtain ⟨j, hj, e⟩ := nI_of h
      rw [if_neg h2]
      refine ⟨j, ?_, e⟩
      rw [e] at h2
      exact (nI_leI hj (b := 99) (by decide)).mp (pg_nlt_le h2)
def agF (T : TW) (p : Nat) (f : Nat → Int32) (j : Nat) : TW := fun a i => if a = 4 ∧ p ≤ i ∧ i < p + j then clF (f (i - p)) else T a i
theorem agF_0 (T : TW) (p : Nat) (f : Nat → Int32) : agF T p f 0 = T := by
  funext a i
  exact if_neg (fun q => by omega)
theorem agF_s (T : TW) (p : Nat) (f : Nat → Int32) (j : Nat) : agF T p f (j + 1) = tu (agF T p f j) 4 (p + j) (clF (f j)) := by
  funext a i
  show (if a = 4 ∧ p ≤ i ∧ i < p + (j + 1) then clF (f (i - p)) else T a i) = if a = 4 ∧ i = p + j then clF (f j) else if a = 4 ∧ p ≤ i ∧ i < p + j then clF (f (i - p)) else T a i
  by_cases h : a = 4
  · by_cases h2 : i = p + j
    · subst h2
      rw [if_pos ⟨h, by omega, by omega⟩, if_pos ⟨h, rfl⟩, show p + j - p = j by omega]
    · rw [if_neg (c := a = 4 ∧ i = p + j) (fun q => h2 q.2)]
      by_cases h3 : p ≤ i ∧ i < p + j
      · rw [if_pos ⟨h, h3.1, by omega⟩, if_pos ⟨h, h3⟩]
      · rw [if_neg (by omega), if_neg (by omega)]
  · rw [if_neg (fun q => h q.1), if_neg (fun q => h q.1), if_neg (fun q => h q.1)]
theorem WF.tu4 {T : TW} {n i v : Nat} (h : WF T n) (hv : v ≤ 99) : WF (tu T 4 i (nI v)) n := by
  obtain ⟨h1, h2, h3, h4, h5⟩ := h
  refine ⟨h1, fun j hj => ?_, ?_, fun j hj => ?_, fun p hp => ?_⟩
  · rw [tu_na (by omega)]; exact h2 j hj
  · rw [tu_na (by omega)]; exact h3
  · rw [tu_na (by omega)]; exact h4 j hj
  · obtain ⟨q1, q2, q3, q4, q5⟩ := h5 p hp
    rw [tu_na (b := 2) (by omega), tu_na (b := 3) (by omega), tu_na (b := 5) (by omega), tu_na (b := 6) (by omega)]
    refine ⟨q1, q2, ?_, q4, q5⟩
    unfold tu
    split
    · exact ⟨v, hv, rfl⟩
    · exact q3
theorem WF.ag {T : TW} {n p : Nat} {f : Nat → Int32} (h : WF T n) : ∀ j, WF (agF T p f j) n
  | 0 => by rw [agF_0]; exact h
  | j + 1 => by
    obtain ⟨u, hu, e⟩ := cl_ex (f j)
    rw [agF_s, e]
    exact (WF.ag h j).tu4 hu
abbrev MDO (n : Nat) (so ct x i y c : Int32) : Prop := (UP x 3 ∧ PP n y ∧ UP c 8 ∧ pn y + pn c ≤ n) ∧ so = 0 ∧ (0 ≤ i ∧ pn i + pn c ≤ pn ct)
def mdA (n : Nat) (so ct x i y c : Int32) : Int32 := if ¬ (UP x 3 ∧ PP n y ∧ UP c 8 ∧ pn y + pn c ≤ n) then -1 else if so = -1 then -11 else if ¬ so = 0 then -13 else if ¬ (0 ≤ i ∧ pn i + pn c ≤ pn ct) then -12 else c
theorem mdA_1 {n : Nat} {so ct x i y c : Int32} (h : ¬ (UP x 3 ∧ PP n y ∧ UP c 8 ∧ pn y + pn c ≤ n)) : mdA n so ct x i y c = -1 := if_pos h
theorem mdA_11 {n : Nat} {so ct x i y c : Int32} (h : UP x 3 ∧ PP n y ∧ UP c 8 ∧ pn y + pn c ≤ n) (h2 : so = -1) : mdA n so ct x i y c = -11 := by unfold mdA; rw [if_neg (fun q => q h), if_pos h2]
theorem mdA_13 {n : Nat} {so ct x i y c : Int32} (h : UP x 3 ∧ PP n y ∧ UP c 8 ∧ pn y + pn c ≤ n) (h2 : ¬ so = -1) (h3 : ¬ so = 0) : mdA n so ct x i y c = -13 := by unfold mdA; rw [if_neg (fun q => q h), if_neg h2, if_pos h3]
theorem mdA_12 {n : Nat} {so ct x i y c : Int32} (h : UP x 3 ∧ PP n y ∧ UP c 8 ∧ pn y + pn c ≤ n) (h2 : ¬ so = -1) (h3 : so = 0) (h4 : ¬ (0 ≤ i ∧ pn i + pn c ≤ pn ct)) : mdA n so ct x i y c = -12 := by unfold mdA; rw [if_neg (fun q => q h), if_neg h2, if_neg (fun q => q h3), if_pos h4]
theorem md_iff {a c m : Nat} (ha : a < 2 ^ 31) (hc : c ≤ 40) (hm : m ≤ 8) : nI a ≤ nI c - nI m ↔ a + m ≤ c := by
  have d : ∀ c, c ≤ 40 → ∀ m, m ≤ 8 → (nI c - nI m).toInt = (c : Int) - m := by decide +kernel
  rw [Int32.le_iff_toInt_le, d c hc m hm, nI_toInt ha]
  omega
theorem pg_dec (x : Int32) : x + Int32.ofInt (-1) = x - 1 := by rw [Int32.sub_eq_add_neg]; rfl
set_option maxHeartbeats 4000000 in
set_option maxRecDepth 20000 in
theorem tX7_held {sc : pg_Sc} {g : pg_S} {K : Int32 → pg_S → Prop} {v a b : Int32}  (k : K (hldF v a b) g) : pg_Cal sc 1 mX7_held [.int v, .int a, .int b] g (pg_ki K) := by
  refine pg_Cal.of rfl (Nat.le_of_ble_eq_true rfl) rfl ?_
  refine go_iload_n (pc' := 1) dX7_held_0 rfl rfl ?_
  refine go_iload_n (pc' := 2) dX7_held_1 rfl rfl ?_
  refine go_icmp_ge (pc' := 5) (tgt := 9) dX7_held_2 rfl (by decide) (fun h_2 => ?_) (fun h_2 => ?_)
  · refine go_iload_n (pc' := 10) dX7_held_9 rfl rfl ?_
    refine go_iload_n (pc' := 11) dX7_held_10 rfl rfl ?_
    refine go_icmp_le (pc' := 14) (tgt := 18) dX7_held_11 rfl (by decide) (fun h_11 => ?_) (fun h_11 => ?_)
    · refine go_iload_n (pc' := 19) dX7_held_18 rfl rfl ?_
      refine go_iret dX7_held_19 (pg_narI _) ?_
      unfold hldF at k
      rw [if_neg (fun q => pg_lt_nle q h_2), if_neg (fun q => pg_lt_nle q h_11)] at k
      exact k
    · refine go_iload_n (pc' := 15) dX7_held_14 rfl rfl ?_
      refine go_goto (pc' := 19) dX7_held_15 (by decide) ?_
      refine go_iret dX7_held_19 (pg_narI _) ?_
      unfold hldF at k
      rw [if_neg (fun q => pg_lt_nle q h_2), if_pos (pg_nle_lt h_11)] at k
      exact k
  · refine go_iload_n (pc' := 6) dX7_held_5 rfl rfl ?_
    refine go_goto (pc' := 19) dX7_held_6 (by decide) ?_
    refine go_iret dX7_held_19 (pg_narI _) ?_
    unfold hldF at k
    rw [if_pos (pg_nle_lt h_2)] at k
    exact k

set_option maxHeartbeats 4000000 in
set_option maxRecDepth 20000 in
theorem lmd {sc : pg_Sc} {K : Int32 → pg_S → Prop} {T : TW} {n p s a c ct : Nat} {it : Nat → Int32} (hs4 : s < 4) (hn : n ≤ 8) (hpc : p + c ≤ n) (hac : a + c ≤ ct) (hct : ct ≤ 40) : ∀ (m : Nat) (i : Nat) (g : pg_S), i + m = c → CR g 1 (agF T p (fun j => it (a + j)) i) n → g.1 (46 + 2 * s) = it → (∀ g', CR g' 1 (agF T p (fun j => it (a + j)) c) n → FR 1 10 g g' → K (nI c) g') → pg_Go sc 3 mX6_minds 102 [(0, .ref 0), (1, .int (nI s)), (2, .int (nI a)), (3, .int (nI p)), (4, .int (nI c)), (5, .ref (45 + 2 * s)), (6, .int (nI i))] [] g (pg_ki K) := by
  intro m
  induction m with
  | zero =>
    intro i g hi h hr k
    obtain rfl : i = c := by omega
    refine go_iload (pc' := 104) dX6_minds_102 rfl rfl ?_
    refine go_iload (pc' := 106) dX6_minds_104 rfl rfl ?_
    refine go_icmp_ge (pc' := 109) (tgt := 146) dX6_minds_106 rfl (by decide) (fun h_106 => ?_) (fun h_106 => absurd (Int32.le_refl _) h_106)
    refine go_iload (pc' := 148) dX6_minds_146 rfl rfl ?_
    refine go_iret dX6_minds_148 (pg_narI _) ?_
    exact k _ h FR.rf
  | succ m ih =>
    intro i g hi h hr k
    have hin : i < c := by omega
    refine go_iload (pc' := 104) dX6_minds_102 rfl rfl ?_
    refine go_iload (pc' := 106) dX6_minds_104 rfl rfl ?_
    refine go_icmp_ge (pc' := 109) (tgt := 146) dX6_minds_106 rfl (by decide) (fun h_106 => absurd h_106 (nI_ge hin (by omega))) (fun h_106 => ?_)
    refine go_aload_n (pc' := 110) dX6_minds_109 rfl rfl ?_
    refine go_getR (pc' := 113) dX6_minds_110 rfl flRX6_10 rfl rfl ?_
    refine go_getR (pc' := 116) dX6_minds_113 rfl flRX6_121 rfl rfl ?_
    refine go_iload_n (pc' := 117) dX6_minds_116 rfl rfl ?_
    refine go_iload (pc' := 119) dX6_minds_117 rfl rfl ?_
    refine go_iadd (pc' := 120) dX6_minds_119 rfl ?_
    refine go_iconst (pc' := 121) 0 dX6_minds_120 rfl (by decide) ?_
    refine go_bipush (pc' := 123) 99 dX6_minds_121 rfl (by decide) ?_
    refine go_aload (pc' := 125) dX6_minds_123 rfl rfl ?_
    refine go_getR (pc' := 128) dX6_minds_125 rfl flRX6_248 (sheet_sh s hs4) rfl ?_
    refine go_iload_n (pc' := 129) dX6_minds_128 rfl rfl ?_
    refine go_iload (pc' := 131) dX6_minds_129 rfl rfl ?_
    refine go_iadd (pc' := 132) dX6_minds_131 rfl ?_
    refine go_iald (pc' := 133) (a + i) dX6_minds_132 rfl (items_sh s hs4) (nI_add a i) (by omega) (by decide) ?_
    rw [hr]
    refine go_mmin (pc' := 136) dX6_minds_133 rfl mw_min1 mw_min2 mw_ini mw_min4 (by decide) (Nat.le_of_ble_eq_true rfl) ?_
    refine go_mmax (pc' := 139) dX6_minds_136 rfl mw_max1 mw_max2 mw_ini mw_max4 (by decide) (Nat.le_of_ble_eq_true rfl) ?_
    refine go_iast (pc' := 140) (p + i) dX6_minds_139 rfl rfl (nI_add p i) (by omega) (by decide) ?_
    refine go_iinc (pc' := 143) _ dX6_minds_140 rfl rfl (pg_inc _) (by decide) rfl ?_
    refine go_goto (pc' := 102) dX6_minds_143 (by decide) ?_
    have h1 := h.put (a := 4) (i := p + i) (v := clF (it (a + i))) (by decide) (by decide)
    rw [← agF_s T p (fun j => it (a + j)) i] at h1
    exact ih (i + 1) _ (by omega) h1 ((FR.ui (lo := 1) (hi := 10) (by decide)).1 (46 + 2 * s) (by omega) |>.trans hr) (fun g' z1 z2 => k g' z1 (FR.tr (FR.ui (by decide)) z2))

set_option maxHeartbeats 4000000 in
set_option maxRecDepth 20000 in
theorem tX6_minds {sc : pg_Sc} {g : pg_S} {K : Int32 → pg_S → Prop} {T : TW} {n : Nat} {x i y c : Int32} (hS : ∀ s, s < 4 → ∃ c, c ≤ 40 ∧ g.1 (45 + 2 * s) 2 = nI c) (h : CR g 1 T n) (wf : WF T n) (k1 : ¬ MDO n (g.1 (45 + 2 * pn x) 1) (g.1 (45 + 2 * pn x) 2) x i y c → K (mdA n (g.1 (45 + 2 * pn x) 1) (g.1 (45 + 2 * pn x) 2) x i y c) g) (k2 : MDO n (g.1 (45 + 2 * pn x) 1) (g.1 (45 + 2 * pn x) 2) x i y c → ∀ g', CR g' 1 (agF T (pn y) (fun j => g.1 (46 + 2 * pn x) (pn i + j)) (pn c)) n → FR 1 10 g g' → K c g') : pg_Cal sc 3 mX6_minds [.ref 0, .int x, .int i, .int y, .int c] g (pg_ki K) := by
  refine pg_Cal.of rfl (Nat.le_of_ble_eq_true rfl) rfl ?_
  have hn := wf.1
  refine go_iload_n (pc' := 1) dX6_minds_0 rfl rfl ?_
  refine go_cSi1 (pc' := 4) (M' := mX6_isSheet) (d' := 2) dX6_minds_1 rfl csRX6_206 (by decide) rfl (Nat.le_of_ble_eq_true rfl) ?_
  refine tX6_isSheet ?_
  refine go_if_eq (pc' := 7) (tgt := 39) dX6_minds_4 rfl (by decide) (fun h_4 => ?_) (fun h_4 => ?_)
  · have h_4 := pg_b0 h_4
    refine go_iconst (pc' := 40) (-1) dX6_minds_39 rfl (by decide) ?_
    refine go_iret dX6_minds_40 (pg_narI _) ?_
    rw [mdA_1 (fun q => h_4 q.1)] at k1
    exact k1 (fun q => h_4 q.1.1)
  · have h_4 := pg_b1 h_4
    obtain ⟨s, hs, rfl⟩ := up_ex 3 rfl (by decide) h_4
    have es : pn (nI s) = s := nI_clamp (by omega)
    have hs4 : s < 4 := by omega
    rw [es] at k1 k2
    obtain ⟨ct, hct, ect⟩ := hS s hs4
    refine go_aload_n (pc' := 8) dX6_minds_7 rfl rfl ?_
    refine go_iload_n (pc' := 9) dX6_minds_8 rfl rfl ?_
    refine go_cVi1 (pc' := 12) (M' := mX6_isPerson) (d' := 1) dX6_minds_9 rfl cvRX6_111 rfl rfl (by decide) rfl (Nat.le_of_ble_eq_true rfl) ?_
    refine tX6_isPerson h ?_
    refine go_if_eq (pc' := 15) (tgt := 39) dX6_minds_12 rfl (by decide) (fun h_12 => ?_) (fun h_12 => ?_)
    · have h_12 := pg_b0 h_12
      refine go_iconst (pc' := 40) (-1) dX6_minds_39 rfl (by decide) ?_
      refine go_iret dX6_minds_40 (pg_narI _) ?_
      rw [mdA_1 (fun q => h_12 q.2.1)] at k1
      exact k1 (fun q => h_12 q.1.2.1)
    · have h_12 := pg_b1 h_12
      obtain ⟨p, hp, rfl⟩ := pp_ex h_12
      have ep : pn (nI p) = p := nI_clamp (by omega)
      refine go_iload (pc' := 17) dX6_minds_15 rfl rfl ?_
      refine go_bipush (pc' := 19) 8 dX6_minds_17 rfl (by decide) ?_
      refine go_cSi2 (pc' := 22) (M' := mX6_upTo) (d' := 1) dX6_minds_19 rfl csRX6_97 (by decide) rfl (Nat.le_of_ble_eq_true rfl) ?_
      refine tX6_upTo ?_
      refine go_if_eq (pc' := 25) (tgt := 39) dX6_minds_22 rfl (by decide) (fun h_22 => ?_) (fun h_22 => ?_)
      · have h_22 := pg_b0 h_22
        refine go_iconst (pc' := 40) (-1) dX6_minds_39 rfl (by decide) ?_
        refine go_iret dX6_minds_40 (pg_narI _) ?_
        rw [mdA_1 (fun q => h_22 q.2.2.1)] at k1
        exact k1 (fun q => h_22 q.1.2.2.1)
      · have h_22 := pg_b1 h_22
        obtain ⟨c, hc, rfl⟩ := up_ex 8 rfl (by decide) h_22
        have ec : pn (nI c) = c := nI_clamp (by omega)
        refine go_iload_n (pc' := 26) dX6_minds_25 rfl rfl ?_
        refine go_iload (pc' := 28) dX6_minds_26 rfl rfl ?_
        refine go_iadd (pc' := 29) dX6_minds_28 rfl ?_
        rw [nI_add]
        refine go_aload_n (pc' := 30) dX6_minds_29 rfl rfl ?_
        refine go_getR (pc' := 33) dX6_minds_30 rfl flRX6_10 rfl rfl ?_
        refine go_getI (pc' := 36) dX6_minds_33 rfl flRX6_94 rfl rfl ?_
        rw [c1_people h]
        refine go_icmp_le (pc' := 39) (tgt := 41) dX6_minds_36 rfl (by decide) (fun h_36 => ?_) (fun h_36 => ?_)
        · refine go_aload_n (pc' := 42) dX6_minds_41 rfl rfl ?_
          refine go_getR (pc' := 45) dX6_minds_42 rfl flRX6_49 rfl rfl ?_
          refine go_iload_n (pc' := 46) dX6_minds_45 rfl rfl ?_
          refine go_aald (pc' := 47) s dX6_minds_46 rfl rfl (by decide) rfl hs4 (by decide) (sheet_rs s hs4) ?_
          refine go_astore (pc' := 49) dX6_minds_47 rfl (by decide) rfl ?_
          refine go_aload (pc' := 51) dX6_minds_49 rfl rfl ?_
          refine go_getI (pc' := 54) dX6_minds_51 rfl flRX6_209 (sheet_sh s hs4) rfl ?_
          refine go_iconst (pc' := 55) (-1) dX6_minds_54 rfl (by decide) ?_
          refine go_icmp_ne (pc' := 58) (tgt := 61) dX6_minds_55 rfl (by decide) (fun h_55 => ?_) (fun h_55 => ?_)
          · refine go_aload (pc' := 63) dX6_minds_61 rfl rfl ?_
            refine go_getI (pc' := 66) dX6_minds_63 rfl flRX6_209 (sheet_sh s hs4) rfl ?_
            refine go_if_eq (pc' := 69) (tgt := 72) dX6_minds_66 rfl (by decide) (fun h_66 => ?_) (fun h_66 => ?_)
            · refine go_iload_n (pc' := 73) dX6_minds_72 rfl rfl ?_
              refine go_aload (pc' := 75) dX6_minds_73 rfl rfl ?_
              refine go_getI (pc' := 78) dX6_minds_75 rfl flRX6_247 (sheet_sh s hs4) rfl ?_
              rw [ect]
              refine go_cSi2 (pc' := 81) (M' := mX6_upTo) (d' := 1) dX6_minds_78 rfl csRX6_97 (by decide) rfl (Nat.le_of_ble_eq_true rfl) ?_
              refine tX6_upTo ?_
              refine go_if_eq (pc' := 84) (tgt := 96) dX6_minds_81 rfl (by decide) (fun h_81 => ?_) (fun h_81 => ?_)
              · have h_81 := pg_b0 h_81
                refine go_bipush (pc' := 98) (-12) dX6_minds_96 rfl (by decide) ?_
                refine go_iret dX6_minds_98 (pg_narI _) ?_
                have ok : UP (nI s) 3 ∧ PP n (nI p) ∧ UP (nI c) 8 ∧ pn (nI p) + pn (nI c) ≤ n := ⟨h_4, h_12, h_22, by rw [ep, ec]; exact (nI_leI (by omega) (by omega)).mp h_36⟩
                have hno : ¬ (0 ≤ i ∧ pn i + pn (nI c) ≤ pn (g.1 (45 + 2 * s) 2)) := fun q => h_81 ⟨q.1, by rw [nI_pn q.1]; rw [ect, ec, show pn (nI ct) = ct from nI_clamp (by omega)] at q; exact nI_le (by omega) (by omega)⟩
                rw [mdA_12 ok h_55 h_66 hno] at k1
                exact k1 (fun q => hno q.2.2)
              · have h_81 := pg_b1 h_81
                obtain ⟨a, ha, rfl⟩ := up_ex ct rfl (by omega) h_81
                have ea : pn (nI a) = a := nI_clamp (by omega)
                refine go_iload_n (pc' := 85) dX6_minds_84 rfl rfl ?_
                refine go_iload (pc' := 87) dX6_minds_85 rfl rfl ?_
                refine go_iadd (pc' := 88) dX6_minds_87 rfl ?_
                rw [nI_add]
                refine go_aload (pc' := 90) dX6_minds_88 rfl rfl ?_
                refine go_getI (pc' := 93) dX6_minds_90 rfl flRX6_247 (sheet_sh s hs4) rfl ?_
                rw [ect]
                refine go_icmp_le (pc' := 96) (tgt := 99) dX6_minds_93 rfl (by decide) (fun h_93 => ?_) (fun h_93 => ?_)
                · refine go_iconst (pc' := 100) 0 dX6_minds_99 rfl (by decide) ?_
                  refine go_istore (pc' := 102) dX6_minds_100 rfl (by decide) rfl ?_
                  have hle := (nI_leI (by omega) (by omega)).mp h_93
                  have hpn := (nI_leI (by omega) (by omega)).mp h_36
                  refine lmd (it := g.1 (46 + 2 * s)) hs4 hn hpn hle hct c 0 g (by omega) (by rw [agF_0]; exact h) rfl (fun g' z1 z2 => ?_)
                  refine k2 ⟨⟨h_4, h_12, h_22, by rw [ep, ec]; exact hpn⟩, h_66, h_81.1, by rw [ea, ec, ect]; unfold pn; rw [nI_clamp (by omega)]; exact hle⟩ g' ?_ z2
                  rw [ep, ea, ec]
                  exact z1
                · refine go_bipush (pc' := 98) (-12) dX6_minds_96 rfl (by decide) ?_
                  refine go_iret dX6_minds_98 (pg_narI _) ?_
                  have ok : UP (nI s) 3 ∧ PP n (nI p) ∧ UP (nI c) 8 ∧ pn (nI p) + pn (nI c) ≤ n := ⟨h_4, h_12, h_22, by rw [ep, ec]; exact (nI_leI (by omega) (by omega)).mp h_36⟩
                  have hno : ¬ (0 ≤ nI a ∧ pn (nI a) + pn (nI c) ≤ pn (g.1 (45 + 2 * s) 2)) := fun q => h_93 (nI_le (by rw [ea, ec, ect] at q; unfold pn at q; rw [nI_clamp (by omega)] at q; exact q.2) (by omega))
                  rw [mdA_12 ok h_55 h_66 hno] at k1
                  exact k1 (fun q => hno q.2.2)
            · refine go_bipush (pc' := 71) (-13) dX6_minds_69 rfl (by decide) ?_
              refine go_iret dX6_minds_71 (pg_narI _) ?_
              have ok : UP (nI s) 3 ∧ PP n (nI p) ∧ UP (nI c) 8 ∧ pn (nI p) + pn (nI c) ≤ n := ⟨h_4, h_12, h_22, by rw [ep, ec]; exact (nI_leI (by omega) (by omega)).mp h_36⟩
              rw [mdA_13 ok h_55 h_66] at k1
              exact k1 (fun q => h_66 q.2.1)
          · refine go_bipush (pc' := 60) (-11) dX6_minds_58 rfl (by decide) ?_
            refine go_iret dX6_minds_60 (pg_narI _) ?_
            have ok : UP (nI s) 3 ∧ PP n (nI p) ∧ UP (nI c) 8 ∧ pn (nI p) + pn (nI c) ≤ n := ⟨h_4, h_12, h_22, by rw [ep, ec]; exact (nI_leI (by omega) (by omega)).mp h_36⟩
            rw [mdA_11 ok h_55] at k1
            exact k1 (fun q => absurd (h_55.symm.trans q.2.1) (by decide))
        · refine go_iconst (pc' := 40) (-1) dX6_minds_39 rfl (by decide) ?_
          refine go_iret dX6_minds_40 (pg_narI _) ?_
          have hno : ¬ pn (nI p) + pn (nI c) ≤ n := fun q => h_36 (nI_le (by rw [ep, ec] at q; exact q) (by omega))
          rw [mdA_1 (fun q => hno q.2.2.2)] at k1
          exact k1 (fun q => hno q.1.2.2.2)

set_option maxHeartbeats 4000000 in
set_option maxRecDepth 20000 in
theorem lmmd {sc : pg_Sc} {K : Int32 → pg_S → Prop} {T : TW} {n p s a c ct : Nat} {it : Nat → Int32} (hs4 : s < 4) (hn : n ≤ 8) (hpc : p + c ≤ n) (hac : a + c ≤ ct) (hct : ct ≤ 40) : ∀ (m : Nat) (i : Nat) (g : pg_S), i + m = c → MR g 60 (agF T p (fun j => it (a + j)) i) n → (∀ j, j < ct → g.2 70 (40 * s + j) = (it j).toInt64) → (∀ g', MR g' 60 (agF T p (fun j => it (a + j)) c) n → FR 60 61 g g' → K (nI c) g') → pg_Go sc 3 mX7_minds 80 [(0, .ref 59), (1, .int (nI s)), (2, .int (nI a)), (3, .int (nI p)), (4, .int (nI c)), (6, .int (nI i))] [] g (pg_ki K) := by
  intro m
  induction m with
  | zero =>
    intro i g hi h hr k
    obtain rfl : i = c := by omega
    refine go_iload (pc' := 82) dX7_minds_80 rfl rfl ?_
    refine go_iload (pc' := 84) dX7_minds_82 rfl rfl ?_
    refine go_icmp_ge (pc' := 87) (tgt := 123) dX7_minds_84 rfl (by decide) (fun h_84 => ?_) (fun h_84 => absurd (Int32.le_refl _) h_84)
    refine go_iload (pc' := 125) dX7_minds_123 rfl rfl ?_
    refine go_iret dX7_minds_125 (pg_narI _) ?_
    exact k _ h FR.rf
  | succ m ih =>
    intro i g hi h hr k
    have hin : i < c := by omega
    refine go_iload (pc' := 82) dX7_minds_80 rfl rfl ?_
    refine go_iload (pc' := 84) dX7_minds_82 rfl rfl ?_
    refine go_icmp_ge (pc' := 87) (tgt := 123) dX7_minds_84 rfl (by decide) (fun h_84 => absurd h_84 (nI_ge hin (by omega))) (fun h_84 => ?_)
    refine go_aload_n (pc' := 88) dX7_minds_87 rfl rfl ?_
    refine go_iload_n (pc' := 89) dX7_minds_88 rfl rfl ?_
    refine go_iload (pc' := 91) dX7_minds_89 rfl rfl ?_
    refine go_iadd (pc' := 92) dX7_minds_91 rfl ?_
    rw [nI_add]
    refine go_iconst (pc' := 93) 2 dX7_minds_92 rfl (by decide) ?_
    refine go_aload_n (pc' := 94) dX7_minds_93 rfl rfl ?_
    refine go_getR (pc' := 97) dX7_minds_94 rfl flRX7_40 rfl rfl ?_
    refine go_bipush (pc' := 99) 40 dX7_minds_97 rfl (by decide) ?_
    refine go_iload_n (pc' := 100) dX7_minds_99 rfl rfl ?_
    refine go_imul (pc' := 101) dX7_minds_100 rfl ?_
    refine go_iload_n (pc' := 102) dX7_minds_101 rfl rfl ?_
    refine go_iadd (pc' := 103) dX7_minds_102 rfl ?_
    refine go_iload (pc' := 105) dX7_minds_103 rfl rfl ?_
    refine go_iadd (pc' := 106) dX7_minds_105 rfl ?_
    refine go_lald (pc' := 107) (40 * s + (a + i)) dX7_minds_106 rfl rfl (by rw [show (40 : Int32) = nI 40 from rfl, pk_mul, nI_add, nI_add, Nat.add_assoc]) (by omega) (by decide) ?_
    rw [hr (a + i) (by omega)]
    refine go_l2i (pc' := 108) dX7_minds_107 rfl ?_
    rw [show ((it (a + i)).toInt64).toInt32 = it (a + i) from Int32.toInt32_toInt64 _]
    refine go_iconst (pc' := 109) 0 dX7_minds_108 rfl (by decide) ?_
    refine go_bipush (pc' := 111) 99 dX7_minds_109 rfl (by decide) ?_
    refine go_cSi3 (pc' := 114) (M' := mX7_held) (d' := 1) dX7_minds_111 rfl csRX7_319 (by decide) rfl (Nat.le_of_ble_eq_true rfl) ?_
    refine tX7_held ?_
    rw [cl_hld]
    refine go_cVv3 (pc' := 117) (M' := mX7_sets) (d' := 1) dX7_minds_114 rfl cvRX7_213 rfl rfl (by decide) rfl (Nat.le_of_ble_eq_true rfl) ?_
    refine tX7_sets (p := p + i) (q := 2) (by omega) (by decide) ?_
    refine go_iinc (pc' := 120) _ dX7_minds_117 rfl rfl (pg_inc _) (by decide) rfl ?_
    refine go_goto (pc' := 80) dX7_minds_120 (by decide) ?_
    have h1 := h.put (a := 2) (i := p + i) (v := clF (it (a + i))) (by decide)
    rw [← agF_s T p (fun j => it (a + j)) i] at h1
    exact ih (i + 1) _ (by omega) h1 hr (fun g' z1 z2 => k g' z1 (FR.tr (FR.ui (by decide)) z2))

theorem nI_le0 {a : Nat} (h : a < 2 ^ 31) : 0 ≤ nI a := by rw [Int32.le_iff_toInt_le, nI_toInt h]; exact Int.natCast_nonneg a
set_option maxHeartbeats 4000000 in
set_option maxRecDepth 20000 in
theorem tX7_minds {sc : pg_Sc} {g : pg_S} {K : Int32 → pg_S → Prop} {T : TW} {n : Nat} {x i y c : Int32} {it : Nat → Nat → Int32} (hS : ∀ s, s < 4 → (∃ c, c ≤ 40 ∧ g.1 69 s = nI c) ∧ ∃ k, k ≤ 4 ∧ g.1 68 s = nI k - 1) (hI : ∀ s, s < 4 → ∀ c, c ≤ 40 → g.1 69 s = nI c → ∀ j, j < c → g.2 70 (40 * s + j) = (it s j).toInt64) (h : MR g 60 T n) (wf : WF T n) (k1 : ¬ MDO n (g.1 68 (pn x)) (g.1 69 (pn x)) x i y c → K (mdA n (g.1 68 (pn x)) (g.1 69 (pn x)) x i y c) g) (k2 : MDO n (g.1 68 (pn x)) (g.1 69 (pn x)) x i y c → ∀ g', MR g' 60 (agF T (pn y) (fun j => it (pn x) (pn i + j)) (pn c)) n → FR 60 61 g g' → K c g') : pg_Cal sc 3 mX7_minds [.ref 59, .int x, .int i, .int y, .int c] g (pg_ki K) := by
  refine pg_Cal.of rfl (Nat.le_of_ble_eq_true rfl) rfl ?_
  have hn := wf.1
  refine go_iload_n (pc' := 1) dX7_minds_0 rfl rfl ?_
  refine go_cSi1 (pc' := 4) (M' := mX7_isShelf) (d' := 2) dX7_minds_1 rfl csRX7_293 (by decide) rfl (Nat.le_of_ble_eq_true rfl) ?_
  refine tX7_isShelf ?_
  refine go_if_eq (pc' := 7) (tgt := 39) dX7_minds_4 rfl (by decide) (fun h_4 => ?_) (fun h_4 => ?_)
  · have h_4 := pg_b0 h_4
    refine go_iconst (pc' := 40) (-1) dX7_minds_39 rfl (by decide) ?_
    refine go_iret dX7_minds_40 (pg_narI _) ?_
    rw [mdA_1 (fun q => h_4 q.1)] at k1
    exact k1 (fun q => h_4 q.1.1)
  · have h_4 := pg_b1 h_4
    obtain ⟨s, hs, rfl⟩ := up_ex 3 rfl (by decide) h_4
    have es : pn (nI s) = s := nI_clamp (by omega)
    have hs4 : s < 4 := by omega
    rw [es] at k1 k2
    obtain ⟨⟨ct, hct, ect⟩, hk⟩ := hS s hs4
    refine go_aload_n (pc' := 8) dX7_minds_7 rfl rfl ?_
    refine go_iload_n (pc' := 9) dX7_minds_8 rfl rfl ?_
    refine go_cVi1 (pc' := 12) (M' := mX7_isOne) (d' := 2) dX7_minds_9 rfl cvRX7_220 rfl rfl (by decide) rfl (Nat.le_of_ble_eq_true rfl) ?_
    refine tX7_isOne h wf ?_
    refine go_if_eq (pc' := 15) (tgt := 39) dX7_minds_12 rfl (by decide) (fun h_12 => ?_) (fun h_12 => ?_)
    · have h_12 := pg_b0 h_12
      refine go_iconst (pc' := 40) (-1) dX7_minds_39 rfl (by decide) ?_
      refine go_iret dX7_minds_40 (pg_narI _) ?_
      rw [mdA_1 (fun q => h_12 q.2.1)] at k1
      exact k1 (fun q => h_12 q.1.2.1)
    · have h_12 := pg_b1 h_12
      obtain ⟨p, hp, rfl⟩ := pp_ex h_12
      have ep : pn (nI p) = p := nI_clamp (by omega)
      refine go_iload (pc' := 17) dX7_minds_15 rfl rfl ?_
      refine go_iconst (pc' := 18) 0 dX7_minds_17 rfl (by decide) ?_
      refine go_bipush (pc' := 20) 8 dX7_minds_18 rfl (by decide) ?_
      refine go_cSi3 (pc' := 23) (M' := mX7_in) (d' := 1) dX7_minds_20 rfl csRX7_60 (by decide) rfl (Nat.le_of_ble_eq_true rfl) ?_
      refine tX7_in ?_
      refine go_if_eq (pc' := 26) (tgt := 39) dX7_minds_23 rfl (by decide) (fun h_23 => ?_) (fun h_23 => ?_)
      · have h_23 := pg_b0 h_23
        refine go_iconst (pc' := 40) (-1) dX7_minds_39 rfl (by decide) ?_
        refine go_iret dX7_minds_40 (pg_narI _) ?_
        rw [mdA_1 (fun q => h_23 q.2.2.1)] at k1
        exact k1 (fun q => h_23 q.1.2.2.1)
      · have h_23 := pg_b1 h_23
        obtain ⟨c, hc, rfl⟩ := up_ex 8 rfl (by decide) h_23
        have ec : pn (nI c) = c := nI_clamp (by omega)
        refine go_iload (pc' := 28) dX7_minds_26 rfl rfl ?_
        refine go_aload_n (pc' := 29) dX7_minds_28 rfl rfl ?_
        refine go_getR (pc' := 32) dX7_minds_29 rfl flRX7_7 rfl rfl ?_
        refine go_iconst (pc' := 33) 5 dX7_minds_32 rfl (by decide) ?_
        refine go_iald (pc' := 34) 5 dX7_minds_33 rfl rfl rfl (by decide) (by decide) ?_
        rw [m60_people h]
        refine go_iload_n (pc' := 35) dX7_minds_34 rfl rfl ?_
        refine go_isub (pc' := 36) dX7_minds_35 rfl ?_
        rw [pk_sub (by omega)]
        refine go_icmp_le (pc' := 39) (tgt := 41) dX7_minds_36 rfl (by decide) (fun h_36 => ?_) (fun h_36 => ?_)
        · refine go_aload_n (pc' := 42) dX7_minds_41 rfl rfl ?_
          refine go_iload_n (pc' := 43) dX7_minds_42 rfl rfl ?_
          refine go_iconst (pc' := 44) 0 dX7_minds_43 rfl (by decide) ?_
          refine go_cVi2 (pc' := 47) (M' := mX7_lacksSort) (d' := 1) dX7_minds_44 rfl cvRX7_316 rfl rfl (by decide) rfl (Nat.le_of_ble_eq_true rfl) ?_
          refine tX7_lacksSort hs4 hk ?_
          refine go_istore (pc' := 49) dX7_minds_47 rfl (by decide) rfl ?_
          refine go_iload (pc' := 51) dX7_minds_49 rfl rfl ?_
          refine go_if_eq (pc' := 54) (tgt := 57) dX7_minds_51 rfl (by decide) (fun h_51 => ?_) (fun h_51 => ?_)
          · refine go_iload_n (pc' := 58) dX7_minds_57 rfl rfl ?_
            refine go_if_lt (pc' := 61) (tgt := 74) dX7_minds_58 rfl (by decide) (fun h_58 => ?_) (fun h_58 => ?_)
            · refine go_bipush (pc' := 76) (-12) dX7_minds_74 rfl (by decide) ?_
              refine go_iret dX7_minds_76 (pg_narI _) ?_
              have ok : UP (nI s) 3 ∧ PP n (nI p) ∧ UP (nI c) 8 ∧ pn (nI p) + pn (nI c) ≤ n := ⟨h_4, h_12, h_23, by rw [ep, ec]; have := (nI_leI (by omega) (by omega)).mp h_36; omega⟩
              have e1 : ¬ g.1 68 s = -1 := fun q => by rw [if_pos q] at h_51; exact absurd h_51 (by decide)
              have e2 : g.1 68 s = 0 := by
                by_cases e2 : g.1 68 s = 0
                · exact e2
                · rw [if_neg e1, if_pos e2] at h_51; exact absurd h_51 (by decide)
              have hno : ¬ (0 ≤ i ∧ pn i + pn (nI c) ≤ pn (g.1 69 s)) := fun q => pg_lt_nle h_58 q.1
              rw [mdA_12 ok e1 e2 hno] at k1
              exact k1 (fun q => hno q.2.2)
            · obtain ⟨a, ha, rfl⟩ := nI_of h_58
              refine go_iload_n (pc' := 62) dX7_minds_61 rfl rfl ?_
              refine go_aload_n (pc' := 63) dX7_minds_62 rfl rfl ?_
              refine go_getR (pc' := 66) dX7_minds_63 rfl flRX7_37 rfl rfl ?_
              refine go_iload_n (pc' := 67) dX7_minds_66 rfl rfl ?_
              refine go_iald (pc' := 68) s dX7_minds_67 rfl rfl rfl hs4 (by decide) ?_
              rw [ect]
              refine go_iload (pc' := 70) dX7_minds_68 rfl rfl ?_
              refine go_isub (pc' := 71) dX7_minds_70 rfl ?_
              refine go_icmp_le (pc' := 74) (tgt := 77) dX7_minds_71 rfl (by decide) (fun h_71 => ?_) (fun h_71 => ?_)
              · refine go_iconst (pc' := 78) 0 dX7_minds_77 rfl (by decide) ?_
                refine go_istore (pc' := 80) dX7_minds_78 rfl (by decide) rfl ?_
                have e1 : ¬ g.1 68 s = -1 := fun q => by rw [if_pos q] at h_51; exact absurd h_51 (by decide)
                have e2 : g.1 68 s = 0 := by
                  by_cases e2 : g.1 68 s = 0
                  · exact e2
                  · rw [if_neg e1, if_pos e2] at h_51; exact absurd h_51 (by decide)
                have hle := (md_iff ha hct hc).mp h_71
                have hpn : p + c ≤ n := by have := (nI_leI (by omega) (by omega)).mp h_36; omega
                refine go_sub [0, 1, 2, 3, 4, 6] rfl ?_
                have ea : pn (nI a) = a := nI_clamp ha
                refine lmmd (it := it s) hs4 hn hpn hle hct c 0 g (by omega) (by rw [agF_0]; exact h) (hI s hs4 ct hct ect) (fun g' z1 z2 => ?_)
                refine k2 ⟨⟨h_4, h_12, h_23, by rw [ep, ec]; exact hpn⟩, e2, nI_le0 ha, by rw [ea, ec, ect]; unfold pn; rw [nI_clamp (by omega)]; exact hle⟩ g' ?_ z2
                rw [ep, ea, ec]
                exact z1
              · refine go_bipush (pc' := 76) (-12) dX7_minds_74 rfl (by decide) ?_
                refine go_iret dX7_minds_76 (pg_narI _) ?_
                have ok : UP (nI s) 3 ∧ PP n (nI p) ∧ UP (nI c) 8 ∧ pn (nI p) + pn (nI c) ≤ n := ⟨h_4, h_12, h_23, by rw [ep, ec]; have := (nI_leI (by omega) (by omega)).mp h_36; omega⟩
                have e1 : ¬ g.1 68 s = -1 := fun q => by rw [if_pos q] at h_51; exact absurd h_51 (by decide)
                have e2 : g.1 68 s = 0 := by
                  by_cases e2 : g.1 68 s = 0
                  · exact e2
                  · rw [if_neg e1, if_pos e2] at h_51; exact absurd h_51 (by decide)
                have hno : ¬ (0 ≤ nI a ∧ pn (nI a) + pn (nI c) ≤ pn (g.1 69 s)) := fun q => h_71 ((md_iff ha hct hc).mpr (by rw [ect] at q; unfold pn at q; rw [nI_clamp ha, nI_clamp (n := c) (by omega), nI_clamp (n := ct) (by omega)] at q; exact q.2))
                rw [mdA_12 ok e1 e2 hno] at k1
                exact k1 (fun q => hno q.2.2)
          · refine go_iload (pc' := 56) dX7_minds_54 rfl rfl ?_
            refine go_iret dX7_minds_56 (pg_narI _) ?_
            have ok : UP (nI s) 3 ∧ PP n (nI p) ∧ UP (nI c) 8 ∧ pn (nI p) + pn (nI c) ≤ n := ⟨h_4, h_12, h_23, by rw [ep, ec]; have := (nI_leI (by omega) (by omega)).mp h_36; omega⟩
            by_cases e1 : g.1 68 s = -1
            · rw [if_pos e1]
              rw [mdA_11 ok e1] at k1
              exact k1 (fun q => absurd (e1.symm.trans q.2.1) (by decide))
            · rw [if_neg e1] at h_51 ⊢
              by_cases e2 : g.1 68 s = 0
              · rw [if_neg (fun q => q e2)] at h_51; exact absurd rfl h_51
              · rw [if_pos e2]
                rw [mdA_13 ok e1 e2] at k1
                exact k1 (fun q => e2 q.2.1)
        · refine go_iconst (pc' := 40) (-1) dX7_minds_39 rfl (by decide) ?_
          refine go_iret dX7_minds_40 (pg_narI _) ?_
          have hno : ¬ pn (nI p) + pn (nI c) ≤ n := fun q => h_36 (nI_le (by rw [ep, ec] at q; omega) (by omega))
          rw [mdA_1 (fun q => hno q.2.2.2)] at k1
          exact k1 (fun q => hno q.1.2.2.2)

def kaF (n p : Nat) (it : Nat → Int32) : Nat → Nat → TW → Bool
  | 0, _, _ => true
  | m + 1, i, T => if it i = -1 ∨ it i = bcF (hourF n T 6 p) then kaF n p it m (i + 1) (hourF n T) else false
def fcF (c : Nat → Bool) : Nat → Int32 → Int32
  | 0, s => s
  | m + 1, s => fcF c m (if c m = true then s + 1 else s)
def flF (c : Nat → Bool) : Nat → Int32 → Int32
  | 0, l => l
  | m + 1, l => flF c m (if c m = true then nI m else l)
def fiC (n p ct : Nat) (it : Nat → Int32) (T : TW) (q : Nat) : Bool := kaF n p it ct 0 (tu T 3 p (nI q))
def fiA (n ct : Nat) (it : Nat → Int32) (T : TW) (y w : Int32) : Int32 := if w = 0 then fcF (fiC n (pn y) ct it T) 6 0 else flF (fiC n (pn y) ct it T) 6 (-3)
theorem to64_inj {v w : Int32} : v.toInt64 = w.toInt64 ↔ v = w := ⟨fun h => Int32.toInt_inj.mp (by rw [← Int32.toInt_toInt64, h, Int32.toInt_toInt64]), fun h => by rw [h]⟩
theorem kaF_t {n p : Nat} {it : Nat → Int32} {m i : Nat} {T : TW} (h : it i = -1 ∨ it i = bcF (hourF n T 6 p)) : kaF n p it (m + 1) i T = kaF n p it m (i + 1) (hourF n T) := if_pos h
theorem kaF_f {n p : Nat} {it : Nat → Int32} {m i : Nat} {T : TW} (h : ¬ (it i = -1 ∨ it i = bcF (hourF n T 6 p))) : kaF n p it (m + 1) i T = false := if_neg h
theorem to64_m1 {v : Int32} : v.toInt64 = -1 ↔ v = -1 := by
  rw [show (-1 : Int64) = (-1 : Int32).toInt64 from rfl]
  exact to64_inj
theorem nI_n0 {m : Nat} (h : m < 2 ^ 31) : ¬ nI m < 0 := fun q => pg_lt_nle q (nI_le0 h)
set_option maxHeartbeats 4000000 in
set_option maxRecDepth 20000 in
theorem lka {sc : pg_Sc} {K : Int32 → pg_S → Prop} {n p q s ct : Nat} {it : Nat → Int32} (hs4 : s < 4) (hp : p < n) (hct : ct ≤ 40) : ∀ (m : Nat) (i : Nat) (T : TW) (g : pg_S), i + m = ct → WF T n → CR g 10 T n → g.1 (46 + 2 * s) = it → g.1 (45 + 2 * s) 2 = nI ct → (∀ g', FR 10 19 g g' → K (if kaF n p it m i T = true then 1 else 0) g') → pg_Go sc 4 mX6_knowsAsTold 24 [(0, .ref 0), (1, .int (nI p)), (2, .int (nI q)), (3, .ref (45 + 2 * s)), (4, .int (nI i))] [] g (pg_ki K) := by
  intro m
  induction m with
  | zero =>
    intro i T g hi wf h hr hc k
    obtain rfl : i = ct := by omega
    refine go_iload (pc' := 26) dX6_knowsAsTold_24 rfl rfl ?_
    refine go_aload_n (pc' := 27) dX6_knowsAsTold_26 rfl rfl ?_
    refine go_getI (pc' := 30) dX6_knowsAsTold_27 rfl flRX6_247 (sheet_sh s hs4) rfl ?_
    rw [hc]
    refine go_icmp_ge (pc' := 33) (tgt := 76) dX6_knowsAsTold_30 rfl (by decide) (fun h_30 => ?_) (fun h_30 => absurd (Int32.le_refl _) h_30)
    refine go_iconst (pc' := 77) 1 dX6_knowsAsTold_76 rfl (by decide) ?_
    refine go_iret dX6_knowsAsTold_77 (by first | exact pg_nar1 | exact pg_nar0 | exact pg_narB) ?_
    exact k _ FR.rf
  | succ m ih =>
    intro i T g hi wf h hr hc k
    have hin : i < ct := by omega
    have hn := wf.1
    have wf1 := wf.hour
    refine go_iload (pc' := 26) dX6_knowsAsTold_24 rfl rfl ?_
    refine go_aload_n (pc' := 27) dX6_knowsAsTold_26 rfl rfl ?_
    refine go_getI (pc' := 30) dX6_knowsAsTold_27 rfl flRX6_247 (sheet_sh s hs4) rfl ?_
    rw [hc]
    refine go_icmp_ge (pc' := 33) (tgt := 76) dX6_knowsAsTold_30 rfl (by decide) (fun h_30 => absurd h_30 (nI_ge hin (by omega))) (fun h_30 => ?_)
    refine go_aload_n (pc' := 34) dX6_knowsAsTold_33 rfl rfl ?_
    refine go_getR (pc' := 37) dX6_knowsAsTold_34 rfl flRX6_16 rfl rfl ?_
    refine go_cVv0 (pc' := 40) (M' := mX5_spendHour) (d' := 3) dX6_knowsAsTold_37 rfl cvRX6_171 rfl rfl (by decide) rfl (Nat.le_of_ble_eq_true rfl) ?_
    refine tX5_spendHour_10 h wf (fun g1 h1 f1 => ?_)
    refine go_aload_n (pc' := 41) dX6_knowsAsTold_40 rfl rfl ?_
    refine go_getR (pc' := 44) dX6_knowsAsTold_41 rfl flRX6_248 (sheet_sh s hs4) rfl ?_
    refine go_iload (pc' := 46) dX6_knowsAsTold_44 rfl rfl ?_
    refine go_iald (pc' := 47) i dX6_knowsAsTold_46 rfl (items_sh s hs4) rfl (by omega) (by decide) ?_
    rw [f1.1 (46 + 2 * s) (by omega), hr]
    refine go_istore (pc' := 49) dX6_knowsAsTold_47 rfl (by decide) rfl ?_
    refine go_iload (pc' := 51) dX6_knowsAsTold_49 rfl rfl ?_
    refine go_iconst (pc' := 52) (-1) dX6_knowsAsTold_51 rfl (by decide) ?_
    refine go_icmp_eq (pc' := 55) (tgt := 70) dX6_knowsAsTold_52 rfl (by decide) (fun h_52 => ?_) (fun h_52 => ?_)
    · refine go_iinc (pc' := 73) _ dX6_knowsAsTold_70 rfl rfl (pg_inc _) (by decide) rfl ?_
      refine go_goto (pc' := 24) dX6_knowsAsTold_73 (by decide) ?_
      rw [kaF_t (Or.inl h_52)] at k
      refine go_sub [0, 1, 2, 3, 4] rfl ?_
      exact ih (i + 1) _ _ (by omega) wf1 h1 (by rw [f1.1 (46 + 2 * s) (by omega)]; exact hr) (by rw [f1.1 (45 + 2 * s) (by omega)]; exact hc) (fun g' z => k g' (FR.tr f1 z))
    · refine go_iload (pc' := 57) dX6_knowsAsTold_55 rfl rfl ?_
      refine go_aload_n (pc' := 58) dX6_knowsAsTold_57 rfl rfl ?_
      refine go_getR (pc' := 61) dX6_knowsAsTold_58 rfl flRX6_16 rfl rfl ?_
      refine go_iload_n (pc' := 62) dX6_knowsAsTold_61 rfl rfl ?_
      refine go_cVi1 (pc' := 65) (M' := mX5_knownBy) (d' := 2) dX6_knowsAsTold_62 rfl cvRX6_317 rfl rfl (by decide) rfl (Nat.le_of_ble_eq_true rfl) ?_
      refine tX5_knownBy_10 h1 wf1 hp ?_
      refine go_icmp_eq (pc' := 68) (tgt := 70) dX6_knowsAsTold_65 rfl (by decide) (fun h_65 => ?_) (fun h_65 => ?_)
      · refine go_iinc (pc' := 73) _ dX6_knowsAsTold_70 rfl rfl (pg_inc _) (by decide) rfl ?_
        refine go_goto (pc' := 24) dX6_knowsAsTold_73 (by decide) ?_
        rw [kaF_t (Or.inr h_65)] at k
        refine go_sub [0, 1, 2, 3, 4] rfl ?_
        exact ih (i + 1) _ _ (by omega) wf1 h1 (by rw [f1.1 (46 + 2 * s) (by omega)]; exact hr) (by rw [f1.1 (45 + 2 * s) (by omega)]; exact hc) (fun g' z => k g' (FR.tr f1 z))
      · refine go_iconst (pc' := 69) 0 dX6_knowsAsTold_68 rfl (by decide) ?_
        refine go_iret dX6_knowsAsTold_69 (by first | exact pg_nar1 | exact pg_nar0 | exact pg_narB) ?_
        rw [kaF_f (fun q => q.elim h_52 h_65)] at k
        exact k _ f1

set_option maxHeartbeats 4000000 in
set_option maxRecDepth 20000 in
theorem tX6_knowsAsTold {sc : pg_Sc} {g : pg_S} {K : Int32 → pg_S → Prop} {T : TW} {n p q s ct : Nat} (h : CR g 1 T n) (wf : WF T n) (hp : p < n) (hq : q < 6) (hs4 : s < 4) (hct : ct ≤ 40) (hc : g.1 (45 + 2 * s) 2 = nI ct) (k : ∀ g', FR 10 19 g g' → K (if fiC n p ct (g.1 (46 + 2 * s)) T q = true then 1 else 0) g') : pg_Cal sc 4 mX6_knowsAsTold [.ref 0, .int (nI p), .int (nI q), .ref (45 + 2 * s)] g (pg_ki K) := by
  refine pg_Cal.of rfl (Nat.le_of_ble_eq_true rfl) rfl ?_
  have hn := wf.1
  refine go_aload_n (pc' := 1) dX6_knowsAsTold_0 rfl rfl ?_
  refine go_getR (pc' := 4) dX6_knowsAsTold_1 rfl flRX6_16 rfl rfl ?_
  refine go_aload_n (pc' := 5) dX6_knowsAsTold_4 rfl rfl ?_
  refine go_getR (pc' := 8) dX6_knowsAsTold_5 rfl flRX6_10 rfl rfl ?_
  refine go_cVv1 (pc' := 11) (M' := mX5_become) (d' := 1) dX6_knowsAsTold_8 rfl cvRX6_87 rfl rfl (by decide) rfl (Nat.le_of_ble_eq_true rfl) ?_
  refine tX5_become_10_1 h hn (fun g1 h1 f1 => ?_)
  refine go_aload_n (pc' := 12) dX6_knowsAsTold_11 rfl rfl ?_
  refine go_getR (pc' := 15) dX6_knowsAsTold_12 rfl flRX6_16 rfl rfl ?_
  refine go_iload_n (pc' := 16) dX6_knowsAsTold_15 rfl rfl ?_
  refine go_iconst (pc' := 17) 1 dX6_knowsAsTold_16 rfl (by decide) ?_
  refine go_iload_n (pc' := 18) dX6_knowsAsTold_17 rfl rfl ?_
  refine go_cVv3 (pc' := 21) (M' := mX5_alter) (d' := 1) dX6_knowsAsTold_18 rfl cvRX6_314 rfl rfl (by decide) rfl (Nat.le_of_ble_eq_true rfl) ?_
  refine tX5_alter_1 h1 hn hp (fun g2 h2 f2 => ?_)
  have fa := FR.tr f1 f2
  refine go_iconst (pc' := 22) 0 dX6_knowsAsTold_21 rfl (by decide) ?_
  refine go_istore (pc' := 24) dX6_knowsAsTold_22 rfl (by decide) rfl ?_
  exact lka hs4 hp hct ct 0 _ g2 (by omega) (wf.tu3 hq) h2 (fa.1 (46 + 2 * s) (by omega)) (by rw [fa.1 (45 + 2 * s) (by omega)]; exact hc) (fun g' z => k g' (FR.tr fa z))

set_option maxHeartbeats 4000000 in
set_option maxRecDepth 20000 in
theorem lfit {sc : pg_Sc} {K : Int32 → pg_S → Prop} {T : TW} {n p s ct : Nat} {w : Int32} {it : Nat → Int32} (wf : WF T n) (hs4 : s < 4) (hp : p < n) (hct : ct ≤ 40) : ∀ (m : Nat) (c l : Int32) (g : pg_S), m ≤ 6 → CR g 1 T n → g.1 (46 + 2 * s) = it → g.1 (45 + 2 * s) 2 = nI ct → (∀ g', FR 10 19 g g' → K (if w = 0 then fcF (fiC n p ct it T) m c else flF (fiC n p ct it T) m l) g') → pg_Go sc 5 mX6_fits 55 [(0, .ref 0), (1, .int (nI s)), (2, .int (nI p)), (3, .int w), (4, .ref (45 + 2 * s)), (5, .int c), (6, .int l), (7, .int (nI m - 1))] [] g (pg_ki K) := by
  intro m
  induction m with
  | zero =>
    intro c l g hi h hr hc k
    refine go_iload (pc' := 57) dX6_fits_55 rfl rfl ?_
    refine go_if_lt (pc' := 60) (tgt := 85) dX6_fits_57 rfl (by decide) (fun h_57 => ?_) (fun h_57 => absurd (by decide) h_57)
    refine go_iload_n (pc' := 86) dX6_fits_85 rfl rfl ?_
    refine go_if_ne (pc' := 89) (tgt := 94) dX6_fits_86 rfl (by decide) (fun h_86 => ?_) (fun h_86 => ?_)
    · refine go_iload (pc' := 96) dX6_fits_94 rfl rfl ?_
      refine go_iret dX6_fits_96 (pg_narI _) ?_
      rw [if_neg h_86] at k
      exact k _ FR.rf
    · refine go_iload (pc' := 91) dX6_fits_89 rfl rfl ?_
      refine go_goto (pc' := 96) dX6_fits_91 (by decide) ?_
      refine go_iret dX6_fits_96 (pg_narI _) ?_
      rw [if_pos h_86] at k
      exact k _ FR.rf
  | succ m ih =>
    intro c l g hi h hr hc k
    simp only [fcF, flF] at k
    rw [show nI (m + 1) - 1 = nI m from pk_sub (a := m + 1) (b := 1) (by omega)]
    refine go_iload (pc' := 57) dX6_fits_55 rfl rfl ?_
    refine go_if_lt (pc' := 60) (tgt := 85) dX6_fits_57 rfl (by decide) (fun h_57 => absurd h_57 (nI_n0 (by omega))) (fun h_57 => ?_)
    refine go_aload_n (pc' := 61) dX6_fits_60 rfl rfl ?_
    refine go_iload_n (pc' := 62) dX6_fits_61 rfl rfl ?_
    refine go_iload (pc' := 64) dX6_fits_62 rfl rfl ?_
    refine go_aload (pc' := 66) dX6_fits_64 rfl rfl ?_
    refine go_cVi3 (pc' := 69) (M' := mX6_knowsAsTold) (d' := 4) dX6_fits_66 rfl cvRX6_212 rfl rfl (by decide) rfl (Nat.le_of_ble_eq_true rfl) ?_
    subst hr
    refine tX6_knowsAsTold h wf hp (by omega) hs4 hct hc (fun g1 f1 => ?_)
    refine go_if_eq (pc' := 72) (tgt := 79) dX6_fits_69 rfl (by decide) (fun h_69 => ?_) (fun h_69 => ?_)
    · have h_69 := pg_b0 h_69
      refine go_iinc (pc' := 82) _ dX6_fits_79 rfl rfl (pg_dec _) (by decide) rfl ?_
      refine go_goto (pc' := 55) dX6_fits_82 (by decide) ?_
      rw [if_neg h_69, if_neg h_69] at k
      exact ih _ _ _ (by omega) (h.fr f1 (by decide)) (f1.1 (46 + 2 * s) (by omega)) (by rw [f1.1 (45 + 2 * s) (by omega)]; exact hc) (fun g' z => k g' (FR.tr f1 z))
    · have h_69 := pg_b1 h_69
      refine go_iinc (pc' := 75) _ dX6_fits_72 rfl rfl (pg_inc' _) (by decide) rfl ?_
      refine go_iload (pc' := 77) dX6_fits_75 rfl rfl ?_
      refine go_istore (pc' := 79) dX6_fits_77 rfl (by decide) rfl ?_
      refine go_iinc (pc' := 82) _ dX6_fits_79 rfl rfl (pg_dec _) (by decide) rfl ?_
      refine go_goto (pc' := 55) dX6_fits_82 (by decide) ?_
      rw [if_pos h_69, if_pos h_69] at k
      exact ih _ _ _ (by omega) (h.fr f1 (by decide)) (f1.1 (46 + 2 * s) (by omega)) (by rw [f1.1 (45 + 2 * s) (by omega)]; exact hc) (fun g' z => k g' (FR.tr f1 z))

set_option maxHeartbeats 4000000 in
set_option maxRecDepth 20000 in
theorem tX6_fits {sc : pg_Sc} {g : pg_S} {K : Int32 → pg_S → Prop} {T : TW} {n : Nat} {x y w : Int32} (hS : ∀ s, s < 4 → ∃ c, c ≤ 40 ∧ g.1 (45 + 2 * s) 2 = nI c) (h : CR g 1 T n) (wf : WF T n) (k1 : ¬ ((UP x 3 ∧ PP n y ∧ UP w 1) ∧ ¬ g.1 (45 + 2 * pn x) 1 = -1) → K (if UP x 3 ∧ PP n y ∧ UP w 1 then -11 else -1) g) (k2 : (UP x 3 ∧ PP n y ∧ UP w 1) ∧ ¬ g.1 (45 + 2 * pn x) 1 = -1 → ∀ g', FR 10 19 g g' → K (fiA n (pn (g.1 (45 + 2 * pn x) 2)) (g.1 (46 + 2 * pn x)) T y w) g') : pg_Cal sc 5 mX6_fits [.ref 0, .int x, .int y, .int w] g (pg_ki K) := by
  refine pg_Cal.of rfl (Nat.le_of_ble_eq_true rfl) rfl ?_
  have hn := wf.1
  refine go_iload_n (pc' := 1) dX6_fits_0 rfl rfl ?_
  refine go_cSi1 (pc' := 4) (M' := mX6_isSheet) (d' := 2) dX6_fits_1 rfl csRX6_206 (by decide) rfl (Nat.le_of_ble_eq_true rfl) ?_
  refine tX6_isSheet ?_
  refine go_if_eq (pc' := 7) (tgt := 23) dX6_fits_4 rfl (by decide) (fun h_4 => ?_) (fun h_4 => ?_)
  · have h_4 := pg_b0 h_4
    refine go_iconst (pc' := 24) (-1) dX6_fits_23 rfl (by decide) ?_
    refine go_iret dX6_fits_24 (pg_narI _) ?_
    rw [if_neg (fun q => h_4 q.1)] at k1
    exact k1 (fun q => h_4 q.1.1)
  · have h_4 := pg_b1 h_4
    obtain ⟨s, hs, rfl⟩ := up_ex 3 rfl (by decide) h_4
    have es : pn (nI s) = s := nI_clamp (by omega)
    have hs4 : s < 4 := by omega
    rw [es] at k1 k2
    obtain ⟨ct, hct, ect⟩ := hS s hs4
    refine go_aload_n (pc' := 8) dX6_fits_7 rfl rfl ?_
    refine go_iload_n (pc' := 9) dX6_fits_8 rfl rfl ?_
    refine go_cVi1 (pc' := 12) (M' := mX6_isPerson) (d' := 1) dX6_fits_9 rfl cvRX6_111 rfl rfl (by decide) rfl (Nat.le_of_ble_eq_true rfl) ?_
    refine tX6_isPerson h ?_
    refine go_if_eq (pc' := 15) (tgt := 23) dX6_fits_12 rfl (by decide) (fun h_12 => ?_) (fun h_12 => ?_)
    · have h_12 := pg_b0 h_12
      refine go_iconst (pc' := 24) (-1) dX6_fits_23 rfl (by decide) ?_
      refine go_iret dX6_fits_24 (pg_narI _) ?_
      rw [if_neg (fun q => h_12 q.2.1)] at k1
      exact k1 (fun q => h_12 q.1.2.1)
    · have h_12 := pg_b1 h_12
      obtain ⟨p, hp, rfl⟩ := pp_ex h_12
      have ep : pn (nI p) = p := nI_clamp (by omega)
      refine go_iload_n (pc' := 16) dX6_fits_15 rfl rfl ?_
      refine go_iconst (pc' := 17) 1 dX6_fits_16 rfl (by decide) ?_
      refine go_cSi2 (pc' := 20) (M' := mX6_upTo) (d' := 1) dX6_fits_17 rfl csRX6_97 (by decide) rfl (Nat.le_of_ble_eq_true rfl) ?_
      refine tX6_upTo ?_
      refine go_if_ne (pc' := 23) (tgt := 25) dX6_fits_20 rfl (by decide) (fun h_20 => ?_) (fun h_20 => ?_)
      · have h_20 := pg_b1 h_20
        refine go_aload_n (pc' := 26) dX6_fits_25 rfl rfl ?_
        refine go_getR (pc' := 29) dX6_fits_26 rfl flRX6_49 rfl rfl ?_
        refine go_iload_n (pc' := 30) dX6_fits_29 rfl rfl ?_
        refine go_aald (pc' := 31) s dX6_fits_30 rfl rfl (by decide) rfl hs4 (by decide) (sheet_rs s hs4) ?_
        refine go_astore (pc' := 33) dX6_fits_31 rfl (by decide) rfl ?_
        refine go_aload (pc' := 35) dX6_fits_33 rfl rfl ?_
        refine go_getI (pc' := 38) dX6_fits_35 rfl flRX6_209 (sheet_sh s hs4) rfl ?_
        refine go_iconst (pc' := 39) (-1) dX6_fits_38 rfl (by decide) ?_
        refine go_icmp_ne (pc' := 42) (tgt := 45) dX6_fits_39 rfl (by decide) (fun h_39 => ?_) (fun h_39 => ?_)
        · refine go_iconst (pc' := 46) 0 dX6_fits_45 rfl (by decide) ?_
          refine go_istore (pc' := 48) dX6_fits_46 rfl (by decide) rfl ?_
          refine go_bipush (pc' := 50) (-3) dX6_fits_48 rfl (by decide) ?_
          refine go_istore (pc' := 52) dX6_fits_50 rfl (by decide) rfl ?_
          refine go_iconst (pc' := 53) 5 dX6_fits_52 rfl (by decide) ?_
          refine go_istore (pc' := 55) dX6_fits_53 rfl (by decide) rfl ?_
          refine lfit (it := g.1 (46 + 2 * s)) wf hs4 hp hct 6 0 (-3) g (by omega) h rfl ect (fun g' z => ?_)
          have kk := k2 ⟨⟨h_4, h_12, h_20⟩, h_39⟩ g' z
          unfold fiA at kk
          rw [ect, ep, show pn (nI ct) = ct from nI_clamp (by omega)] at kk
          exact kk
        · refine go_bipush (pc' := 44) (-11) dX6_fits_42 rfl (by decide) ?_
          refine go_iret dX6_fits_44 (pg_narI _) ?_
          rw [if_pos ⟨h_4, h_12, h_20⟩] at k1
          exact k1 (fun q => q.2 h_39)
      · have h_20 := pg_b0 h_20
        refine go_iconst (pc' := 24) (-1) dX6_fits_23 rfl (by decide) ?_
        refine go_iret dX6_fits_24 (pg_narI _) ?_
        rw [if_neg (fun q => h_20 q.2.2)] at k1
        exact k1 (fun q => h_20 q.1.2.2)

set_option maxHeartbeats 4000000 in
set_option maxRecDepth 20000 in
theorem lso_x {sc : pg_Sc} {K : Int32 → pg_S → Prop} {T0 : TW} {n p s : Nat} {f x : Int32} {g : pg_S} (hf : f = 1 ∨ f = 0) (hn : n ≤ 8) (h0 : MR g 63 T0 n) (k : ∀ g', MR g' 60 T0 n → FR 60 61 g g' → K f g') : pg_Go sc 5 mX7_isSo 81 [(0, .ref 59), (1, .int (nI s)), (2, .int (nI p)), (3, .int f), (4, .int (x))] [] g (pg_ki K) := by
  refine go_aload_n (pc' := 82) dX7_isSo_81 rfl rfl ?_
  refine go_getR (pc' := 85) dX7_isSo_82 rfl flRX7_19 rfl rfl ?_
  refine go_aload_n (pc' := 86) dX7_isSo_85 rfl rfl ?_
  refine go_getR (pc' := 89) dX7_isSo_86 rfl flRX7_7 rfl rfl ?_
  refine go_cSv2 (pc' := 92) (M' := mX7_moveAll) (d' := 1) dX7_isSo_89 rfl csRX7_193 (by decide) rfl (Nat.le_of_ble_eq_true rfl) ?_
  refine tX7_mv_63_60 h0 hn (fun g1 h1 f1 => ?_)
  refine go_iload_n (pc' := 93) dX7_isSo_92 rfl rfl ?_
  refine go_iret dX7_isSo_93 (by rcases hf with e | e <;> rw [e]; exact pg_nar1; exact pg_nar0) ?_
  exact k _ h1 f1

set_option maxHeartbeats 4000000 in
set_option maxRecDepth 20000 in
theorem lso_0 {sc : pg_Sc} {K : Int32 → pg_S → Prop} {T0 : TW} {n p s : Nat} {x : Int32} {g : pg_S} (hs4 : s < 4) (hn : n ≤ 8) (h0 : MR g 63 T0 n) (k : ∀ g', MR g' 60 T0 n → FR 60 61 g g' → K 0 g') : pg_Go sc 5 mX7_isSo 5 [(0, .ref 59), (1, .int (nI s)), (2, .int (nI p)), (3, .int 0), (4, .int (x))] [] g (pg_ki K) := by
  refine go_iload (pc' := 7) dX7_isSo_5 rfl rfl ?_
  refine go_aload_n (pc' := 8) dX7_isSo_7 rfl rfl ?_
  refine go_getR (pc' := 11) dX7_isSo_8 rfl flRX7_37 rfl rfl ?_
  refine go_iload_n (pc' := 12) dX7_isSo_11 rfl rfl ?_
  refine go_iald (pc' := 13) s dX7_isSo_12 rfl rfl rfl hs4 (by decide) ?_
  refine go_icmp_ge (pc' := 16) (tgt := 81) dX7_isSo_13 rfl (by decide) (fun h_13 => ?_) (fun h_13 => ?_)
  · exact lso_x (Or.inr rfl) hn h0 k
  · refine go_iload_n (pc' := 17) dX7_isSo_16 rfl rfl ?_
    refine go_if_eq (pc' := 20) (tgt := 81) dX7_isSo_17 rfl (by decide) (fun h_17 => ?_) (fun h_17 => absurd (rfl) h_17)
    exact lso_x (Or.inr rfl) hn h0 k

set_option maxHeartbeats 4000000 in
set_option maxRecDepth 20000 in
theorem lso {sc : pg_Sc} {K : Int32 → pg_S → Prop} {T0 : TW} {n p s ct : Nat} {it : Nat → Int32} (hs4 : s < 4) (hp : p < n) (hct : ct ≤ 40) : ∀ (m : Nat) (i : Nat) (T : TW) (g : pg_S), i + m = ct → WF T n → MR g 60 T n → MR g 63 T0 n → g.1 69 s = nI ct → (∀ j, j < ct → g.2 70 (40 * s + j) = (it j).toInt64) → (∀ g', MR g' 60 T0 n → FR 60 61 g g' → K (if kaF n p it m i T = true then 1 else 0) g') → pg_Go sc 5 mX7_isSo 5 [(0, .ref 59), (1, .int (nI s)), (2, .int (nI p)), (3, .int 1), (4, .int (nI i))] [] g (pg_ki K) := by
  intro m
  induction m with
  | zero =>
    intro i T g hi wf h h0 hc hI k
    obtain rfl : i = ct := by omega
    refine go_iload (pc' := 7) dX7_isSo_5 rfl rfl ?_
    refine go_aload_n (pc' := 8) dX7_isSo_7 rfl rfl ?_
    refine go_getR (pc' := 11) dX7_isSo_8 rfl flRX7_37 rfl rfl ?_
    refine go_iload_n (pc' := 12) dX7_isSo_11 rfl rfl ?_
    refine go_iald (pc' := 13) s dX7_isSo_12 rfl rfl rfl hs4 (by decide) ?_
    rw [hc]
    refine go_icmp_ge (pc' := 16) (tgt := 81) dX7_isSo_13 rfl (by decide) (fun h_13 => ?_) (fun h_13 => absurd (Int32.le_refl _) h_13)
    exact lso_x (Or.inl rfl) wf.1 h0 k
  | succ m ih =>
    intro i T g hi wf h h0 hc hI k
    have hin : i < ct := by omega
    have hn := wf.1
    have wf1 := wf.hour
    obtain ⟨v, hv, ev⟩ := wf1.knows' hp
    refine go_iload (pc' := 7) dX7_isSo_5 rfl rfl ?_
    refine go_aload_n (pc' := 8) dX7_isSo_7 rfl rfl ?_
    refine go_getR (pc' := 11) dX7_isSo_8 rfl flRX7_37 rfl rfl ?_
    refine go_iload_n (pc' := 12) dX7_isSo_11 rfl rfl ?_
    refine go_iald (pc' := 13) s dX7_isSo_12 rfl rfl rfl hs4 (by decide) ?_
    rw [hc]
    refine go_icmp_ge (pc' := 16) (tgt := 81) dX7_isSo_13 rfl (by decide) (fun h_13 => absurd h_13 (nI_ge hin (by omega))) (fun h_13 => ?_)
    refine go_iload_n (pc' := 17) dX7_isSo_16 rfl rfl ?_
    refine go_if_eq (pc' := 20) (tgt := 81) dX7_isSo_17 rfl (by decide) (fun h_17 => absurd h_17 (by decide)) (fun h_17 => ?_)
    refine go_aload_n (pc' := 21) dX7_isSo_20 rfl rfl ?_
    refine go_cVv0 (pc' := 24) (M' := mX7_hourGoes) (d' := 4) dX7_isSo_21 rfl cvRX7_251 rfl rfl (by decide) rfl (Nat.le_of_ble_eq_true rfl) ?_
    refine tX7_hourGoes h wf (fun g1 h1 f1 => ?_)
    have hI1 : ∀ j, j < ct → g1.2 70 (40 * s + j) = (it j).toInt64 := by rw [f1.2]; exact hI
    refine go_aload_n (pc' := 25) dX7_isSo_24 rfl rfl ?_
    refine go_getR (pc' := 28) dX7_isSo_25 rfl flRX7_40 rfl rfl ?_
    refine go_bipush (pc' := 30) 40 dX7_isSo_28 rfl (by decide) ?_
    refine go_iload_n (pc' := 31) dX7_isSo_30 rfl rfl ?_
    refine go_imul (pc' := 32) dX7_isSo_31 rfl ?_
    refine go_iload (pc' := 34) dX7_isSo_32 rfl rfl ?_
    refine go_iadd (pc' := 35) dX7_isSo_34 rfl ?_
    refine go_lald (pc' := 36) (40 * s + i) dX7_isSo_35 rfl rfl (ix40 s i) (by omega) (by decide) ?_
    rw [hI1 i hin]
    refine go_ldc2 (pc' := 39) dX7_isSo_36 rfl clRX7_100 ?_
    refine go_lcmp (pc' := 40) dX7_isSo_39 rfl ?_
    refine go_if_eq (pc' := 43) (tgt := 69) dX7_isSo_40 rfl (by decide) (fun h_40 => ?_) (fun h_40 => ?_)
    · refine go_iconst (pc' := 70) 1 dX7_isSo_69 rfl (by decide) ?_
      refine go_goto (pc' := 74) dX7_isSo_70 (by decide) ?_
      refine go_istore_n (pc' := 75) dX7_isSo_74 rfl (by decide) rfl ?_
      refine go_iinc (pc' := 78) _ dX7_isSo_75 rfl rfl (pg_inc _) (by decide) rfl ?_
      refine go_goto (pc' := 5) dX7_isSo_78 (by decide) ?_
      rw [kaF_t (Or.inl (to64_m1.mp ((lg_cmp_eq _ _).mp h_40)))] at k
      exact ih (i + 1) _ _ (by omega) wf1 h1 (h0.fr f1 (by decide)) (by rw [f1.1 69 (by decide)]; exact hc) hI1 (fun g' z1 z2 => k g' z1 (FR.tr f1 z2))
    · refine go_aload_n (pc' := 44) dX7_isSo_43 rfl rfl ?_
      refine go_getR (pc' := 47) dX7_isSo_44 rfl flRX7_40 rfl rfl ?_
      refine go_bipush (pc' := 49) 40 dX7_isSo_47 rfl (by decide) ?_
      refine go_iload_n (pc' := 50) dX7_isSo_49 rfl rfl ?_
      refine go_imul (pc' := 51) dX7_isSo_50 rfl ?_
      refine go_iload (pc' := 53) dX7_isSo_51 rfl rfl ?_
      refine go_iadd (pc' := 54) dX7_isSo_53 rfl ?_
      refine go_lald (pc' := 55) (40 * s + i) dX7_isSo_54 rfl rfl (ix40 s i) (by omega) (by decide) ?_
      rw [hI1 i hin]
      refine go_aload_n (pc' := 56) dX7_isSo_55 rfl rfl ?_
      refine go_iload_n (pc' := 57) dX7_isSo_56 rfl rfl ?_
      refine go_iconst (pc' := 58) 4 dX7_isSo_57 rfl (by decide) ?_
      refine go_cVi2 (pc' := 61) (M' := mX7_its) (d' := 1) dX7_isSo_58 rfl cvRX7_217 rfl rfl (by decide) rfl (Nat.le_of_ble_eq_true rfl) ?_
      refine tX7_its4 h1 wf1 hp ?_
      rw [ev]
      refine go_cSi1 (pc' := 64) (M' := mX7_ones) (d' := 1) dX7_isSo_61 rfl csRX7_248 (by decide) rfl (Nat.le_of_ble_eq_true rfl) ?_
      refine tX7_ones (by omega) ?_
      rw [← ev]
      refine go_i2l (pc' := 65) dX7_isSo_64 rfl ?_
      refine go_lcmp (pc' := 66) dX7_isSo_65 rfl ?_
      refine go_if_ne (pc' := 69) (tgt := 73) dX7_isSo_66 rfl (by decide) (fun h_66 => ?_) (fun h_66 => ?_)
      · refine go_iconst (pc' := 74) 0 dX7_isSo_73 rfl (by decide) ?_
        refine go_istore_n (pc' := 75) dX7_isSo_74 rfl (by decide) rfl ?_
        refine go_iinc (pc' := 78) _ dX7_isSo_75 rfl rfl (pg_inc _) (by decide) rfl ?_
        refine go_goto (pc' := 5) dX7_isSo_78 (by decide) ?_
        rw [kaF_f (fun q => q.elim (fun z => h_40 ((lg_cmp_eq _ _).mpr (to64_m1.mpr z))) (fun z => h_66 ((lg_cmp_eq _ _).mpr (by rw [z]))))] at k
        exact lso_0 hs4 hn (h0.fr f1 (by decide)) (fun g' z1 z2 => k g' z1 (FR.tr f1 z2))
      · refine go_iconst (pc' := 70) 1 dX7_isSo_69 rfl (by decide) ?_
        refine go_goto (pc' := 74) dX7_isSo_70 (by decide) ?_
        refine go_istore_n (pc' := 75) dX7_isSo_74 rfl (by decide) rfl ?_
        refine go_iinc (pc' := 78) _ dX7_isSo_75 rfl rfl (pg_inc _) (by decide) rfl ?_
        refine go_goto (pc' := 5) dX7_isSo_78 (by decide) ?_
        rw [kaF_t (Or.inr (to64_inj.mp ((lg_cmp_eq _ _).mp h_66)))] at k
        exact ih (i + 1) _ _ (by omega) wf1 h1 (h0.fr f1 (by decide)) (by rw [f1.1 69 (by decide)]; exact hc) hI1 (fun g' z1 z2 => k g' z1 (FR.tr f1 z2))

set_option maxHeartbeats 4000000 in
set_option maxRecDepth 20000 in
theorem tX7_isSo {sc : pg_Sc} {g : pg_S} {K : Int32 → pg_S → Prop} {T T0 : TW} {n p s ct : Nat} {it : Nat → Int32} (h : MR g 60 T n) (h0 : MR g 63 T0 n) (wf : WF T n) (hp : p < n) (hs4 : s < 4) (hct : ct ≤ 40) (hc : g.1 69 s = nI ct) (hI : ∀ j, j < ct → g.2 70 (40 * s + j) = (it j).toInt64) (k : ∀ g', MR g' 60 T0 n → FR 60 61 g g' → K (if kaF n p it ct 0 T = true then 1 else 0) g') : pg_Cal sc 5 mX7_isSo [.ref 59, .int (nI s), .int (nI p)] g (pg_ki K) := by
  refine pg_Cal.of rfl (Nat.le_of_ble_eq_true rfl) rfl ?_
  refine go_iconst (pc' := 1) 1 dX7_isSo_0 rfl (by decide) ?_
  refine go_istore_n (pc' := 2) dX7_isSo_1 rfl (by decide) rfl ?_
  refine go_iconst (pc' := 3) 0 dX7_isSo_2 rfl (by decide) ?_
  refine go_istore (pc' := 5) dX7_isSo_3 rfl (by decide) rfl ?_
  exact lso hs4 hp hct ct 0 T g (by omega) wf h h0 hc hI k

set_option maxHeartbeats 4000000 in
set_option maxRecDepth 20000 in
theorem lmfit {sc : pg_Sc} {K : Int32 → pg_S → Prop} {T : TW} {n p s ct : Nat} {w : Int32} {it : Nat → Int32} (wf : WF T n) (hs4 : s < 4) (hp : p < n) (hct : ct ≤ 40) : ∀ (m : Nat) (c l : Int32) (g : pg_S), m ≤ 6 → MR g 60 T n → MR g 63 T n → g.1 69 s = nI ct → (∀ j, j < ct → g.2 70 (40 * s + j) = (it j).toInt64) → (∀ g', MR g' 60 T n → FM g g' → K (if w = 0 then fcF (fiC n p ct it T) m c else flF (fiC n p ct it T) m l) g') → pg_Go sc 6 mX7_fits 59 [(0, .ref 59), (1, .int (nI s)), (2, .int (nI p)), (3, .int w), (4, .int c), (5, .int l), (6, .int (nI m - 1))] [] g (pg_ki K) := by
  intro m
  induction m with
  | zero =>
    intro c l g hi h h0 hc hI k
    refine go_iload (pc' := 61) dX7_fits_59 rfl rfl ?_
    refine go_if_lt (pc' := 64) (tgt := 115) dX7_fits_61 rfl (by decide) (fun h_61 => ?_) (fun h_61 => absurd (by decide) h_61)
    refine go_iload_n (pc' := 116) dX7_fits_115 rfl rfl ?_
    refine go_if_ne (pc' := 119) (tgt := 124) dX7_fits_116 rfl (by decide) (fun h_116 => ?_) (fun h_116 => ?_)
    · refine go_iload (pc' := 126) dX7_fits_124 rfl rfl ?_
      refine go_iret dX7_fits_126 (pg_narI _) ?_
      rw [if_neg h_116] at k
      exact k _ h FM.rf
    · refine go_iload (pc' := 121) dX7_fits_119 rfl rfl ?_
      refine go_goto (pc' := 126) dX7_fits_121 (by decide) ?_
      refine go_iret dX7_fits_126 (pg_narI _) ?_
      rw [if_pos h_116] at k
      exact k _ h FM.rf
  | succ m ih =>
    intro c l g hi h h0 hc hI k
    simp only [fcF, flF] at k
    have hn := wf.1
    rw [show nI (m + 1) - 1 = nI m from pk_sub (a := m + 1) (b := 1) (by omega)]
    refine go_iload (pc' := 61) dX7_fits_59 rfl rfl ?_
    refine go_if_lt (pc' := 64) (tgt := 115) dX7_fits_61 rfl (by decide) (fun h_61 => absurd h_61 (nI_n0 (by omega))) (fun h_61 => ?_)
    refine go_aload_n (pc' := 65) dX7_fits_64 rfl rfl ?_
    refine go_iload_n (pc' := 66) dX7_fits_65 rfl rfl ?_
    refine go_iconst (pc' := 67) 1 dX7_fits_66 rfl (by decide) ?_
    refine go_iload (pc' := 69) dX7_fits_67 rfl rfl ?_
    refine go_cVv3 (pc' := 72) (M' := mX7_sets) (d' := 1) dX7_fits_69 rfl cvRX7_213 rfl rfl (by decide) rfl (Nat.le_of_ble_eq_true rfl) ?_
    refine tX7_sets (p := p) (q := 1) (by omega) (by decide) ?_
    refine go_gen (fun g1 e1 => ?_)
    have h1 : MR g1 60 (tu T 3 p (nI m)) n := by rw [e1]; exact h.put (a := 1) (by decide)
    have f1 : FR 60 61 g g1 := by rw [e1]; exact FR.ui (by decide)
    refine go_aload_n (pc' := 73) dX7_fits_72 rfl rfl ?_
    refine go_iload_n (pc' := 74) dX7_fits_73 rfl rfl ?_
    refine go_iload_n (pc' := 75) dX7_fits_74 rfl rfl ?_
    refine go_cVi2 (pc' := 78) (M' := mX7_isSo) (d' := 5) dX7_fits_75 rfl cvRX7_296 rfl rfl (by decide) rfl (Nat.le_of_ble_eq_true rfl) ?_
    refine tX7_isSo h1 (h0.fr f1 (by decide)) (wf.tu3 (by omega)) hp hs4 hct (by rw [f1.1 69 (by decide)]; exact hc) (by rw [f1.2]; exact hI) (fun g2 h2 f2 => ?_)
    have fa := FR.tr f1 f2
    have efi : kaF n p it ct 0 (tu T 3 p (nI m)) = fiC n p ct it T m := rfl
    rw [efi]
    refine go_istore (pc' := 80) dX7_fits_78 rfl (by decide) rfl ?_
    refine go_iload (pc' := 82) dX7_fits_80 rfl rfl ?_
    refine go_iload (pc' := 84) dX7_fits_82 rfl rfl ?_
    refine go_if_eq (pc' := 87) (tgt := 91) dX7_fits_84 rfl (by decide) (fun h_84 => ?_) (fun h_84 => ?_)
    · refine go_iconst (pc' := 92) 0 dX7_fits_91 rfl (by decide) ?_
      refine go_iadd (pc' := 93) dX7_fits_92 rfl ?_
      refine go_istore (pc' := 95) dX7_fits_93 rfl (by decide) rfl ?_
      refine go_iload (pc' := 97) dX7_fits_95 rfl rfl ?_
      refine go_if_eq (pc' := 100) (tgt := 105) dX7_fits_97 rfl (by decide) (fun h_97 => ?_) (fun h_97 => absurd (h_84) h_97)
      refine go_iload (pc' := 107) dX7_fits_105 rfl rfl ?_
      refine go_istore (pc' := 109) dX7_fits_107 rfl (by decide) rfl ?_
      refine go_iinc (pc' := 112) _ dX7_fits_109 rfl rfl (pg_dec _) (by decide) rfl ?_
      refine go_goto (pc' := 59) dX7_fits_112 (by decide) ?_
      rw [if_neg (pg_b0 h_84), if_neg (pg_b0 h_84)] at k
      rw [Int32.add_zero]
      refine go_sub [0, 1, 2, 3, 4, 5, 6] rfl ?_
      exact ih _ _ _ (by omega) h2 (h0.fr fa (by decide)) (by rw [fa.1 69 (by decide)]; exact hc) (by rw [fa.2]; exact hI) (fun g' z1 z => k g' z1 (FM.tr (FM.a fa) z))
    · refine go_iconst (pc' := 88) 1 dX7_fits_87 rfl (by decide) ?_
      refine go_goto (pc' := 92) dX7_fits_88 (by decide) ?_
      refine go_iadd (pc' := 93) dX7_fits_92 rfl ?_
      refine go_istore (pc' := 95) dX7_fits_93 rfl (by decide) rfl ?_
      refine go_iload (pc' := 97) dX7_fits_95 rfl rfl ?_
      refine go_if_eq (pc' := 100) (tgt := 105) dX7_fits_97 rfl (by decide) (fun h_97 => absurd h_97 (h_84)) (fun h_97 => ?_)
      refine go_iload (pc' := 102) dX7_fits_100 rfl rfl ?_
      refine go_goto (pc' := 107) dX7_fits_102 (by decide) ?_
      refine go_istore (pc' := 109) dX7_fits_107 rfl (by decide) rfl ?_
      refine go_iinc (pc' := 112) _ dX7_fits_109 rfl rfl (pg_dec _) (by decide) rfl ?_
      refine go_goto (pc' := 59) dX7_fits_112 (by decide) ?_
      rw [if_pos (pg_b1 h_84), if_pos (pg_b1 h_84)] at k
      refine go_sub [0, 1, 2, 3, 4, 5, 6] rfl ?_
      exact ih _ _ _ (by omega) h2 (h0.fr fa (by decide)) (by rw [fa.1 69 (by decide)]; exact hc) (by rw [fa.2]; exact hI) (fun g' z1 z => k g' z1 (FM.tr (FM.a fa) z))

set_option maxHeartbeats 4000000 in
set_option maxRecDepth 20000 in
theorem tX7_fits {sc : pg_Sc} {g : pg_S} {K : Int32 → pg_S → Prop} {T : TW} {n : Nat} {x y w : Int32} {it : Nat → Nat → Int32} (hS : ∀ s, s < 4 → (∃ c, c ≤ 40 ∧ g.1 69 s = nI c) ∧ ∃ k, k ≤ 4 ∧ g.1 68 s = nI k - 1) (hI : ∀ s, s < 4 → ∀ c, c ≤ 40 → g.1 69 s = nI c → ∀ j, j < c → g.2 70 (40 * s + j) = (it s j).toInt64) (h : MR g 60 T n) (wf : WF T n) (k1 : ¬ ((UP x 3 ∧ PP n y ∧ UP w 1) ∧ ¬ g.1 68 (pn x) = -1) → K (if UP x 3 ∧ PP n y ∧ UP w 1 then -11 else -1) g) (k2 : (UP x 3 ∧ PP n y ∧ UP w 1) ∧ ¬ g.1 68 (pn x) = -1 → ∀ g', MR g' 60 T n → FM g g' → K (fiA n (pn (g.1 69 (pn x))) (it (pn x)) T y w) g') : pg_Cal sc 6 mX7_fits [.ref 59, .int x, .int y, .int w] g (pg_ki K) := by
  refine pg_Cal.of rfl (Nat.le_of_ble_eq_true rfl) rfl ?_
  have hn := wf.1
  refine go_iload_n (pc' := 1) dX7_fits_0 rfl rfl ?_
  refine go_cSi1 (pc' := 4) (M' := mX7_isShelf) (d' := 2) dX7_fits_1 rfl csRX7_293 (by decide) rfl (Nat.le_of_ble_eq_true rfl) ?_
  refine tX7_isShelf ?_
  refine go_if_eq (pc' := 7) (tgt := 24) dX7_fits_4 rfl (by decide) (fun h_4 => ?_) (fun h_4 => ?_)
  · have h_4 := pg_b0 h_4
    refine go_iconst (pc' := 25) (-1) dX7_fits_24 rfl (by decide) ?_
    refine go_iret dX7_fits_25 (pg_narI _) ?_
    rw [if_neg (fun q => h_4 q.1)] at k1
    exact k1 (fun q => h_4 q.1.1)
  · have h_4 := pg_b1 h_4
    obtain ⟨s, hs, rfl⟩ := up_ex 3 rfl (by decide) h_4
    have es : pn (nI s) = s := nI_clamp (by omega)
    have hs4 : s < 4 := by omega
    rw [es] at k1 k2
    obtain ⟨⟨ct, hct, ect⟩, hk⟩ := hS s hs4
    refine go_aload_n (pc' := 8) dX7_fits_7 rfl rfl ?_
    refine go_iload_n (pc' := 9) dX7_fits_8 rfl rfl ?_
    refine go_cVi1 (pc' := 12) (M' := mX7_isOne) (d' := 2) dX7_fits_9 rfl cvRX7_220 rfl rfl (by decide) rfl (Nat.le_of_ble_eq_true rfl) ?_
    refine tX7_isOne h wf ?_
    refine go_if_eq (pc' := 15) (tgt := 24) dX7_fits_12 rfl (by decide) (fun h_12 => ?_) (fun h_12 => ?_)
    · have h_12 := pg_b0 h_12
      refine go_iconst (pc' := 25) (-1) dX7_fits_24 rfl (by decide) ?_
      refine go_iret dX7_fits_25 (pg_narI _) ?_
      rw [if_neg (fun q => h_12 q.2.1)] at k1
      exact k1 (fun q => h_12 q.1.2.1)
    · have h_12 := pg_b1 h_12
      obtain ⟨p, hp, rfl⟩ := pp_ex h_12
      have ep : pn (nI p) = p := nI_clamp (by omega)
      refine go_iload_n (pc' := 16) dX7_fits_15 rfl rfl ?_
      refine go_iconst (pc' := 17) 0 dX7_fits_16 rfl (by decide) ?_
      refine go_iconst (pc' := 18) 1 dX7_fits_17 rfl (by decide) ?_
      refine go_cSi3 (pc' := 21) (M' := mX7_in) (d' := 1) dX7_fits_18 rfl csRX7_60 (by decide) rfl (Nat.le_of_ble_eq_true rfl) ?_
      refine tX7_in ?_
      refine go_if_ne (pc' := 24) (tgt := 26) dX7_fits_21 rfl (by decide) (fun h_21 => ?_) (fun h_21 => ?_)
      · have h_21 := pg_b1 h_21
        refine go_aload_n (pc' := 27) dX7_fits_26 rfl rfl ?_
        refine go_getR (pc' := 30) dX7_fits_27 rfl flRX7_34 rfl rfl ?_
        refine go_iload_n (pc' := 31) dX7_fits_30 rfl rfl ?_
        refine go_iald (pc' := 32) s dX7_fits_31 rfl rfl rfl hs4 (by decide) ?_
        refine go_if_ge (pc' := 35) (tgt := 38) dX7_fits_32 rfl (by decide) (fun h_32 => ?_) (fun h_32 => ?_)
        · refine go_aload_n (pc' := 39) dX7_fits_38 rfl rfl ?_
          refine go_getR (pc' := 42) dX7_fits_39 rfl flRX7_7 rfl rfl ?_
          refine go_aload_n (pc' := 43) dX7_fits_42 rfl rfl ?_
          refine go_getR (pc' := 46) dX7_fits_43 rfl flRX7_19 rfl rfl ?_
          refine go_cSv2 (pc' := 49) (M' := mX7_moveAll) (d' := 1) dX7_fits_46 rfl csRX7_193 (by decide) rfl (Nat.le_of_ble_eq_true rfl) ?_
          refine tX7_mv_60_63 h hn (fun g1 h1 f1 => ?_)
          have h11 := h.fr f1 (by decide)
          refine go_iconst (pc' := 50) 0 dX7_fits_49 rfl (by decide) ?_
          refine go_istore (pc' := 52) dX7_fits_50 rfl (by decide) rfl ?_
          refine go_bipush (pc' := 54) (-3) dX7_fits_52 rfl (by decide) ?_
          refine go_istore (pc' := 56) dX7_fits_54 rfl (by decide) rfl ?_
          refine go_iconst (pc' := 57) 5 dX7_fits_56 rfl (by decide) ?_
          refine go_istore (pc' := 59) dX7_fits_57 rfl (by decide) rfl ?_
          have hso : ¬ g.1 68 s = -1 := fun q => pg_lt_nle ((sort_lt hk).mpr q) h_32
          refine lmfit (it := it s) wf hs4 hp hct 6 0 (-3) g1 (by omega) h11 h1 (by rw [f1.1 69 (by decide)]; exact ect) (by rw [f1.2]; exact hI s hs4 ct hct ect) (fun g' z1 z => ?_)
          have kk := k2 ⟨⟨h_4, h_12, h_21⟩, hso⟩ g' z1 (FM.tr (FM.b f1) z)
          unfold fiA at kk
          rw [ect, ep, show pn (nI ct) = ct from nI_clamp (by omega)] at kk
          exact kk
        · refine go_bipush (pc' := 37) (-11) dX7_fits_35 rfl (by decide) ?_
          refine go_iret dX7_fits_37 (pg_narI _) ?_
          rw [if_pos ⟨h_4, h_12, h_21⟩] at k1
          exact k1 (fun q => q.2 ((sort_lt hk).mp (pg_nle_lt h_32)))
      · have h_21 := pg_b0 h_21
        refine go_iconst (pc' := 25) (-1) dX7_fits_24 rfl (by decide) ?_
        refine go_iret dX7_fits_25 (pg_narI _) ?_
        rw [if_neg (fun q => h_21 q.2.2)] at k1
        exact k1 (fun q => h_21 q.1.2.2)

