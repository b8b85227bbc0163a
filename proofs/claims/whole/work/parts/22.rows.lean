set_option maxHeartbeats 4000000 in
set_option maxRecDepth 20000 in
theorem lfnd {sc : pg_Sc} {K : Int32 → pg_S → Prop} {T : TW} {n c : Nat} {x : Int32} (wf : WF T n) (hc : c < 2 ^ 31) : ∀ (m : Nat) (i : Nat) (z s : Int32) (g : pg_S), i + m = c → CR g 1 T n → (∀ g', FR 10 19 g g' → K (fndF n T x m z s) g') → pg_Go sc 5 mX6_found 52 [(0, .ref 0), (1, .int (nI c)), (2, .int x), (3, .int z), (4, .int s), (5, .int (nI i))] [] g (pg_ki K) := by
  intro m
  induction m with
  | zero =>
    intro i z s g hi h k
    obtain rfl : i = c := by omega
    refine go_iload (pc' := 54) dX6_found_52 rfl rfl ?_
    refine go_iload_n (pc' := 55) dX6_found_54 rfl rfl ?_
    refine go_icmp_ge (pc' := 58) (tgt := 112) dX6_found_55 rfl (by decide) (fun h_55 => ?_) (fun h_55 => absurd (Int32.le_refl _) h_55)
    refine go_iload (pc' := 114) dX6_found_112 rfl rfl ?_
    refine go_iret dX6_found_114 (pg_narI _) ?_
    exact k _ FR.rf
  | succ m ih =>
    intro i z s g hi h k
    have hn := wf.1
    have hin : i < c := by omega
    simp only [fndF] at k
    refine go_iload (pc' := 54) dX6_found_52 rfl rfl ?_
    refine go_iload_n (pc' := 55) dX6_found_54 rfl rfl ?_
    refine go_icmp_ge (pc' := 58) (tgt := 112) dX6_found_55 rfl (by decide) (fun h_55 => absurd h_55 (nI_ge hin hc)) (fun h_55 => ?_)
    refine go_aload_n (pc' := 59) dX6_found_58 rfl rfl ?_
    refine go_getR (pc' := 62) dX6_found_59 rfl flRX6_16 rfl rfl ?_
    refine go_aload_n (pc' := 63) dX6_found_62 rfl rfl ?_
    refine go_getR (pc' := 66) dX6_found_63 rfl flRX6_10 rfl rfl ?_
    refine go_cVv1 (pc' := 69) (M' := mX5_become) (d' := 1) dX6_found_66 rfl cvRX6_87 rfl rfl (by decide) rfl (Nat.le_of_ble_eq_true rfl) ?_
    refine tX5_become_10_1 h hn (fun g1 h1 f1 => ?_)
    refine go_aload_n (pc' := 70) dX6_found_69 rfl rfl ?_
    refine go_getR (pc' := 73) dX6_found_70 rfl flRX6_16 rfl rfl ?_
    refine go_iload_n (pc' := 74) dX6_found_73 rfl rfl ?_
    refine go_putI (pc' := 77) dX6_found_74 rfl flRX6_76 rfl rfl ft5_10 ?_
    refine go_gen (fun g2 e2 => ?_)
    have h2 : CR g2 10 (tu T 8 2 z) n := by rw [e2]; exact h1.scal (i := 2) (by decide)
    have f2 : FR 10 19 g1 g2 := by rw [e2]; exact FR.ui (by decide)
    refine go_aload_n (pc' := 78) dX6_found_77 rfl rfl ?_
    refine go_getR (pc' := 81) dX6_found_78 rfl flRX6_16 rfl rfl ?_
    refine go_cVv0 (pc' := 84) (M' := mX5_spendHourByDraws) (d' := 4) dX6_found_81 rfl cvRX6_168 rfl rfl (by decide) rfl (Nat.le_of_ble_eq_true rfl) ?_
    refine tX5_byDraws_10 h2 wf.tu8 (fun g3 h3 f3 => ?_)
    have f13 := FR.tr (FR.tr f1 f2) f3
    refine go_aload_n (pc' := 85) dX6_found_84 rfl rfl ?_
    refine go_getR (pc' := 88) dX6_found_85 rfl flRX6_16 rfl rfl ?_
    refine go_getI (pc' := 91) dX6_found_88 rfl flRX6_76 rfl rfl ?_
    rw [c10_z h3]
    refine go_istore_n (pc' := 92) dX6_found_91 rfl (by decide) rfl ?_
    refine go_aload_n (pc' := 93) dX6_found_92 rfl rfl ?_
    refine go_getR (pc' := 96) dX6_found_93 rfl flRX6_16 rfl rfl ?_
    refine go_cVi0 (pc' := 99) (M' := mX5_pairs) (d' := 3) dX6_found_96 rfl cvRX6_164 rfl rfl (by decide) rfl (Nat.le_of_ble_eq_true rfl) ?_
    refine tX5_pairs_10 h3 wf.tu8.draw.hour ?_
    refine go_iload_n (pc' := 100) dX6_found_99 rfl rfl ?_
    refine go_icmp_le (pc' := 103) (tgt := 106) dX6_found_100 rfl (by decide) (fun h_100 => ?_) (fun h_100 => ?_)
    · refine go_iinc (pc' := 109) _ dX6_found_106 rfl rfl (pg_inc _) (by decide) rfl ?_
      refine go_goto (pc' := 52) dX6_found_109 (by decide) ?_
      rw [if_neg (fun q => pg_lt_nle q h_100)] at k
      exact ih (i + 1) _ _ _ (by omega) (h.fr f13 (by decide)) (fun g' a => k g' (FR.tr f13 a))
    · refine go_iinc (pc' := 106) _ dX6_found_103 rfl rfl (pg_inc' _) (by decide) rfl ?_
      refine go_iinc (pc' := 109) _ dX6_found_106 rfl rfl (pg_inc _) (by decide) rfl ?_
      refine go_goto (pc' := 52) dX6_found_109 (by decide) ?_
      rw [if_pos (pg_nle_lt h_100)] at k
      exact ih (i + 1) _ _ _ (by omega) (h.fr f13 (by decide)) (fun g' a => k g' (FR.tr f13 a))

set_option maxHeartbeats 4000000 in
set_option maxRecDepth 20000 in
theorem tX6_found {sc : pg_Sc} {g : pg_S} {K : Int32 → pg_S → Prop} {T : TW} {n : Nat} {x : Int32} (h : CR g 1 T n) (wf : WF T n) (k1 : ¬ IN x 1 30 → K (-1) g) (k2 : IN x 1 30 → ∀ g', FR 10 19 g g' → K (fndF n T (pairsF n (hourF n T)) (pn x) (T 8 2) 0) g') : pg_Cal sc 5 mX6_found [.ref 0, .int x] g (pg_ki K) := by
  refine pg_Cal.of rfl (Nat.le_of_ble_eq_true rfl) rfl ?_
  have hn := wf.1
  refine go_iload_n (pc' := 1) dX6_found_0 rfl rfl ?_
  refine go_iconst (pc' := 2) 1 dX6_found_1 rfl (by decide) ?_
  refine go_bipush (pc' := 4) 30 dX6_found_2 rfl (by decide) ?_
  refine go_cSi3 (pc' := 7) (M' := mX6_between) (d' := 1) dX6_found_4 rfl csRX6_65 (by decide) rfl (Nat.le_of_ble_eq_true rfl) ?_
  refine tX6_between ?_
  refine go_if_ne (pc' := 10) (tgt := 12) dX6_found_7 rfl (by decide) (fun h_7 => ?_) (fun h_7 => ?_)
  · have h_7 := pg_b1 h_7
    obtain ⟨c, hca, hc, rfl⟩ := in_ex 1 30 rfl rfl (by decide) (by decide) h_7
    have ec : pn (nI c) = c := nI_clamp (by omega)
    rw [ec] at k2
    refine go_aload_n (pc' := 13) dX6_found_12 rfl rfl ?_
    refine go_getR (pc' := 16) dX6_found_13 rfl flRX6_16 rfl rfl ?_
    refine go_aload_n (pc' := 17) dX6_found_16 rfl rfl ?_
    refine go_getR (pc' := 20) dX6_found_17 rfl flRX6_10 rfl rfl ?_
    refine go_cVv1 (pc' := 23) (M' := mX5_become) (d' := 1) dX6_found_20 rfl cvRX6_87 rfl rfl (by decide) rfl (Nat.le_of_ble_eq_true rfl) ?_
    refine tX5_become_10_1 h hn (fun g1 h1 f1 => ?_)
    refine go_aload_n (pc' := 24) dX6_found_23 rfl rfl ?_
    refine go_getR (pc' := 27) dX6_found_24 rfl flRX6_16 rfl rfl ?_
    refine go_cVv0 (pc' := 30) (M' := mX5_spendHour) (d' := 3) dX6_found_27 rfl cvRX6_171 rfl rfl (by decide) rfl (Nat.le_of_ble_eq_true rfl) ?_
    refine tX5_spendHour_10 h1 wf (fun g2 h2 f2 => ?_)
    have f12 := FR.tr f1 f2
    have hh := h.fr f12 (by decide)
    refine go_aload_n (pc' := 31) dX6_found_30 rfl rfl ?_
    refine go_getR (pc' := 34) dX6_found_31 rfl flRX6_16 rfl rfl ?_
    refine go_cVi0 (pc' := 37) (M' := mX5_pairs) (d' := 3) dX6_found_34 rfl cvRX6_164 rfl rfl (by decide) rfl (Nat.le_of_ble_eq_true rfl) ?_
    refine tX5_pairs_10 h2 wf.hour ?_
    refine go_istore_n (pc' := 38) dX6_found_37 rfl (by decide) rfl ?_
    refine go_aload_n (pc' := 39) dX6_found_38 rfl rfl ?_
    refine go_getR (pc' := 42) dX6_found_39 rfl flRX6_10 rfl rfl ?_
    refine go_getI (pc' := 45) dX6_found_42 rfl flRX6_76 rfl rfl ?_
    rw [c1_z hh]
    refine go_istore_n (pc' := 46) dX6_found_45 rfl (by decide) rfl ?_
    refine go_iconst (pc' := 47) 0 dX6_found_46 rfl (by decide) ?_
    refine go_istore (pc' := 49) dX6_found_47 rfl (by decide) rfl ?_
    refine go_iconst (pc' := 50) 0 dX6_found_49 rfl (by decide) ?_
    refine go_istore (pc' := 52) dX6_found_50 rfl (by decide) rfl ?_
    exact lfnd wf (by omega) c 0 _ 0 g2 (by omega) hh (fun g' a => k2 h_7 g' (FR.tr f12 a))
  · have h_7 := pg_b0 h_7
    refine go_iconst (pc' := 11) (-1) dX6_found_10 rfl (by decide) ?_
    refine go_iret dX6_found_11 (pg_narI _) ?_
    exact k1 (fun q => h_7 q)

set_option maxHeartbeats 4000000 in
set_option maxRecDepth 20000 in
theorem lmfnd {sc : pg_Sc} {K : Int32 → pg_S → Prop} {T : TW} {n c : Nat} {x : Int32} (wf : WF T n) (hc : c < 2 ^ 31) : ∀ (m : Nat) (i : Nat) (z s : Int32) (g : pg_S), i + m = c → MR g 60 T n → MR g 63 T n → (∀ g', MR g' 60 T n → FM g g' → K (fndF n T x m z s) g') → pg_Go sc 6 mX7_found 57 [(0, .ref 59), (1, .int (nI c)), (2, .int x), (3, .int z), (4, .int s), (5, .int (nI i))] [] g (pg_ki K) := by
  intro m
  induction m with
  | zero =>
    intro i z s g hi h h0 k
    obtain rfl : i = c := by omega
    refine go_iload (pc' := 59) dX7_found_57 rfl rfl ?_
    refine go_iload_n (pc' := 60) dX7_found_59 rfl rfl ?_
    refine go_icmp_ge (pc' := 63) (tgt := 114) dX7_found_60 rfl (by decide) (fun h_60 => ?_) (fun h_60 => absurd (Int32.le_refl _) h_60)
    refine go_iload (pc' := 116) dX7_found_114 rfl rfl ?_
    refine go_iret dX7_found_116 (pg_narI _) ?_
    exact k _ h FM.rf
  | succ m ih =>
    intro i z s g hi h h0 k
    have hn := wf.1
    have hin : i < c := by omega
    simp only [fndF] at k
    refine go_iload (pc' := 59) dX7_found_57 rfl rfl ?_
    refine go_iload_n (pc' := 60) dX7_found_59 rfl rfl ?_
    refine go_icmp_ge (pc' := 63) (tgt := 114) dX7_found_60 rfl (by decide) (fun h_60 => absurd h_60 (nI_ge hin hc)) (fun h_60 => ?_)
    refine go_aload_n (pc' := 64) dX7_found_63 rfl rfl ?_
    refine go_getR (pc' := 67) dX7_found_64 rfl flRX7_7 rfl rfl ?_
    refine go_bipush (pc' := 69) 6 dX7_found_67 rfl (by decide) ?_
    refine go_iload_n (pc' := 70) dX7_found_69 rfl rfl ?_
    refine go_iast (pc' := 71) 6 dX7_found_70 rfl rfl rfl (by omega) (by decide) ?_
    refine go_gen (fun g2 e2 => ?_)
    have h2 : MR g2 60 (tu T 8 2 z) n := by rw [e2]; exact h.z
    have f2 : FR 60 61 g g2 := by rw [e2]; exact FR.ui (by decide)
    refine go_iload (pc' := 73) dX7_found_71 rfl rfl ?_
    refine go_aload_n (pc' := 74) dX7_found_73 rfl rfl ?_
    refine go_cVi0 (pc' := 77) (M' := mX7_hourByDraws) (d' := 5) dX7_found_74 rfl cvRX7_261 rfl rfl (by decide) rfl (Nat.le_of_ble_eq_true rfl) ?_
    refine tX7_hourByDraws h2 wf.tu8 (fun g3 h3 f3 => ?_)
    refine go_iload_n (pc' := 78) dX7_found_77 rfl rfl ?_
    refine go_icmp_le (pc' := 81) (tgt := 85) dX7_found_78 rfl (by decide) (fun h_78 => ?_) (fun h_78 => ?_)
    · refine go_iconst (pc' := 86) 0 dX7_found_85 rfl (by decide) ?_
      refine go_iadd (pc' := 87) dX7_found_86 rfl ?_
      refine go_istore (pc' := 89) dX7_found_87 rfl (by decide) rfl ?_
      refine go_aload_n (pc' := 90) dX7_found_89 rfl rfl ?_
      refine go_getR (pc' := 93) dX7_found_90 rfl flRX7_7 rfl rfl ?_
      refine go_bipush (pc' := 95) 6 dX7_found_93 rfl (by decide) ?_
      refine go_iald (pc' := 96) 6 dX7_found_95 rfl rfl rfl (by decide) (by decide) ?_
      rw [m60_z h3]
      refine go_istore_n (pc' := 97) dX7_found_96 rfl (by decide) rfl ?_
      refine go_aload_n (pc' := 98) dX7_found_97 rfl rfl ?_
      refine go_getR (pc' := 101) dX7_found_98 rfl flRX7_19 rfl rfl ?_
      refine go_aload_n (pc' := 102) dX7_found_101 rfl rfl ?_
      refine go_getR (pc' := 105) dX7_found_102 rfl flRX7_7 rfl rfl ?_
      refine go_cSv2 (pc' := 108) (M' := mX7_moveAll) (d' := 1) dX7_found_105 rfl csRX7_193 (by decide) rfl (Nat.le_of_ble_eq_true rfl) ?_
      have h03 := (h0.fr f2 (by decide)).fr f3 (by decide)
      refine tX7_mv_63_60 h03 hn (fun g4 h4 f4 => ?_)
      have fa := FM.tr (FM.tr (FM.a f2) (FM.a f3)) (FM.a f4)
      refine go_iinc (pc' := 111) _ dX7_found_108 rfl rfl (pg_inc _) (by decide) rfl ?_
      refine go_goto (pc' := 57) dX7_found_111 (by decide) ?_
      rw [if_neg (fun q => pg_lt_nle q h_78)] at k
      rw [Int32.add_zero]
      exact ih (i + 1) _ _ _ (by omega) h4 (h03.fr f4 (by decide)) (fun g' a b => k g' a (FM.tr fa b))
    · refine go_iconst (pc' := 82) 1 dX7_found_81 rfl (by decide) ?_
      refine go_goto (pc' := 86) dX7_found_82 (by decide) ?_
      refine go_iadd (pc' := 87) dX7_found_86 rfl ?_
      refine go_istore (pc' := 89) dX7_found_87 rfl (by decide) rfl ?_
      refine go_aload_n (pc' := 90) dX7_found_89 rfl rfl ?_
      refine go_getR (pc' := 93) dX7_found_90 rfl flRX7_7 rfl rfl ?_
      refine go_bipush (pc' := 95) 6 dX7_found_93 rfl (by decide) ?_
      refine go_iald (pc' := 96) 6 dX7_found_95 rfl rfl rfl (by decide) (by decide) ?_
      rw [m60_z h3]
      refine go_istore_n (pc' := 97) dX7_found_96 rfl (by decide) rfl ?_
      refine go_aload_n (pc' := 98) dX7_found_97 rfl rfl ?_
      refine go_getR (pc' := 101) dX7_found_98 rfl flRX7_19 rfl rfl ?_
      refine go_aload_n (pc' := 102) dX7_found_101 rfl rfl ?_
      refine go_getR (pc' := 105) dX7_found_102 rfl flRX7_7 rfl rfl ?_
      refine go_cSv2 (pc' := 108) (M' := mX7_moveAll) (d' := 1) dX7_found_105 rfl csRX7_193 (by decide) rfl (Nat.le_of_ble_eq_true rfl) ?_
      have h03 := (h0.fr f2 (by decide)).fr f3 (by decide)
      refine tX7_mv_63_60 h03 hn (fun g4 h4 f4 => ?_)
      have fa := FM.tr (FM.tr (FM.a f2) (FM.a f3)) (FM.a f4)
      refine go_iinc (pc' := 111) _ dX7_found_108 rfl rfl (pg_inc _) (by decide) rfl ?_
      refine go_goto (pc' := 57) dX7_found_111 (by decide) ?_
      rw [if_pos (pg_nle_lt h_78)] at k
      exact ih (i + 1) _ _ _ (by omega) h4 (h03.fr f4 (by decide)) (fun g' a b => k g' a (FM.tr fa b))

set_option maxHeartbeats 4000000 in
set_option maxRecDepth 20000 in
theorem tX7_found {sc : pg_Sc} {g : pg_S} {K : Int32 → pg_S → Prop} {T : TW} {n : Nat} {x : Int32} (h : MR g 60 T n) (wf : WF T n) (k1 : ¬ IN x 1 30 → K (-1) g) (k2 : IN x 1 30 → ∀ g', MR g' 60 T n → FM g g' → K (fndF n T (pairsF n (hourF n T)) (pn x) (T 8 2) 0) g') : pg_Cal sc 6 mX7_found [.ref 59, .int x] g (pg_ki K) := by
  refine pg_Cal.of rfl (Nat.le_of_ble_eq_true rfl) rfl ?_
  have hn := wf.1
  refine go_iload_n (pc' := 1) dX7_found_0 rfl rfl ?_
  refine go_iconst (pc' := 2) 1 dX7_found_1 rfl (by decide) ?_
  refine go_bipush (pc' := 4) 30 dX7_found_2 rfl (by decide) ?_
  refine go_cSi3 (pc' := 7) (M' := mX7_in) (d' := 1) dX7_found_4 rfl csRX7_60 (by decide) rfl (Nat.le_of_ble_eq_true rfl) ?_
  refine tX7_in ?_
  refine go_if_ne (pc' := 10) (tgt := 12) dX7_found_7 rfl (by decide) (fun h_7 => ?_) (fun h_7 => ?_)
  · have h_7 := pg_b1 h_7
    obtain ⟨c, hca, hc, rfl⟩ := in_ex 1 30 rfl rfl (by decide) (by decide) h_7
    have ec : pn (nI c) = c := nI_clamp (by omega)
    rw [ec] at k2
    refine go_aload_n (pc' := 13) dX7_found_12 rfl rfl ?_
    refine go_getR (pc' := 16) dX7_found_13 rfl flRX7_7 rfl rfl ?_
    refine go_aload_n (pc' := 17) dX7_found_16 rfl rfl ?_
    refine go_getR (pc' := 20) dX7_found_17 rfl flRX7_19 rfl rfl ?_
    refine go_cSv2 (pc' := 23) (M' := mX7_moveAll) (d' := 1) dX7_found_20 rfl csRX7_193 (by decide) rfl (Nat.le_of_ble_eq_true rfl) ?_
    refine tX7_mv_60_63 h hn (fun g1 h1 f1 => ?_)
    have h11 := h.fr f1 (by decide)
    refine go_aload_n (pc' := 24) dX7_found_23 rfl rfl ?_
    refine go_cVv0 (pc' := 27) (M' := mX7_hourGoes) (d' := 4) dX7_found_24 rfl cvRX7_251 rfl rfl (by decide) rfl (Nat.le_of_ble_eq_true rfl) ?_
    refine tX7_hourGoes h11 wf (fun g2 h2 f2 => ?_)
    have h12 := h1.fr f2 (by decide)
    refine go_aload_n (pc' := 28) dX7_found_27 rfl rfl ?_
    refine go_cVi0 (pc' := 31) (M' := mX7_pairs) (d' := 2) dX7_found_28 rfl cvRX7_254 rfl rfl (by decide) rfl (Nat.le_of_ble_eq_true rfl) ?_
    refine tX7_pairs h2 wf.hour ?_
    refine go_istore_n (pc' := 32) dX7_found_31 rfl (by decide) rfl ?_
    refine go_aload_n (pc' := 33) dX7_found_32 rfl rfl ?_
    refine go_getR (pc' := 36) dX7_found_33 rfl flRX7_19 rfl rfl ?_
    refine go_aload_n (pc' := 37) dX7_found_36 rfl rfl ?_
    refine go_getR (pc' := 40) dX7_found_37 rfl flRX7_7 rfl rfl ?_
    refine go_cSv2 (pc' := 43) (M' := mX7_moveAll) (d' := 1) dX7_found_40 rfl csRX7_193 (by decide) rfl (Nat.le_of_ble_eq_true rfl) ?_
    refine tX7_mv_63_60 h12 hn (fun g3 h3 f3 => ?_)
    have h13 := h12.fr f3 (by decide)
    have fa := FM.tr (FM.tr (FM.b f1) (FM.a f2)) (FM.a f3)
    refine go_aload_n (pc' := 44) dX7_found_43 rfl rfl ?_
    refine go_getR (pc' := 47) dX7_found_44 rfl flRX7_7 rfl rfl ?_
    refine go_bipush (pc' := 49) 6 dX7_found_47 rfl (by decide) ?_
    refine go_iald (pc' := 50) 6 dX7_found_49 rfl rfl rfl (by decide) (by decide) ?_
    rw [m60_z h3]
    refine go_istore_n (pc' := 51) dX7_found_50 rfl (by decide) rfl ?_
    refine go_iconst (pc' := 52) 0 dX7_found_51 rfl (by decide) ?_
    refine go_istore (pc' := 54) dX7_found_52 rfl (by decide) rfl ?_
    refine go_iconst (pc' := 55) 0 dX7_found_54 rfl (by decide) ?_
    refine go_istore (pc' := 57) dX7_found_55 rfl (by decide) rfl ?_
    exact lmfnd wf (by omega) c 0 _ 0 g3 (by omega) h3 h13 (fun g' a b => k2 h_7 g' a (FM.tr fa b))
  · have h_7 := pg_b0 h_7
    refine go_iconst (pc' := 11) (-1) dX7_found_10 rfl (by decide) ?_
    refine go_iret dX7_found_11 (pg_narI _) ?_
    exact k1 (fun q => h_7 q)

set_option maxHeartbeats 4000000 in
set_option maxRecDepth 20000 in
theorem tX6_keep {sc : pg_Sc} {g : pg_S} {K : Int32 → pg_S → Prop} {T : TW} {n : Nat}  (h : CR g 1 T n) (wf : WF T n) (k2 : ∀ g', CR g' 19 T n → FR 19 28 g g' → K 1 (pg_ui g'.1 0 3 1, g'.2)) : pg_Cal sc 2 mX6_keep [.ref 0] g (pg_ki K) := by
  refine pg_Cal.of rfl (Nat.le_of_ble_eq_true rfl) rfl ?_
  have hn := wf.1
  refine go_aload_n (pc' := 1) dX6_keep_0 rfl rfl ?_
  refine go_getR (pc' := 4) dX6_keep_1 rfl flRX6_19 rfl rfl ?_
  refine go_aload_n (pc' := 5) dX6_keep_4 rfl rfl ?_
  refine go_getR (pc' := 8) dX6_keep_5 rfl flRX6_10 rfl rfl ?_
  refine go_cVv1 (pc' := 11) (M' := mX5_become) (d' := 1) dX6_keep_8 rfl cvRX6_87 rfl rfl (by decide) rfl (Nat.le_of_ble_eq_true rfl) ?_
  refine tX5_become_19_1 h hn (fun g1 h1 f1 => ?_)
  refine go_aload_n (pc' := 12) dX6_keep_11 rfl rfl ?_
  refine go_iconst (pc' := 13) 1 dX6_keep_12 rfl (by decide) ?_
  refine go_putZ (pc' := 16) (by decide) dX6_keep_13 rfl flRX6_22 rfl rfl ft6_3 ?_
  refine go_iconst (pc' := 17) 1 dX6_keep_16 rfl (by decide) ?_
  refine go_iret dX6_keep_17 (pg_narI _) ?_
  exact k2 _ h1 f1

set_option maxHeartbeats 4000000 in
set_option maxRecDepth 20000 in
theorem tX7_keep {sc : pg_Sc} {g : pg_S} {K : Int32 → pg_S → Prop} {T : TW} {n : Nat}  (h : MR g 60 T n) (wf : WF T n) (k2 : ∀ g', MR g' 62 T n → FR 62 63 g g' → K 1 (pg_ui g'.1 59 4 1, g'.2)) : pg_Cal sc 2 mX7_keep [.ref 59] g (pg_ki K) := by
  refine pg_Cal.of rfl (Nat.le_of_ble_eq_true rfl) rfl ?_
  have hn := wf.1
  refine go_aload_n (pc' := 1) dX7_keep_0 rfl rfl ?_
  refine go_getR (pc' := 4) dX7_keep_1 rfl flRX7_7 rfl rfl ?_
  refine go_aload_n (pc' := 5) dX7_keep_4 rfl rfl ?_
  refine go_getR (pc' := 8) dX7_keep_5 rfl flRX7_16 rfl rfl ?_
  refine go_cSv2 (pc' := 11) (M' := mX7_moveAll) (d' := 1) dX7_keep_8 rfl csRX7_193 (by decide) rfl (Nat.le_of_ble_eq_true rfl) ?_
  refine tX7_mv_60_62 h hn (fun g1 h1 f1 => ?_)
  refine go_aload_n (pc' := 12) dX7_keep_11 rfl rfl ?_
  refine go_iconst (pc' := 13) 1 dX7_keep_12 rfl (by decide) ?_
  refine go_putZ (pc' := 16) (by decide) dX7_keep_13 rfl flRX7_379 rfl rfl ft7_4 ?_
  refine go_iconst (pc' := 17) 1 dX7_keep_16 rfl (by decide) ?_
  refine go_iret dX7_keep_17 (pg_narI _) ?_
  exact k2 _ h1 f1

set_option maxHeartbeats 4000000 in
set_option maxRecDepth 20000 in
theorem tX6_again {sc : pg_Sc} {g : pg_S} {K : Int32 → pg_S → Prop}  (k1 : g.1 0 3 = 0 → K (-3) g) (k : ¬ g.1 0 3 = 0 → ∃ (T : TW) (n : Nat), CR g 19 T n ∧ n ≤ 8 ∧ ∀ g', CR g' 1 T n → FR 1 10 g g' → K (nI n) g') : pg_Cal sc 2 mX6_again [.ref 0] g (pg_ki K) := by
  refine pg_Cal.of rfl (Nat.le_of_ble_eq_true rfl) rfl ?_
  refine go_aload_n (pc' := 1) dX6_again_0 rfl rfl ?_
  refine go_getI (pc' := 4) dX6_again_1 rfl flRX6_22 rfl rfl ?_
  refine go_if_ne (pc' := 7) (tgt := 10) dX6_again_4 rfl (by decide) (fun h_4 => ?_) (fun h_4 => ?_)
  · refine go_aload_n (pc' := 11) dX6_again_10 rfl rfl ?_
    refine go_getR (pc' := 14) dX6_again_11 rfl flRX6_10 rfl rfl ?_
    refine go_aload_n (pc' := 15) dX6_again_14 rfl rfl ?_
    refine go_getR (pc' := 18) dX6_again_15 rfl flRX6_19 rfl rfl ?_
    refine go_cVv1 (pc' := 21) (M' := mX5_become) (d' := 1) dX6_again_18 rfl cvRX6_87 rfl rfl (by decide) rfl (Nat.le_of_ble_eq_true rfl) ?_
    obtain ⟨T, n, h, hn, k⟩ := k h_4
    refine tX5_become_1_19 h hn (fun g1 h1 f1 => ?_)
    refine go_aload_n (pc' := 22) dX6_again_21 rfl rfl ?_
    refine go_getR (pc' := 25) dX6_again_22 rfl flRX6_10 rfl rfl ?_
    refine go_getI (pc' := 28) dX6_again_25 rfl flRX6_94 rfl rfl ?_
    rw [c1_people h1]
    refine go_iret dX6_again_28 (pg_narI _) ?_
    exact k _ h1 f1
  · refine go_bipush (pc' := 9) (-3) dX6_again_7 rfl (by decide) ?_
    refine go_iret dX6_again_9 (pg_narI _) ?_
    exact k1 h_4

set_option maxHeartbeats 4000000 in
set_option maxRecDepth 20000 in
theorem tX7_again {sc : pg_Sc} {g : pg_S} {K : Int32 → pg_S → Prop}  (k1 : g.1 59 4 = 0 → K (-3) g) (k : ¬ g.1 59 4 = 0 → ∃ (T : TW) (n : Nat), MR g 62 T n ∧ n ≤ 8 ∧ ∀ g', MR g' 60 T n → FR 60 61 g g' → K (nI n) g') : pg_Cal sc 2 mX7_again [.ref 59] g (pg_ki K) := by
  refine pg_Cal.of rfl (Nat.le_of_ble_eq_true rfl) rfl ?_
  refine go_aload_n (pc' := 1) dX7_again_0 rfl rfl ?_
  refine go_getI (pc' := 4) dX7_again_1 rfl flRX7_379 rfl rfl ?_
  refine go_if_ne (pc' := 7) (tgt := 10) dX7_again_4 rfl (by decide) (fun h_4 => ?_) (fun h_4 => ?_)
  · refine go_aload_n (pc' := 11) dX7_again_10 rfl rfl ?_
    refine go_getR (pc' := 14) dX7_again_11 rfl flRX7_16 rfl rfl ?_
    refine go_aload_n (pc' := 15) dX7_again_14 rfl rfl ?_
    refine go_getR (pc' := 18) dX7_again_15 rfl flRX7_7 rfl rfl ?_
    refine go_cSv2 (pc' := 21) (M' := mX7_moveAll) (d' := 1) dX7_again_18 rfl csRX7_193 (by decide) rfl (Nat.le_of_ble_eq_true rfl) ?_
    obtain ⟨T, n, h, hn, k⟩ := k h_4
    refine tX7_mv_62_60 h hn (fun g1 h1 f1 => ?_)
    refine go_aload_n (pc' := 22) dX7_again_21 rfl rfl ?_
    refine go_getR (pc' := 25) dX7_again_22 rfl flRX7_7 rfl rfl ?_
    refine go_iconst (pc' := 26) 5 dX7_again_25 rfl (by decide) ?_
    refine go_iald (pc' := 27) 5 dX7_again_26 rfl rfl rfl (by decide) (by decide) ?_
    rw [m60_people h1]
    refine go_iret dX7_again_27 (pg_narI _) ?_
    exact k _ h1 f1
  · refine go_bipush (pc' := 9) (-3) dX7_again_7 rfl (by decide) ?_
    refine go_iret dX7_again_9 (pg_narI _) ?_
    exact k1 h_4

def manyF (T : TW) (n : Nat) (pc a b c x : Int32) : Int32 := if x = 0 then nI n else if x = 1 then nI n - bcF (orF (lonF T) n 0 0) else if x = 2 then pc else if x = 3 then bcF (orF (plcF T) n 0 0) else if x = 4 then a else if x = 5 then b else if x = 6 then c else -1
theorem manyF_out {T : TW} {n : Nat} {pc a b c x : Int32} (h : x.toInt < 0 ∨ 6 < x.toInt) : manyF T n pc a b c x = -1 := by
  unfold manyF
  rw [if_neg (pg_out h 0 (by decide) (by decide)), if_neg (pg_out h 1 (by decide) (by decide)), if_neg (pg_out h 2 (by decide) (by decide)), if_neg (pg_out h 3 (by decide) (by decide)), if_neg (pg_out h 4 (by decide) (by decide)), if_neg (pg_out h 5 (by decide) (by decide)), if_neg (pg_out h 6 (by decide) (by decide))]
set_option maxHeartbeats 4000000 in
set_option maxRecDepth 20000 in
theorem tX6_many {sc : pg_Sc} {g : pg_S} {K : Int32 → pg_S → Prop} {T : TW} {n : Nat} {x : Int32} (h : CR g 1 T n) (wf : WF T n) (k2 : K (manyF T n (bcF (orF (pgsF T) n 0 0)) (g.1 30 1) (g.1 28 1) (g.1 42 1) x) g) : pg_Cal sc 2 mX6_many [.ref 0, .int x] g (pg_ki K) := by
  refine pg_Cal.of rfl (Nat.le_of_ble_eq_true rfl) rfl ?_
  have hn := wf.1
  refine go_iload_n (pc' := 1) dX6_many_0 rfl rfl ?_
  refine go_xcase _ pg_sw0_6 (fun h_1 => ?_)
  rcases h_1 with h_1 | h_1 | h_1 | h_1 | h_1 | h_1 | h_1 | h_1
  · refine go_tableIn (pc' := 44) dX6_many_1 (by rw [h_1]; decide) (by rw [h_1]; decide) (by rw [h_1]; rfl) (by decide) ?_
    refine go_aload_n (pc' := 45) dX6_many_44 rfl rfl ?_
    refine go_getR (pc' := 48) dX6_many_45 rfl flRX6_10 rfl rfl ?_
    refine go_getI (pc' := 51) dX6_many_48 rfl flRX6_94 rfl rfl ?_
    rw [c1_people h]
    refine go_iret dX6_many_51 (pg_narI _) ?_
    subst h_1
    exact k2
  · refine go_tableIn (pc' := 52) dX6_many_1 (by rw [h_1]; decide) (by rw [h_1]; decide) (by rw [h_1]; rfl) (by decide) ?_
    refine go_aload_n (pc' := 53) dX6_many_52 rfl rfl ?_
    refine go_getR (pc' := 56) dX6_many_53 rfl flRX6_10 rfl rfl ?_
    refine go_getI (pc' := 59) dX6_many_56 rfl flRX6_94 rfl rfl ?_
    rw [c1_people h]
    refine go_aload_n (pc' := 60) dX6_many_59 rfl rfl ?_
    refine go_getR (pc' := 63) dX6_many_60 rfl flRX6_10 rfl rfl ?_
    refine go_cVi0 (pc' := 66) (M' := mX5_strangers) (d' := 1) dX6_many_63 rfl cvRX6_177 rfl rfl (by decide) rfl (Nat.le_of_ble_eq_true rfl) ?_
    refine tX5_strangers_1 h wf ?_
    refine go_cSi1 (pc' := 69) (M' := mJ6_bitCount_0f7a4) (d' := 1) dX6_many_66 rfl csRX6_189 (by decide) rfl (Nat.le_of_ble_eq_true rfl) ?_
    refine tJ6_bitCount_0f7a4 ?_
    refine go_isub (pc' := 70) dX6_many_69 rfl ?_
    refine go_iret dX6_many_70 (pg_narI _) ?_
    subst h_1
    exact k2
  · refine go_tableIn (pc' := 71) dX6_many_1 (by rw [h_1]; decide) (by rw [h_1]; decide) (by rw [h_1]; rfl) (by decide) ?_
    refine go_aload_n (pc' := 72) dX6_many_71 rfl rfl ?_
    refine go_getR (pc' := 75) dX6_many_72 rfl flRX6_10 rfl rfl ?_
    refine go_cVi0 (pc' := 78) (M' := mX5_pegsHad) (d' := 1) dX6_many_75 rfl cvRX6_308 rfl rfl (by decide) rfl (Nat.le_of_ble_eq_true rfl) ?_
    refine tX5_pegsHad_1 h wf ?_
    refine go_cSi1 (pc' := 81) (M' := mJ6_bitCount_0f7a4) (d' := 1) dX6_many_78 rfl csRX6_189 (by decide) rfl (Nat.le_of_ble_eq_true rfl) ?_
    refine tJ6_bitCount_0f7a4 ?_
    refine go_iret dX6_many_81 (pg_narI _) ?_
    subst h_1
    exact k2
  · refine go_tableIn (pc' := 82) dX6_many_1 (by rw [h_1]; decide) (by rw [h_1]; decide) (by rw [h_1]; rfl) (by decide) ?_
    refine go_aload_n (pc' := 83) dX6_many_82 rfl rfl ?_
    refine go_getR (pc' := 86) dX6_many_83 rfl flRX6_10 rfl rfl ?_
    refine go_cVi0 (pc' := 89) (M' := mX5_placesTaken) (d' := 1) dX6_many_86 rfl cvRX6_180 rfl rfl (by decide) rfl (Nat.le_of_ble_eq_true rfl) ?_
    refine tX5_placesTaken_1 h wf ?_
    refine go_cSi1 (pc' := 92) (M' := mJ6_bitCount_0f7a4) (d' := 1) dX6_many_89 rfl csRX6_189 (by decide) rfl (Nat.le_of_ble_eq_true rfl) ?_
    refine tJ6_bitCount_0f7a4 ?_
    refine go_iret dX6_many_92 (pg_narI _) ?_
    subst h_1
    exact k2
  · refine go_tableIn (pc' := 93) dX6_many_1 (by rw [h_1]; decide) (by rw [h_1]; decide) (by rw [h_1]; rfl) (by decide) ?_
    refine go_aload_n (pc' := 94) dX6_many_93 rfl rfl ?_
    refine go_getR (pc' := 97) dX6_many_94 rfl flRX6_36 rfl rfl ?_
    refine go_getI (pc' := 100) dX6_many_97 rfl flRX6_91 rfl rfl ?_
    refine go_iret dX6_many_100 (pg_narI _) ?_
    subst h_1
    exact k2
  · refine go_tableIn (pc' := 101) dX6_many_1 (by rw [h_1]; decide) (by rw [h_1]; decide) (by rw [h_1]; rfl) (by decide) ?_
    refine go_aload_n (pc' := 102) dX6_many_101 rfl rfl ?_
    refine go_getR (pc' := 105) dX6_many_102 rfl flRX6_29 rfl rfl ?_
    refine go_getI (pc' := 108) dX6_many_105 rfl flRX6_84 rfl rfl ?_
    refine go_iret dX6_many_108 (pg_narI _) ?_
    subst h_1
    exact k2
  · refine go_tableIn (pc' := 109) dX6_many_1 (by rw [h_1]; decide) (by rw [h_1]; decide) (by rw [h_1]; rfl) (by decide) ?_
    refine go_aload_n (pc' := 110) dX6_many_109 rfl rfl ?_
    refine go_getR (pc' := 113) dX6_many_110 rfl flRX6_43 rfl rfl ?_
    refine go_getI (pc' := 116) dX6_many_113 rfl flRX6_296 rfl rfl ?_
    refine go_iret dX6_many_116 (pg_narI _) ?_
    subst h_1
    exact k2
  · refine go_tableOut (pc' := 117) dX6_many_1 h_1 (by decide) ?_
    refine go_iconst (pc' := 118) (-1) dX6_many_117 rfl (by decide) ?_
    refine go_iret dX6_many_118 (pg_narI _) ?_
    rw [manyF_out h_1] at k2
    exact k2

set_option maxHeartbeats 4000000 in
set_option maxRecDepth 20000 in
theorem tX7_many {sc : pg_Sc} {g : pg_S} {K : Int32 → pg_S → Prop} {T : TW} {n : Nat} {x : Int32} (h : MR g 60 T n) (wf : WF T n) (k2 : K (manyF T n (cntF (pghB T n) 6 0 0) (g.1 59 16) (g.1 59 6) (g.1 59 27) x) g) : pg_Cal sc 4 mX7_many [.ref 59, .int x] g (pg_ki K) := by
  refine pg_Cal.of rfl (Nat.le_of_ble_eq_true rfl) rfl ?_
  have hn := wf.1
  refine go_iload_n (pc' := 1) dX7_many_0 rfl rfl ?_
  refine go_xcase _ pg_sw0_6 (fun h_1 => ?_)
  rcases h_1 with h_1 | h_1 | h_1 | h_1 | h_1 | h_1 | h_1 | h_1
  · refine go_tableIn (pc' := 44) dX7_many_1 (by rw [h_1]; decide) (by rw [h_1]; decide) (by rw [h_1]; rfl) (by decide) ?_
    refine go_aload_n (pc' := 45) dX7_many_44 rfl rfl ?_
    refine go_getR (pc' := 48) dX7_many_45 rfl flRX7_7 rfl rfl ?_
    refine go_iconst (pc' := 49) 5 dX7_many_48 rfl (by decide) ?_
    refine go_iald (pc' := 50) 5 dX7_many_49 rfl rfl rfl (by decide) (by decide) ?_
    rw [m60_people h]
    refine go_iret dX7_many_50 (pg_narI _) ?_
    subst h_1
    exact k2
  · refine go_tableIn (pc' := 51) dX7_many_1 (by rw [h_1]; decide) (by rw [h_1]; decide) (by rw [h_1]; rfl) (by decide) ?_
    refine go_aload_n (pc' := 52) dX7_many_51 rfl rfl ?_
    refine go_getR (pc' := 55) dX7_many_52 rfl flRX7_7 rfl rfl ?_
    refine go_iconst (pc' := 56) 5 dX7_many_55 rfl (by decide) ?_
    refine go_iald (pc' := 57) 5 dX7_many_56 rfl rfl rfl (by decide) (by decide) ?_
    rw [m60_people h]
    refine go_aload_n (pc' := 58) dX7_many_57 rfl rfl ?_
    refine go_cVi0 (pc' := 61) (M' := mX7_lonelySet) (d' := 2) dX7_many_58 rfl cvRX7_267 rfl rfl (by decide) rfl (Nat.le_of_ble_eq_true rfl) ?_
    obtain ⟨v, hv, ev⟩ := lon_lt wf
    refine tX7_lonelySet h wf ?_
    rw [ev]
    refine go_cSi1 (pc' := 64) (M' := mX7_ones) (d' := 1) dX7_many_61 rfl csRX7_248 (by decide) rfl (Nat.le_of_ble_eq_true rfl) ?_
    refine tX7_ones (by omega) ?_
    rw [← ev]
    refine go_isub (pc' := 65) dX7_many_64 rfl ?_
    refine go_iret dX7_many_65 (pg_narI _) ?_
    subst h_1
    exact k2
  · refine go_tableIn (pc' := 66) dX7_many_1 (by rw [h_1]; decide) (by rw [h_1]; decide) (by rw [h_1]; rfl) (by decide) ?_
    refine go_aload_n (pc' := 67) dX7_many_66 rfl rfl ?_
    refine go_cVi0 (pc' := 70) (M' := mX7_pegsHad) (d' := 3) dX7_many_67 rfl cvRX7_376 rfl rfl (by decide) rfl (Nat.le_of_ble_eq_true rfl) ?_
    refine tX7_pegsHad h wf ?_
    refine go_iret dX7_many_70 (pg_narI _) ?_
    subst h_1
    exact k2
  · refine go_tableIn (pc' := 71) dX7_many_1 (by rw [h_1]; decide) (by rw [h_1]; decide) (by rw [h_1]; rfl) (by decide) ?_
    refine go_aload_n (pc' := 72) dX7_many_71 rfl rfl ?_
    refine go_cVi0 (pc' := 75) (M' := mX7_placeSet) (d' := 2) dX7_many_72 rfl cvRX7_270 rfl rfl (by decide) rfl (Nat.le_of_ble_eq_true rfl) ?_
    obtain ⟨v, hv, ev⟩ := plc_lt wf
    refine tX7_placeSet h wf ?_
    rw [ev]
    refine go_cSi1 (pc' := 78) (M' := mX7_ones) (d' := 1) dX7_many_75 rfl csRX7_248 (by decide) rfl (Nat.le_of_ble_eq_true rfl) ?_
    refine tX7_ones hv ?_
    rw [← ev]
    refine go_iret dX7_many_78 (pg_narI _) ?_
    subst h_1
    exact k2
  · refine go_tableIn (pc' := 79) dX7_many_1 (by rw [h_1]; decide) (by rw [h_1]; decide) (by rw [h_1]; rfl) (by decide) ?_
    refine go_aload_n (pc' := 80) dX7_many_79 rfl rfl ?_
    refine go_getI (pc' := 83) dX7_many_80 rfl flRX7_197 rfl rfl ?_
    refine go_iret dX7_many_83 (pg_narI _) ?_
    subst h_1
    exact k2
  · refine go_tableIn (pc' := 84) dX7_many_1 (by rw [h_1]; decide) (by rw [h_1]; decide) (by rw [h_1]; rfl) (by decide) ?_
    refine go_aload_n (pc' := 85) dX7_many_84 rfl rfl ?_
    refine go_getI (pc' := 88) dX7_many_85 rfl flRX7_64 rfl rfl ?_
    refine go_iret dX7_many_88 (pg_narI _) ?_
    subst h_1
    exact k2
  · refine go_tableIn (pc' := 89) dX7_many_1 (by rw [h_1]; decide) (by rw [h_1]; decide) (by rw [h_1]; rfl) (by decide) ?_
    refine go_aload_n (pc' := 90) dX7_many_89 rfl rfl ?_
    refine go_getI (pc' := 93) dX7_many_90 rfl flRX7_331 rfl rfl ?_
    refine go_iret dX7_many_93 (pg_narI _) ?_
    subst h_1
    exact k2
  · refine go_tableOut (pc' := 94) dX7_many_1 h_1 (by decide) ?_
    refine go_iconst (pc' := 95) (-1) dX7_many_94 rfl (by decide) ?_
    refine go_iret dX7_many_95 (pg_narI _) ?_
    rw [manyF_out h_1] at k2
    exact k2

theorem hoursF_s (n : Nat) : ∀ (i : Nat) (T : TW), hoursF n (i + 1) T = hourF n (hoursF n i T)
  | 0, _ => rfl
  | i + 1, T => hoursF_s n i (hourF n T)
def rowV (n p : Nat) (T : TW) (i w : Nat) : Int32 := if w = 0 then hoursF n (i + 1) T 5 p else if w = 1 then hoursF n (i + 1) T 6 p else leanF (hoursF n i T) p (hoursF n i T 8 1)
theorem row_sh (i : Nat) (hi : i < 10) : pg_sh[32 + i]? = some (.inl (0, 3, [])) := by
  rcases (show i = 0 ∨ i = 1 ∨ i = 2 ∨ i = 3 ∨ i = 4 ∨ i = 5 ∨ i = 6 ∨ i = 7 ∨ i = 8 ∨ i = 9 by omega) with rfl | rfl | rfl | rfl | rfl | rfl | rfl | rfl | rfl | rfl <;> rfl
theorem row_rs : ∀ i, i < 10 → ([32, 33, 34, 35, 36, 37, 38, 39, 40, 41] : List Nat)[i]? = some (32 + i) := by decide
/-- only the cells of two stretches have changed -/
def FS (a b c d : Nat) (g g' : pg_S) : Prop := (∀ x, ¬ (a ≤ x ∧ x < b) → ¬ (c ≤ x ∧ x < d) → g'.1 x = g.1 x) ∧ g'.2 = g.2
theorem FS.rf {a b c d : Nat} {g : pg_S} : FS a b c d g g := ⟨fun _ _ _ => rfl, rfl⟩
theorem FS.tr {a b c d : Nat} {g g' g'' : pg_S} (h : FS a b c d g g') (h' : FS a b c d g' g'') : FS a b c d g g'' := ⟨fun x q r => (h'.1 x q r).trans (h.1 x q r), h'.2.trans h.2⟩
theorem FS.l {a b c d lo hi : Nat} {g g' : pg_S} (h : FR lo hi g g') (h1 : a ≤ lo) (h2 : hi ≤ b) : FS a b c d g g' := ⟨fun x q _ => h.1 x (by omega), h.2⟩
theorem FS.r {a b c d lo hi : Nat} {g g' : pg_S} (h : FR lo hi g g') (h1 : c ≤ lo) (h2 : hi ≤ d) : FS a b c d g g' := ⟨fun x _ q => h.1 x (by omega), h.2⟩
set_option maxHeartbeats 4000000 in
set_option maxRecDepth 20000 in
theorem tX1_has {sc : pg_Sc} {g : pg_S} {K : Int32 → pg_S → Prop} {x y : Int32}  (k : K (if (0 ≤ x ∧ x < g.1 30 1) ∧ UP y 2 then 1 else 0) g) : pg_Cal sc 2 mX1_has [.ref 30, .int x, .int y] g (pg_ki K) := by
  refine pg_Cal.of rfl (Nat.le_of_ble_eq_true rfl) rfl ?_
  refine go_iload_n (pc' := 1) dX1_has_0 rfl rfl ?_
  refine go_if_lt (pc' := 4) (tgt := 24) dX1_has_1 rfl (by decide) (fun h_1 => ?_) (fun h_1 => ?_)
  · refine go_iconst (pc' := 25) 0 dX1_has_24 rfl (by decide) ?_
    refine go_iret dX1_has_25 (by first | exact pg_nar1 | exact pg_nar0 | exact pg_narB) ?_
    rw [if_neg (fun q => pg_lt_nle h_1 q.1.1)] at k
    exact k
  · refine go_iload_n (pc' := 5) dX1_has_4 rfl rfl ?_
    refine go_aload_n (pc' := 6) dX1_has_5 rfl rfl ?_
    refine go_getI (pc' := 9) dX1_has_6 rfl flRX1_14 rfl rfl ?_
    refine go_icmp_ge (pc' := 12) (tgt := 24) dX1_has_9 rfl (by decide) (fun h_9 => ?_) (fun h_9 => ?_)
    · refine go_iconst (pc' := 25) 0 dX1_has_24 rfl (by decide) ?_
      refine go_iret dX1_has_25 (by first | exact pg_nar1 | exact pg_nar0 | exact pg_narB) ?_
      rw [if_neg (fun q => pg_lt_nle q.1.2 h_9)] at k
      exact k
    · refine go_iload_n (pc' := 13) dX1_has_12 rfl rfl ?_
      refine go_iconst (pc' := 14) 2 dX1_has_13 rfl (by decide) ?_
      refine go_cNi2 (pc' := 17) (M' := mX6_upTo) (d' := 1) dX1_has_14 rfl rfl rfl rfl cnRX1_18 (by decide) rfl (Nat.le_of_ble_eq_true rfl) ?_
      refine tX6_upTo ?_
      refine go_if_eq (pc' := 20) (tgt := 24) dX1_has_17 rfl (by decide) (fun h_17 => ?_) (fun h_17 => ?_)
      · have h_17 := pg_b0 h_17
        refine go_iconst (pc' := 25) 0 dX1_has_24 rfl (by decide) ?_
        refine go_iret dX1_has_25 (by first | exact pg_nar1 | exact pg_nar0 | exact pg_narB) ?_
        rw [if_neg (fun q => h_17 q.2)] at k
        exact k
      · have h_17 := pg_b1 h_17
        refine go_iconst (pc' := 21) 1 dX1_has_20 rfl (by decide) ?_
        refine go_goto (pc' := 25) dX1_has_21 (by decide) ?_
        refine go_iret dX1_has_25 (by first | exact pg_nar1 | exact pg_nar0 | exact pg_narB) ?_
        rw [if_pos ⟨⟨pg_nlt_le h_1, pg_nle_lt h_9⟩, h_17⟩] at k
        exact k

set_option maxHeartbeats 4000000 in
set_option maxRecDepth 20000 in
theorem tX1_write {sc : pg_Sc} {g : pg_S} {K : pg_S → Prop} {i : Nat} {a b c : Int32} (hi : i < 10) (k : ∀ g', g'.1 (32 + i) 0 = a → g'.1 (32 + i) 1 = b → g'.1 (32 + i) 2 = c → FR (32 + i) (33 + i) g g' → K g') : pg_Cal sc 1 mX1_write [.ref 30, .int (nI i), .int a, .int b, .int c] g (pg_kv K) := by
  refine pg_Cal.of rfl (Nat.le_of_ble_eq_true rfl) rfl ?_
  refine go_aload_n (pc' := 1) dX1_write_0 rfl rfl ?_
  refine go_getR (pc' := 4) dX1_write_1 rfl flRX1_11 rfl rfl ?_
  refine go_iload_n (pc' := 5) dX1_write_4 rfl rfl ?_
  refine go_aald (pc' := 6) i dX1_write_5 rfl rfl (by decide) rfl (by omega) (by decide) (row_rs i hi) ?_
  refine go_iconst (pc' := 7) 0 dX1_write_6 rfl (by decide) ?_
  refine go_iload_n (pc' := 8) dX1_write_7 rfl rfl ?_
  refine go_iast (pc' := 9) 0 dX1_write_8 rfl (row_sh i hi) rfl (by decide) (by decide) ?_
  refine go_aload_n (pc' := 10) dX1_write_9 rfl rfl ?_
  refine go_getR (pc' := 13) dX1_write_10 rfl flRX1_11 rfl rfl ?_
  refine go_iload_n (pc' := 14) dX1_write_13 rfl rfl ?_
  refine go_aald (pc' := 15) i dX1_write_14 rfl rfl (by decide) rfl (by omega) (by decide) (row_rs i hi) ?_
  refine go_iconst (pc' := 16) 1 dX1_write_15 rfl (by decide) ?_
  refine go_iload_n (pc' := 17) dX1_write_16 rfl rfl ?_
  refine go_iast (pc' := 18) 1 dX1_write_17 rfl (row_sh i hi) rfl (by decide) (by decide) ?_
  refine go_aload_n (pc' := 19) dX1_write_18 rfl rfl ?_
  refine go_getR (pc' := 22) dX1_write_19 rfl flRX1_11 rfl rfl ?_
  refine go_iload_n (pc' := 23) dX1_write_22 rfl rfl ?_
  refine go_aald (pc' := 24) i dX1_write_23 rfl rfl (by decide) rfl (by omega) (by decide) (row_rs i hi) ?_
  refine go_iconst (pc' := 25) 2 dX1_write_24 rfl (by decide) ?_
  refine go_iload (pc' := 27) dX1_write_25 rfl rfl ?_
  refine go_iast (pc' := 28) 2 dX1_write_27 rfl (row_sh i hi) rfl (by decide) (by decide) ?_
  refine go_vret dX1_write_28 rfl ?_
  refine k _ ?_ ?_ ?_ (FR.tr (FR.tr (FR.ui (by omega)) (FR.ui (by omega))) (FR.ui (by omega)))
  · simp [pg_ui_at]
  · simp [pg_ui_at]
  · simp [pg_ui_at]

set_option maxHeartbeats 4000000 in
set_option maxRecDepth 20000 in
theorem tX1_reads {sc : pg_Sc} {g : pg_S} {K : Int32 → pg_S → Prop} {i : Nat} {a b c : Int32} (hi : i < 10) (k : K (if g.1 (32 + i) 0 = a ∧ g.1 (32 + i) 1 = b ∧ g.1 (32 + i) 2 = c then 1 else 0) g) : pg_Cal sc 1 mX1_reads [.ref 30, .int (nI i), .int a, .int b, .int c] g (pg_ki K) := by
  refine pg_Cal.of rfl (Nat.le_of_ble_eq_true rfl) rfl ?_
  refine go_aload_n (pc' := 1) dX1_reads_0 rfl rfl ?_
  refine go_getR (pc' := 4) dX1_reads_1 rfl flRX1_11 rfl rfl ?_
  refine go_iload_n (pc' := 5) dX1_reads_4 rfl rfl ?_
  refine go_aald (pc' := 6) i dX1_reads_5 rfl rfl (by decide) rfl (by omega) (by decide) (row_rs i hi) ?_
  refine go_iconst (pc' := 7) 0 dX1_reads_6 rfl (by decide) ?_
  refine go_iald (pc' := 8) 0 dX1_reads_7 rfl (row_sh i hi) rfl (by decide) (by decide) ?_
  refine go_iload_n (pc' := 9) dX1_reads_8 rfl rfl ?_
  refine go_icmp_ne (pc' := 12) (tgt := 41) dX1_reads_9 rfl (by decide) (fun h_9 => ?_) (fun h_9 => ?_)
  · refine go_iconst (pc' := 42) 0 dX1_reads_41 rfl (by decide) ?_
    refine go_iret dX1_reads_42 (by first | exact pg_nar1 | exact pg_nar0 | exact pg_narB) ?_
    rw [if_neg (fun q => h_9 q.1)] at k
    exact k
  · refine go_aload_n (pc' := 13) dX1_reads_12 rfl rfl ?_
    refine go_getR (pc' := 16) dX1_reads_13 rfl flRX1_11 rfl rfl ?_
    refine go_iload_n (pc' := 17) dX1_reads_16 rfl rfl ?_
    refine go_aald (pc' := 18) i dX1_reads_17 rfl rfl (by decide) rfl (by omega) (by decide) (row_rs i hi) ?_
    refine go_iconst (pc' := 19) 1 dX1_reads_18 rfl (by decide) ?_
    refine go_iald (pc' := 20) 1 dX1_reads_19 rfl (row_sh i hi) rfl (by decide) (by decide) ?_
    refine go_iload_n (pc' := 21) dX1_reads_20 rfl rfl ?_
    refine go_icmp_ne (pc' := 24) (tgt := 41) dX1_reads_21 rfl (by decide) (fun h_21 => ?_) (fun h_21 => ?_)
    · refine go_iconst (pc' := 42) 0 dX1_reads_41 rfl (by decide) ?_
      refine go_iret dX1_reads_42 (by first | exact pg_nar1 | exact pg_nar0 | exact pg_narB) ?_
      rw [if_neg (fun q => h_21 q.2.1)] at k
      exact k
    · refine go_aload_n (pc' := 25) dX1_reads_24 rfl rfl ?_
      refine go_getR (pc' := 28) dX1_reads_25 rfl flRX1_11 rfl rfl ?_
      refine go_iload_n (pc' := 29) dX1_reads_28 rfl rfl ?_
      refine go_aald (pc' := 30) i dX1_reads_29 rfl rfl (by decide) rfl (by omega) (by decide) (row_rs i hi) ?_
      refine go_iconst (pc' := 31) 2 dX1_reads_30 rfl (by decide) ?_
      refine go_iald (pc' := 32) 2 dX1_reads_31 rfl (row_sh i hi) rfl (by decide) (by decide) ?_
      refine go_iload (pc' := 34) dX1_reads_32 rfl rfl ?_
      refine go_icmp_ne (pc' := 37) (tgt := 41) dX1_reads_34 rfl (by decide) (fun h_34 => ?_) (fun h_34 => ?_)
      · refine go_iconst (pc' := 42) 0 dX1_reads_41 rfl (by decide) ?_
        refine go_iret dX1_reads_42 (by first | exact pg_nar1 | exact pg_nar0 | exact pg_narB) ?_
        rw [if_neg (fun q => h_34 q.2.2)] at k
        exact k
      · refine go_iconst (pc' := 38) 1 dX1_reads_37 rfl (by decide) ?_
        refine go_goto (pc' := 42) dX1_reads_38 (by decide) ?_
        refine go_iret dX1_reads_42 (by first | exact pg_nar1 | exact pg_nar0 | exact pg_narB) ?_
        rw [if_pos ⟨h_9, h_21, h_34⟩] at k
        exact k

set_option maxHeartbeats 4000000 in
set_option maxRecDepth 20000 in
theorem lprv {sc : pg_Sc} {K : Int32 → pg_S → Prop} {T : TW} {n p c : Nat} (wf : WF T n) (hp : p < n) (hc : c ≤ 10) : ∀ (m : Nat) (i : Nat) (g : pg_S), i + m = c → CR g 10 (hoursF n i T) n → (∀ j, j < i → ∀ v, v < 3 → g.1 (32 + j) v = rowV n p T j v) → (∀ g', (∀ j, j < c → ∀ v, v < 3 → g'.1 (32 + j) v = rowV n p T j v) → g'.1 30 1 = nI c → FS 10 19 30 42 g g' → K (nI c) g') → pg_Go sc 4 mX6_prove 33 [(0, .ref 0), (1, .int (nI p)), (2, .int (nI c)), (3, .int (nI i))] [] g (pg_ki K) := by
  intro m
  induction m with
  | zero =>
    intro i g hi h hr k
    obtain rfl : i = c := by omega
    refine go_iload_n (pc' := 34) dX6_prove_33 rfl rfl ?_
    refine go_iload_n (pc' := 35) dX6_prove_34 rfl rfl ?_
    refine go_icmp_ge (pc' := 38) (tgt := 96) dX6_prove_35 rfl (by decide) (fun h_35 => ?_) (fun h_35 => absurd (Int32.le_refl _) h_35)
    refine go_aload_n (pc' := 97) dX6_prove_96 rfl rfl ?_
    refine go_getR (pc' := 100) dX6_prove_97 rfl flRX6_36 rfl rfl ?_
    refine go_iload_n (pc' := 101) dX6_prove_100 rfl rfl ?_
    refine go_putI (pc' := 104) dX6_prove_101 rfl flRX6_91 rfl rfl ft1_1 ?_
    refine go_gen (fun g9 e9 => ?_)
    refine go_iload_n (pc' := 105) dX6_prove_104 rfl rfl ?_
    refine go_iret dX6_prove_105 (pg_narI _) ?_
    refine k _ (fun j hj v hv => ?_) ?_ ?_
    · rw [e9]; exact (rd_ui (by omega)).trans (hr j hj v hv)
    · rw [e9]; simp [pg_ui_at]
    · rw [e9]; exact FS.r (FR.ui (lo := 30) (hi := 31) (by decide)) (by decide) (by decide)
  | succ m ih =>
    intro i g hi h hr k
    have hn := wf.1
    have hin : i < c := by omega
    have wfi := WF.hours i wf
    refine go_iload_n (pc' := 34) dX6_prove_33 rfl rfl ?_
    refine go_iload_n (pc' := 35) dX6_prove_34 rfl rfl ?_
    refine go_icmp_ge (pc' := 38) (tgt := 96) dX6_prove_35 rfl (by decide) (fun h_35 => absurd h_35 (nI_ge hin (by omega))) (fun h_35 => ?_)
    refine go_aload_n (pc' := 39) dX6_prove_38 rfl rfl ?_
    refine go_getR (pc' := 42) dX6_prove_39 rfl flRX6_16 rfl rfl ?_
    refine go_iload_n (pc' := 43) dX6_prove_42 rfl rfl ?_
    refine go_aload_n (pc' := 44) dX6_prove_43 rfl rfl ?_
    refine go_getR (pc' := 47) dX6_prove_44 rfl flRX6_16 rfl rfl ?_
    refine go_getI (pc' := 50) dX6_prove_47 rfl flRX6_174 rfl rfl ?_
    rw [c10_hour h]
    refine go_cVi2 (pc' := 53) (M' := mX5_leanAt) (d' := 1) dX6_prove_50 rfl cvRX6_134 rfl rfl (by decide) rfl (Nat.le_of_ble_eq_true rfl) ?_
    refine tX5_leanAt_10 h wfi hp ?_
    refine go_istore (pc' := 55) dX6_prove_53 rfl (by decide) rfl ?_
    refine go_aload_n (pc' := 56) dX6_prove_55 rfl rfl ?_
    refine go_getR (pc' := 59) dX6_prove_56 rfl flRX6_16 rfl rfl ?_
    refine go_cVv0 (pc' := 62) (M' := mX5_spendHour) (d' := 3) dX6_prove_59 rfl cvRX6_171 rfl rfl (by decide) rfl (Nat.le_of_ble_eq_true rfl) ?_
    refine tX5_spendHour_10 h wfi (fun g1 h1 f1 => ?_)
    have h1s := h1
    rw [← hoursF_s] at h1s
    refine go_aload_n (pc' := 63) dX6_prove_62 rfl rfl ?_
    refine go_getR (pc' := 66) dX6_prove_63 rfl flRX6_36 rfl rfl ?_
    refine go_iload_n (pc' := 67) dX6_prove_66 rfl rfl ?_
    refine go_aload_n (pc' := 68) dX6_prove_67 rfl rfl ?_
    refine go_getR (pc' := 71) dX6_prove_68 rfl flRX6_16 rfl rfl ?_
    refine go_getR (pc' := 74) dX6_prove_71 rfl flRX6_124 rfl rfl ?_
    refine go_iload_n (pc' := 75) dX6_prove_74 rfl rfl ?_
    refine go_iald (pc' := 76) _ dX6_prove_75 rfl rfl rfl (by omega) (by decide) ?_
    rw [c10_place h1 (by omega)]
    refine go_aload_n (pc' := 77) dX6_prove_76 rfl rfl ?_
    refine go_getR (pc' := 80) dX6_prove_77 rfl flRX6_16 rfl rfl ?_
    refine go_getR (pc' := 83) dX6_prove_80 rfl flRX6_127 rfl rfl ?_
    refine go_iload_n (pc' := 84) dX6_prove_83 rfl rfl ?_
    refine go_iald (pc' := 85) _ dX6_prove_84 rfl rfl rfl (by omega) (by decide) ?_
    rw [c10_know h1 (by omega)]
    refine go_iload (pc' := 87) dX6_prove_85 rfl rfl ?_
    refine go_cVv4 (pc' := 90) (M' := mX1_write) (d' := 1) dX6_prove_87 rfl cvRX6_232 rfl rfl (by decide) rfl (Nat.le_of_ble_eq_true rfl) ?_
    refine tX1_write (by omega) (fun g2 a b c f2 => ?_)
    refine go_iinc (pc' := 93) _ dX6_prove_90 rfl rfl (pg_inc _) (by decide) rfl ?_
    refine go_goto (pc' := 33) dX6_prove_93 (by decide) ?_
    refine go_sub [0, 1, 2, 3] rfl ?_
    refine ih (i + 1) _ (by omega) (h1s.fr f2 (by omega)) (fun j hj v hv => ?_) (fun g' z1 z2 z3 => k g' z1 z2 (FS.tr (FS.tr (FS.l f1 (by decide) (by decide)) (FS.r f2 (by omega) (by omega))) z3))
    by_cases e : j = i
    · subst e
      unfold rowV
      rw [hoursF_s]
      rcases (show v = 0 ∨ v = 1 ∨ v = 2 by omega) with rfl | rfl | rfl
      · rw [if_pos rfl]; exact a
      · rw [if_neg (by decide), if_pos rfl]; exact b
      · rw [if_neg (by decide), if_neg (by decide)]; exact c
    · rw [f2.1 (32 + j) (by omega), f1.1 (32 + j) (by omega)]; exact hr j (by omega) v hv

set_option maxHeartbeats 4000000 in
set_option maxRecDepth 20000 in
theorem tX6_prove {sc : pg_Sc} {g : pg_S} {K : Int32 → pg_S → Prop} {T : TW} {n : Nat} {y x : Int32} (h : CR g 1 T n) (wf : WF T n) (k1 : ¬ (PP n y ∧ IN x 1 10) → K (-1) g) (k2 : PP n y → IN x 1 10 → ∀ g', (∀ j, j < pn x → ∀ v, v < 3 → g'.1 (32 + j) v = rowV n (pn y) T j v) → g'.1 30 1 = x → FS 10 19 30 42 g g' → K x g') : pg_Cal sc 4 mX6_prove [.ref 0, .int y, .int x] g (pg_ki K) := by
  refine pg_Cal.of rfl (Nat.le_of_ble_eq_true rfl) rfl ?_
  have hn := wf.1
  refine go_aload_n (pc' := 1) dX6_prove_0 rfl rfl ?_
  refine go_iload_n (pc' := 2) dX6_prove_1 rfl rfl ?_
  refine go_cVi1 (pc' := 5) (M' := mX6_isPerson) (d' := 1) dX6_prove_2 rfl cvRX6_111 rfl rfl (by decide) rfl (Nat.le_of_ble_eq_true rfl) ?_
  refine tX6_isPerson h ?_
  refine go_if_eq (pc' := 8) (tgt := 18) dX6_prove_5 rfl (by decide) (fun h_5 => ?_) (fun h_5 => ?_)
  · have h_5 := pg_b0 h_5
    refine go_iconst (pc' := 19) (-1) dX6_prove_18 rfl (by decide) ?_
    refine go_iret dX6_prove_19 (pg_narI _) ?_
    exact k1 (fun q => h_5 q.1)
  · have h_5 := pg_b1 h_5
    obtain ⟨p, hp, rfl⟩ := pp_ex h_5
    have ep : pn (nI p) = p := nI_clamp (by omega)
    rw [ep] at k2
    refine go_iload_n (pc' := 9) dX6_prove_8 rfl rfl ?_
    refine go_iconst (pc' := 10) 1 dX6_prove_9 rfl (by decide) ?_
    refine go_bipush (pc' := 12) 10 dX6_prove_10 rfl (by decide) ?_
    refine go_cSi3 (pc' := 15) (M' := mX6_between) (d' := 1) dX6_prove_12 rfl csRX6_65 (by decide) rfl (Nat.le_of_ble_eq_true rfl) ?_
    refine tX6_between ?_
    refine go_if_ne (pc' := 18) (tgt := 20) dX6_prove_15 rfl (by decide) (fun h_15 => ?_) (fun h_15 => ?_)
    · have h_15 := pg_b1 h_15
      obtain ⟨c, hca, hc, rfl⟩ := in_ex 1 10 rfl rfl (by decide) (by decide) h_15
      have ec : pn (nI c) = c := nI_clamp (by omega)
      rw [ec] at k2
      refine go_aload_n (pc' := 21) dX6_prove_20 rfl rfl ?_
      refine go_getR (pc' := 24) dX6_prove_21 rfl flRX6_16 rfl rfl ?_
      refine go_aload_n (pc' := 25) dX6_prove_24 rfl rfl ?_
      refine go_getR (pc' := 28) dX6_prove_25 rfl flRX6_10 rfl rfl ?_
      refine go_cVv1 (pc' := 31) (M' := mX5_become) (d' := 1) dX6_prove_28 rfl cvRX6_87 rfl rfl (by decide) rfl (Nat.le_of_ble_eq_true rfl) ?_
      refine tX5_become_10_1 h hn (fun g1 h1 f1 => ?_)
      refine go_iconst (pc' := 32) 0 dX6_prove_31 rfl (by decide) ?_
      refine go_istore_n (pc' := 33) dX6_prove_32 rfl (by decide) rfl ?_
      exact lprv wf hp hc c 0 g1 (by omega) h1 (fun j hj => absurd hj (by omega)) (fun g' a b z => k2 h_5 h_15 g' a b (FS.tr (FS.l f1 (by decide) (by decide)) z))
    · have h_15 := pg_b0 h_15
      refine go_iconst (pc' := 19) (-1) dX6_prove_18 rfl (by decide) ?_
      refine go_iret dX6_prove_19 (pg_narI _) ?_
      exact k1 (fun q => h_15 q.2)

set_option maxHeartbeats 4000000 in
set_option maxRecDepth 20000 in
theorem tX6_row {sc : pg_Sc} {g : pg_S} {K : Int32 → pg_S → Prop} {x y : Int32} (hr : ∃ R, R ≤ 10 ∧ g.1 30 1 = nI R) (k1 : ¬ ((0 ≤ x ∧ x < g.1 30 1) ∧ UP y 2) → K (-999) g) (k : (0 ≤ x ∧ x < g.1 30 1) ∧ UP y 2 → K (g.1 (32 + pn x) (pn y)) g) : pg_Cal sc 3 mX6_row [.ref 0, .int x, .int y] g (pg_ki K) := by
  refine pg_Cal.of rfl (Nat.le_of_ble_eq_true rfl) rfl ?_
  refine go_aload_n (pc' := 1) dX6_row_0 rfl rfl ?_
  refine go_getR (pc' := 4) dX6_row_1 rfl flRX6_36 rfl rfl ?_
  refine go_iload_n (pc' := 5) dX6_row_4 rfl rfl ?_
  refine go_iload_n (pc' := 6) dX6_row_5 rfl rfl ?_
  refine go_cVi2 (pc' := 9) (M' := mX1_has) (d' := 2) dX6_row_6 rfl cvRX6_236 rfl rfl (by decide) rfl (Nat.le_of_ble_eq_true rfl) ?_
  refine tX1_has ?_
  refine go_if_eq (pc' := 12) (tgt := 26) dX6_row_9 rfl (by decide) (fun h_9 => ?_) (fun h_9 => ?_)
  · have h_9 := pg_b0 h_9
    refine go_sipush (pc' := 29) (-999) dX6_row_26 rfl (by decide) ?_
    refine go_iret dX6_row_29 (pg_narI _) ?_
    exact k1 (fun q => h_9 q)
  · have h_9 := pg_b1 h_9
    have h_0 := h_9
    obtain ⟨R, hR, eR⟩ := hr
    rw [eR] at h_9
    obtain ⟨i, hi, rfl⟩ := pp_ex h_9.1
    obtain ⟨v, hv, rfl⟩ := up_ex 2 rfl (by decide) h_9.2
    have ei : pn (nI i) = i := nI_clamp (by omega)
    have ev : pn (nI v) = v := nI_clamp (by omega)
    have hi10 : i < 10 := by omega
    rw [ei, ev] at k
    refine go_aload_n (pc' := 13) dX6_row_12 rfl rfl ?_
    refine go_getR (pc' := 16) dX6_row_13 rfl flRX6_36 rfl rfl ?_
    refine go_getR (pc' := 19) dX6_row_16 rfl flRX6_239 rfl rfl ?_
    refine go_iload_n (pc' := 20) dX6_row_19 rfl rfl ?_
    refine go_aald (pc' := 21) i dX6_row_20 rfl rfl (by decide) rfl (by omega) (by decide) (row_rs i hi10) ?_
    refine go_iload_n (pc' := 22) dX6_row_21 rfl rfl ?_
    refine go_iald (pc' := 23) v dX6_row_22 rfl (row_sh i hi10) rfl (by omega) (by decide) ?_
    refine go_goto (pc' := 29) dX6_row_23 (by decide) ?_
    refine go_iret dX6_row_29 (pg_narI _) ?_
    exact k h_0

set_option maxHeartbeats 4000000 in
set_option maxRecDepth 20000 in
theorem tX6_alterRow {sc : pg_Sc} {g : pg_S} {K : Int32 → pg_S → Prop} {x y z : Int32} (hr : ∃ R, R ≤ 10 ∧ g.1 30 1 = nI R) (k1 : ¬ ((0 ≤ x ∧ x < g.1 30 1) ∧ UP y 2) → K (-999) g) (k : (0 ≤ x ∧ x < g.1 30 1) ∧ UP y 2 → K (g.1 (32 + pn x) (pn y)) (pg_ui g.1 (32 + pn x) (pn y) z, g.2)) : pg_Cal sc 3 mX6_alterRow [.ref 0, .int x, .int y, .int z] g (pg_ki K) := by
  refine pg_Cal.of rfl (Nat.le_of_ble_eq_true rfl) rfl ?_
  refine go_aload_n (pc' := 1) dX6_alterRow_0 rfl rfl ?_
  refine go_getR (pc' := 4) dX6_alterRow_1 rfl flRX6_36 rfl rfl ?_
  refine go_iload_n (pc' := 5) dX6_alterRow_4 rfl rfl ?_
  refine go_iload_n (pc' := 6) dX6_alterRow_5 rfl rfl ?_
  refine go_cVi2 (pc' := 9) (M' := mX1_has) (d' := 2) dX6_alterRow_6 rfl cvRX6_236 rfl rfl (by decide) rfl (Nat.le_of_ble_eq_true rfl) ?_
  refine tX1_has ?_
  refine go_if_ne (pc' := 12) (tgt := 16) dX6_alterRow_9 rfl (by decide) (fun h_9 => ?_) (fun h_9 => ?_)
  · have h_9 := pg_b1 h_9
    have h_0 := h_9
    obtain ⟨R, hR, eR⟩ := hr
    rw [eR] at h_9
    obtain ⟨i, hi, rfl⟩ := pp_ex h_9.1
    obtain ⟨v, hv, rfl⟩ := up_ex 2 rfl (by decide) h_9.2
    have ei : pn (nI i) = i := nI_clamp (by omega)
    have ev : pn (nI v) = v := nI_clamp (by omega)
    have hi10 : i < 10 := by omega
    rw [ei, ev] at k
    refine go_aload_n (pc' := 17) dX6_alterRow_16 rfl rfl ?_
    refine go_getR (pc' := 20) dX6_alterRow_17 rfl flRX6_36 rfl rfl ?_
    refine go_getR (pc' := 23) dX6_alterRow_20 rfl flRX6_239 rfl rfl ?_
    refine go_iload_n (pc' := 24) dX6_alterRow_23 rfl rfl ?_
    refine go_aald (pc' := 25) i dX6_alterRow_24 rfl rfl (by decide) rfl (by omega) (by decide) (row_rs i hi10) ?_
    refine go_iload_n (pc' := 26) dX6_alterRow_25 rfl rfl ?_
    refine go_iald (pc' := 27) v dX6_alterRow_26 rfl (row_sh i hi10) rfl (by omega) (by decide) ?_
    refine go_istore (pc' := 29) dX6_alterRow_27 rfl (by decide) rfl ?_
    refine go_aload_n (pc' := 30) dX6_alterRow_29 rfl rfl ?_
    refine go_getR (pc' := 33) dX6_alterRow_30 rfl flRX6_36 rfl rfl ?_
    refine go_getR (pc' := 36) dX6_alterRow_33 rfl flRX6_239 rfl rfl ?_
    refine go_iload_n (pc' := 37) dX6_alterRow_36 rfl rfl ?_
    refine go_aald (pc' := 38) i dX6_alterRow_37 rfl rfl (by decide) rfl (by omega) (by decide) (row_rs i hi10) ?_
    refine go_iload_n (pc' := 39) dX6_alterRow_38 rfl rfl ?_
    refine go_iload_n (pc' := 40) dX6_alterRow_39 rfl rfl ?_
    refine go_iast (pc' := 41) v dX6_alterRow_40 rfl (row_sh i hi10) rfl (by omega) (by decide) ?_
    refine go_iload (pc' := 43) dX6_alterRow_41 rfl rfl ?_
    refine go_iret dX6_alterRow_43 (pg_narI _) ?_
    exact k h_0
  · have h_9 := pg_b0 h_9
    refine go_sipush (pc' := 15) (-999) dX6_alterRow_12 rfl (by decide) ?_
    refine go_iret dX6_alterRow_15 (pg_narI _) ?_
    exact k1 (fun q => h_9 q)

def jdgF (r : Nat → Nat → Int32) (n p : Nat) (T : TW) : Nat → Nat → Int32
  | 0, _ => 0
  | m + 1, i => if r i 0 = rowV n p T i 0 ∧ r i 1 = rowV n p T i 1 ∧ r i 2 = rowV n p T i 2 then jdgF r n p T m (i + 1) else nI (i + 1)
set_option maxHeartbeats 4000000 in
set_option maxRecDepth 20000 in
theorem ljdg {sc : pg_Sc} {K : Int32 → pg_S → Prop} {T : TW} {n p c : Nat} {r : Nat → Nat → Int32} (wf : WF T n) (hp : p < n) (hc : c ≤ 10) : ∀ (m : Nat) (i : Nat) (g : pg_S), i + m = c → CR g 10 (hoursF n i T) n → g.1 30 1 = nI c → (∀ j, g.1 (32 + j) = r j ∨ 10 ≤ j) → (∀ g', FR 10 19 g g' → K (jdgF r n p T m i) g') → pg_Go sc 4 mX6_judge 23 [(0, .ref 0), (1, .int (nI p)), (2, .int (nI i))] [] g (pg_ki K) := by
  intro m
  induction m with
  | zero =>
    intro i g hi h hR hr k
    obtain rfl : i = c := by omega
    refine go_iload_n (pc' := 24) dX6_judge_23 rfl rfl ?_
    refine go_aload_n (pc' := 25) dX6_judge_24 rfl rfl ?_
    refine go_getR (pc' := 28) dX6_judge_25 rfl flRX6_36 rfl rfl ?_
    refine go_getI (pc' := 31) dX6_judge_28 rfl flRX6_91 rfl rfl ?_
    rw [hR]
    refine go_icmp_ge (pc' := 34) (tgt := 97) dX6_judge_31 rfl (by decide) (fun h_31 => ?_) (fun h_31 => absurd (Int32.le_refl _) h_31)
    refine go_iconst (pc' := 98) 0 dX6_judge_97 rfl (by decide) ?_
    refine go_iret dX6_judge_98 (pg_narI _) ?_
    exact k _ FR.rf
  | succ m ih =>
    intro i g hi h hR hr k
    have hn := wf.1
    have hin : i < c := by omega
    have wfi := WF.hours i wf
    simp only [jdgF] at k
    have q0 : rowV n p T i 0 = hourF n (hoursF n i T) 5 p := by unfold rowV; rw [if_pos rfl, hoursF_s]
    have q1 : rowV n p T i 1 = hourF n (hoursF n i T) 6 p := by unfold rowV; rw [if_neg (by decide), if_pos rfl, hoursF_s]
    have q2 : rowV n p T i 2 = leanF (hoursF n i T) p (hoursF n i T 8 1) := by unfold rowV; rw [if_neg (by decide), if_neg (by decide)]
    have hri : g.1 (32 + i) = r i := (hr i).resolve_right (by omega)
    refine go_iload_n (pc' := 24) dX6_judge_23 rfl rfl ?_
    refine go_aload_n (pc' := 25) dX6_judge_24 rfl rfl ?_
    refine go_getR (pc' := 28) dX6_judge_25 rfl flRX6_36 rfl rfl ?_
    refine go_getI (pc' := 31) dX6_judge_28 rfl flRX6_91 rfl rfl ?_
    rw [hR]
    refine go_icmp_ge (pc' := 34) (tgt := 97) dX6_judge_31 rfl (by decide) (fun h_31 => absurd h_31 (nI_ge hin (by omega))) (fun h_31 => ?_)
    refine go_aload_n (pc' := 35) dX6_judge_34 rfl rfl ?_
    refine go_getR (pc' := 38) dX6_judge_35 rfl flRX6_16 rfl rfl ?_
    refine go_iload_n (pc' := 39) dX6_judge_38 rfl rfl ?_
    refine go_aload_n (pc' := 40) dX6_judge_39 rfl rfl ?_
    refine go_getR (pc' := 43) dX6_judge_40 rfl flRX6_16 rfl rfl ?_
    refine go_getI (pc' := 46) dX6_judge_43 rfl flRX6_174 rfl rfl ?_
    rw [c10_hour h]
    refine go_cVi2 (pc' := 49) (M' := mX5_leanAt) (d' := 1) dX6_judge_46 rfl cvRX6_134 rfl rfl (by decide) rfl (Nat.le_of_ble_eq_true rfl) ?_
    refine tX5_leanAt_10 h wfi hp ?_
    refine go_istore_n (pc' := 50) dX6_judge_49 rfl (by decide) rfl ?_
    refine go_aload_n (pc' := 51) dX6_judge_50 rfl rfl ?_
    refine go_getR (pc' := 54) dX6_judge_51 rfl flRX6_16 rfl rfl ?_
    refine go_cVv0 (pc' := 57) (M' := mX5_spendHour) (d' := 3) dX6_judge_54 rfl cvRX6_171 rfl rfl (by decide) rfl (Nat.le_of_ble_eq_true rfl) ?_
    refine tX5_spendHour_10 h wfi (fun g1 h1 f1 => ?_)
    have h1s := h1
    rw [← hoursF_s] at h1s
    refine go_aload_n (pc' := 58) dX6_judge_57 rfl rfl ?_
    refine go_getR (pc' := 61) dX6_judge_58 rfl flRX6_36 rfl rfl ?_
    refine go_iload_n (pc' := 62) dX6_judge_61 rfl rfl ?_
    refine go_aload_n (pc' := 63) dX6_judge_62 rfl rfl ?_
    refine go_getR (pc' := 66) dX6_judge_63 rfl flRX6_16 rfl rfl ?_
    refine go_getR (pc' := 69) dX6_judge_66 rfl flRX6_124 rfl rfl ?_
    refine go_iload_n (pc' := 70) dX6_judge_69 rfl rfl ?_
    refine go_iald (pc' := 71) _ dX6_judge_70 rfl rfl rfl (by omega) (by decide) ?_
    rw [c10_place h1 (by omega)]
    refine go_aload_n (pc' := 72) dX6_judge_71 rfl rfl ?_
    refine go_getR (pc' := 75) dX6_judge_72 rfl flRX6_16 rfl rfl ?_
    refine go_getR (pc' := 78) dX6_judge_75 rfl flRX6_127 rfl rfl ?_
    refine go_iload_n (pc' := 79) dX6_judge_78 rfl rfl ?_
    refine go_iald (pc' := 80) _ dX6_judge_79 rfl rfl rfl (by omega) (by decide) ?_
    rw [c10_know h1 (by omega)]
    refine go_iload_n (pc' := 81) dX6_judge_80 rfl rfl ?_
    refine go_cVi4 (pc' := 84) (M' := mX1_reads) (d' := 1) dX6_judge_81 rfl cvRX6_243 rfl rfl (by decide) rfl (Nat.le_of_ble_eq_true rfl) ?_
    refine tX1_reads (by omega) ?_
    rw [f1.1 (32 + i) (by omega), hri, ← q0, ← q1, ← q2]
    refine go_if_ne (pc' := 87) (tgt := 91) dX6_judge_84 rfl (by decide) (fun h_84 => ?_) (fun h_84 => ?_)
    · have h_84 := pg_b1 h_84
      refine go_iinc (pc' := 94) _ dX6_judge_91 rfl rfl (pg_inc _) (by decide) rfl ?_
      refine go_goto (pc' := 23) dX6_judge_94 (by decide) ?_
      rw [if_pos h_84] at k
      refine go_sub [0, 1, 2] rfl ?_
      exact ih (i + 1) _ (by omega) h1s (by rw [f1.1 30 (by omega)]; exact hR) (fun j => (hr j).imp (fun z => by rw [f1.1 (32 + j) (by by_cases q : 10 ≤ j <;> omega)]; exact z) id) (fun g' z => k g' (FR.tr f1 z))
    · have h_84 := pg_b0 h_84
      refine go_iload_n (pc' := 88) dX6_judge_87 rfl rfl ?_
      refine go_iconst (pc' := 89) 1 dX6_judge_88 rfl (by decide) ?_
      refine go_iadd (pc' := 90) dX6_judge_89 rfl ?_
      refine go_iret dX6_judge_90 (pg_narI _) ?_
      rw [if_neg h_84] at k
      rw [nI_1]
      exact k _ f1

set_option maxHeartbeats 4000000 in
set_option maxRecDepth 20000 in
theorem tX6_judge {sc : pg_Sc} {g : pg_S} {K : Int32 → pg_S → Prop} {T : TW} {n : Nat} {y : Int32} {R : Nat} (h : CR g 1 T n) (wf : WF T n) (hR : g.1 30 1 = nI R) (hR10 : R ≤ 10) (k1 : ¬ PP n y → K (-1) g) (k2 : PP n y → ∀ g', FR 10 19 g g' → K (jdgF (fun j => g.1 (32 + j)) n (pn y) T R 0) g') : pg_Cal sc 4 mX6_judge [.ref 0, .int y] g (pg_ki K) := by
  refine pg_Cal.of rfl (Nat.le_of_ble_eq_true rfl) rfl ?_
  have hn := wf.1
  refine go_aload_n (pc' := 1) dX6_judge_0 rfl rfl ?_
  refine go_iload_n (pc' := 2) dX6_judge_1 rfl rfl ?_
  refine go_cVi1 (pc' := 5) (M' := mX6_isPerson) (d' := 1) dX6_judge_2 rfl cvRX6_111 rfl rfl (by decide) rfl (Nat.le_of_ble_eq_true rfl) ?_
  refine tX6_isPerson h ?_
  refine go_if_ne (pc' := 8) (tgt := 10) dX6_judge_5 rfl (by decide) (fun h_5 => ?_) (fun h_5 => ?_)
  · have h_5 := pg_b1 h_5
    obtain ⟨p, hp, rfl⟩ := pp_ex h_5
    have ep : pn (nI p) = p := nI_clamp (by omega)
    rw [ep] at k2
    refine go_aload_n (pc' := 11) dX6_judge_10 rfl rfl ?_
    refine go_getR (pc' := 14) dX6_judge_11 rfl flRX6_16 rfl rfl ?_
    refine go_aload_n (pc' := 15) dX6_judge_14 rfl rfl ?_
    refine go_getR (pc' := 18) dX6_judge_15 rfl flRX6_10 rfl rfl ?_
    refine go_cVv1 (pc' := 21) (M' := mX5_become) (d' := 1) dX6_judge_18 rfl cvRX6_87 rfl rfl (by decide) rfl (Nat.le_of_ble_eq_true rfl) ?_
    refine tX5_become_10_1 h hn (fun g1 h1 f1 => ?_)
    refine go_iconst (pc' := 22) 0 dX6_judge_21 rfl (by decide) ?_
    refine go_istore_n (pc' := 23) dX6_judge_22 rfl (by decide) rfl ?_
    exact ljdg (r := fun j => g.1 (32 + j)) wf hp hR10 R 0 g1 (by omega) h1 (by rw [f1.1 30 (by omega)]; exact hR) (fun j => Or.inl (f1.1 (32 + j) (by omega))) (fun g' z => k2 h_5 g' (FR.tr f1 z))
  · have h_5 := pg_b0 h_5
    refine go_iconst (pc' := 9) (-1) dX6_judge_8 rfl (by decide) ?_
    refine go_iret dX6_judge_9 (pg_narI _) ?_
    exact k1 (fun q => h_5 q)

