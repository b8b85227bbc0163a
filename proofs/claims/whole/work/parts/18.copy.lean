theorem bec_10_1 {g : pg_S} {T : TW} {n : Nat} (h : CR g 1 T n) (hn : n ≤ 8) : CR ((pg_ui (pg_ui (pg_ui (pg_uc (pg_uc (pg_uc (pg_uc (pg_uc (pg_uc (pg_uc g.1 2 4 11) 3 6 12) 4 8 13) 5 8 14) 6 8 15) 7 8 16) 8 8 17) 10 8 (g.1 1 8)) 10 9 (g.1 1 9)) 10 10 (g.1 1 10)), g.2) 10 T n := by
  obtain ⟨h1, h2, h3, h4, h5⟩ := h
  refine ⟨h1, fun j hj => ?_, fun j hj => ?_, fun j hj => ?_, fun a ha hb j hj => ?_⟩
  · have h2 := h2 j hj
    simp only [pg_ui_at, pg_uc_at]
    rcases (show j = 0 ∨ j = 1 ∨ j = 2 by omega) with rfl | rfl | rfl <;> simpa using h2
  · have h3 := h3 j hj
    simp only [pg_ui_at, pg_uc_at]
    simpa [hj] using h3
  · have h4 := h4 j hj
    simp only [pg_ui_at, pg_uc_at]
    simpa [hj] using h4
  · have h5 := h5 a ha hb j hj
    have hj8 : j < 8 := by omega
    simp only [pg_ui_at, pg_uc_at]
    rcases (show a = 2 ∨ a = 3 ∨ a = 4 ∨ a = 5 ∨ a = 6 by omega) with rfl | rfl | rfl | rfl | rfl <;> simpa [hj8] using h5
set_option maxHeartbeats 4000000 in
set_option maxRecDepth 20000 in
theorem tX5_become_10_1 {sc : pg_Sc} {g : pg_S} {K : pg_S → Prop} {T : TW} {n : Nat} (h : CR g 1 T n) (hn : n ≤ 8) (k : ∀ g', CR g' 10 T n → FR 10 19 g g' → K g') : pg_Cal sc 1 mX5_become [.ref 10, .ref 1] g (pg_kv K) := by
  refine pg_Cal.of rfl (Nat.le_of_ble_eq_true rfl) rfl ?_
  refine go_aload_n (pc' := 1) dX5_become_0 rfl rfl ?_
  refine go_getR (pc' := 4) dX5_become_1 rfl flRX5_9 rfl rfl ?_
  refine go_iconst (pc' := 5) 0 dX5_become_4 rfl (by decide) ?_
  refine go_aload_n (pc' := 6) dX5_become_5 rfl rfl ?_
  refine go_getR (pc' := 9) dX5_become_6 rfl flRX5_9 rfl rfl ?_
  refine go_iconst (pc' := 10) 0 dX5_become_9 rfl (by decide) ?_
  refine go_iconst (pc' := 11) 4 dX5_become_10 rfl (by decide) ?_
  refine go_copy (pc' := 14) 4 dX5_become_11 rfl acRX5_52 ac_nat ac_sta ac_ini rfl rfl rfl (by decide) (by decide) (by decide) (by decide) rfl ?_
  refine go_gen (fun g1 e1 => ?_)
  have f1 : FR 10 19 g g1 := by rw [e1]; exact FR.uc (by decide)
  refine go_aload_n (pc' := 15) dX5_become_14 rfl rfl ?_
  refine go_getR (pc' := 18) dX5_become_15 rfl flRX5_15 rfl rfl ?_
  refine go_iconst (pc' := 19) 0 dX5_become_18 rfl (by decide) ?_
  refine go_aload_n (pc' := 20) dX5_become_19 rfl rfl ?_
  refine go_getR (pc' := 23) dX5_become_20 rfl flRX5_15 rfl rfl ?_
  refine go_iconst (pc' := 24) 0 dX5_become_23 rfl (by decide) ?_
  refine go_bipush (pc' := 26) 6 dX5_become_24 rfl (by decide) ?_
  refine go_copy (pc' := 29) 6 dX5_become_26 rfl acRX5_52 ac_nat ac_sta ac_ini rfl rfl rfl (by decide) (by decide) (by decide) (by decide) rfl ?_
  refine go_gen (fun g2 e2 => ?_)
  have f2 : FR 10 19 g g2 := by rw [e2]; exact FR.tr f1 (FR.uc (by decide))
  refine go_aload_n (pc' := 30) dX5_become_29 rfl rfl ?_
  refine go_getR (pc' := 33) dX5_become_30 rfl flRX5_18 rfl rfl ?_
  refine go_iconst (pc' := 34) 0 dX5_become_33 rfl (by decide) ?_
  refine go_aload_n (pc' := 35) dX5_become_34 rfl rfl ?_
  refine go_getR (pc' := 38) dX5_become_35 rfl flRX5_18 rfl rfl ?_
  refine go_iconst (pc' := 39) 0 dX5_become_38 rfl (by decide) ?_
  refine go_bipush (pc' := 41) 8 dX5_become_39 rfl (by decide) ?_
  refine go_copy (pc' := 44) 8 dX5_become_41 rfl acRX5_52 ac_nat ac_sta ac_ini rfl rfl rfl (by decide) (by decide) (by decide) (by decide) rfl ?_
  refine go_gen (fun g3 e3 => ?_)
  have f3 : FR 10 19 g g3 := by rw [e3]; exact FR.tr f2 (FR.uc (by decide))
  refine go_aload_n (pc' := 45) dX5_become_44 rfl rfl ?_
  refine go_getR (pc' := 48) dX5_become_45 rfl flRX5_21 rfl rfl ?_
  refine go_iconst (pc' := 49) 0 dX5_become_48 rfl (by decide) ?_
  refine go_aload_n (pc' := 50) dX5_become_49 rfl rfl ?_
  refine go_getR (pc' := 53) dX5_become_50 rfl flRX5_21 rfl rfl ?_
  refine go_iconst (pc' := 54) 0 dX5_become_53 rfl (by decide) ?_
  refine go_bipush (pc' := 56) 8 dX5_become_54 rfl (by decide) ?_
  refine go_copy (pc' := 59) 8 dX5_become_56 rfl acRX5_52 ac_nat ac_sta ac_ini rfl rfl rfl (by decide) (by decide) (by decide) (by decide) rfl ?_
  refine go_gen (fun g4 e4 => ?_)
  have f4 : FR 10 19 g g4 := by rw [e4]; exact FR.tr f3 (FR.uc (by decide))
  refine go_aload_n (pc' := 60) dX5_become_59 rfl rfl ?_
  refine go_getR (pc' := 63) dX5_become_60 rfl flRX5_24 rfl rfl ?_
  refine go_iconst (pc' := 64) 0 dX5_become_63 rfl (by decide) ?_
  refine go_aload_n (pc' := 65) dX5_become_64 rfl rfl ?_
  refine go_getR (pc' := 68) dX5_become_65 rfl flRX5_24 rfl rfl ?_
  refine go_iconst (pc' := 69) 0 dX5_become_68 rfl (by decide) ?_
  refine go_bipush (pc' := 71) 8 dX5_become_69 rfl (by decide) ?_
  refine go_copy (pc' := 74) 8 dX5_become_71 rfl acRX5_52 ac_nat ac_sta ac_ini rfl rfl rfl (by decide) (by decide) (by decide) (by decide) rfl ?_
  refine go_gen (fun g5 e5 => ?_)
  have f5 : FR 10 19 g g5 := by rw [e5]; exact FR.tr f4 (FR.uc (by decide))
  refine go_aload_n (pc' := 75) dX5_become_74 rfl rfl ?_
  refine go_getR (pc' := 78) dX5_become_75 rfl flRX5_27 rfl rfl ?_
  refine go_iconst (pc' := 79) 0 dX5_become_78 rfl (by decide) ?_
  refine go_aload_n (pc' := 80) dX5_become_79 rfl rfl ?_
  refine go_getR (pc' := 83) dX5_become_80 rfl flRX5_27 rfl rfl ?_
  refine go_iconst (pc' := 84) 0 dX5_become_83 rfl (by decide) ?_
  refine go_bipush (pc' := 86) 8 dX5_become_84 rfl (by decide) ?_
  refine go_copy (pc' := 89) 8 dX5_become_86 rfl acRX5_52 ac_nat ac_sta ac_ini rfl rfl rfl (by decide) (by decide) (by decide) (by decide) rfl ?_
  refine go_gen (fun g6 e6 => ?_)
  have f6 : FR 10 19 g g6 := by rw [e6]; exact FR.tr f5 (FR.uc (by decide))
  refine go_aload_n (pc' := 90) dX5_become_89 rfl rfl ?_
  refine go_getR (pc' := 93) dX5_become_90 rfl flRX5_30 rfl rfl ?_
  refine go_iconst (pc' := 94) 0 dX5_become_93 rfl (by decide) ?_
  refine go_aload_n (pc' := 95) dX5_become_94 rfl rfl ?_
  refine go_getR (pc' := 98) dX5_become_95 rfl flRX5_30 rfl rfl ?_
  refine go_iconst (pc' := 99) 0 dX5_become_98 rfl (by decide) ?_
  refine go_bipush (pc' := 101) 8 dX5_become_99 rfl (by decide) ?_
  refine go_copy (pc' := 104) 8 dX5_become_101 rfl acRX5_52 ac_nat ac_sta ac_ini rfl rfl rfl (by decide) (by decide) (by decide) (by decide) rfl ?_
  refine go_gen (fun g7 e7 => ?_)
  have f7 : FR 10 19 g g7 := by rw [e7]; exact FR.tr f6 (FR.uc (by decide))
  refine go_aload_n (pc' := 105) dX5_become_104 rfl rfl ?_
  refine go_aload_n (pc' := 106) dX5_become_105 rfl rfl ?_
  refine go_getI (pc' := 109) dX5_become_106 rfl flRX5_36 rfl rfl ?_
  rw [f7.1 1 (by omega)]
  refine go_putI (pc' := 112) dX5_become_109 rfl flRX5_36 rfl rfl ft5_8 ?_
  refine go_gen (fun g8 e8 => ?_)
  have f8 : FR 10 19 g g8 := by rw [e8]; exact FR.tr f7 (FR.ui (by decide))
  refine go_aload_n (pc' := 113) dX5_become_112 rfl rfl ?_
  refine go_aload_n (pc' := 114) dX5_become_113 rfl rfl ?_
  refine go_getI (pc' := 117) dX5_become_114 rfl flRX5_40 rfl rfl ?_
  rw [f8.1 1 (by omega)]
  refine go_putI (pc' := 120) dX5_become_117 rfl flRX5_40 rfl rfl ft5_9 ?_
  refine go_gen (fun g9 e9 => ?_)
  have f9 : FR 10 19 g g9 := by rw [e9]; exact FR.tr f8 (FR.ui (by decide))
  refine go_aload_n (pc' := 121) dX5_become_120 rfl rfl ?_
  refine go_aload_n (pc' := 122) dX5_become_121 rfl rfl ?_
  refine go_getI (pc' := 125) dX5_become_122 rfl flRX5_43 rfl rfl ?_
  rw [f9.1 1 (by omega)]
  refine go_putI (pc' := 128) dX5_become_125 rfl flRX5_43 rfl rfl ft5_10 ?_
  refine go_vret dX5_become_128 rfl ?_
  refine k _ ?_ (FR.tr f9 (FR.ui (by decide)))
  subst e1 e2 e3 e4 e5 e6 e7 e8 e9
  exact bec_10_1 h hn

theorem bec_1_10 {g : pg_S} {T : TW} {n : Nat} (h : CR g 10 T n) (hn : n ≤ 8) : CR ((pg_ui (pg_ui (pg_ui (pg_uc (pg_uc (pg_uc (pg_uc (pg_uc (pg_uc (pg_uc g.1 11 4 2) 12 6 3) 13 8 4) 14 8 5) 15 8 6) 16 8 7) 17 8 8) 1 8 (g.1 10 8)) 1 9 (g.1 10 9)) 1 10 (g.1 10 10)), g.2) 1 T n := by
  obtain ⟨h1, h2, h3, h4, h5⟩ := h
  refine ⟨h1, fun j hj => ?_, fun j hj => ?_, fun j hj => ?_, fun a ha hb j hj => ?_⟩
  · have h2 := h2 j hj
    simp only [pg_ui_at, pg_uc_at]
    rcases (show j = 0 ∨ j = 1 ∨ j = 2 by omega) with rfl | rfl | rfl <;> simpa using h2
  · have h3 := h3 j hj
    simp only [pg_ui_at, pg_uc_at]
    simpa [hj] using h3
  · have h4 := h4 j hj
    simp only [pg_ui_at, pg_uc_at]
    simpa [hj] using h4
  · have h5 := h5 a ha hb j hj
    have hj8 : j < 8 := by omega
    simp only [pg_ui_at, pg_uc_at]
    rcases (show a = 2 ∨ a = 3 ∨ a = 4 ∨ a = 5 ∨ a = 6 by omega) with rfl | rfl | rfl | rfl | rfl <;> simpa [hj8] using h5
set_option maxHeartbeats 4000000 in
set_option maxRecDepth 20000 in
theorem tX5_become_1_10 {sc : pg_Sc} {g : pg_S} {K : pg_S → Prop} {T : TW} {n : Nat} (h : CR g 10 T n) (hn : n ≤ 8) (k : ∀ g', CR g' 1 T n → FR 1 10 g g' → K g') : pg_Cal sc 1 mX5_become [.ref 1, .ref 10] g (pg_kv K) := by
  refine pg_Cal.of rfl (Nat.le_of_ble_eq_true rfl) rfl ?_
  refine go_aload_n (pc' := 1) dX5_become_0 rfl rfl ?_
  refine go_getR (pc' := 4) dX5_become_1 rfl flRX5_9 rfl rfl ?_
  refine go_iconst (pc' := 5) 0 dX5_become_4 rfl (by decide) ?_
  refine go_aload_n (pc' := 6) dX5_become_5 rfl rfl ?_
  refine go_getR (pc' := 9) dX5_become_6 rfl flRX5_9 rfl rfl ?_
  refine go_iconst (pc' := 10) 0 dX5_become_9 rfl (by decide) ?_
  refine go_iconst (pc' := 11) 4 dX5_become_10 rfl (by decide) ?_
  refine go_copy (pc' := 14) 4 dX5_become_11 rfl acRX5_52 ac_nat ac_sta ac_ini rfl rfl rfl (by decide) (by decide) (by decide) (by decide) rfl ?_
  refine go_gen (fun g1 e1 => ?_)
  have f1 : FR 1 10 g g1 := by rw [e1]; exact FR.uc (by decide)
  refine go_aload_n (pc' := 15) dX5_become_14 rfl rfl ?_
  refine go_getR (pc' := 18) dX5_become_15 rfl flRX5_15 rfl rfl ?_
  refine go_iconst (pc' := 19) 0 dX5_become_18 rfl (by decide) ?_
  refine go_aload_n (pc' := 20) dX5_become_19 rfl rfl ?_
  refine go_getR (pc' := 23) dX5_become_20 rfl flRX5_15 rfl rfl ?_
  refine go_iconst (pc' := 24) 0 dX5_become_23 rfl (by decide) ?_
  refine go_bipush (pc' := 26) 6 dX5_become_24 rfl (by decide) ?_
  refine go_copy (pc' := 29) 6 dX5_become_26 rfl acRX5_52 ac_nat ac_sta ac_ini rfl rfl rfl (by decide) (by decide) (by decide) (by decide) rfl ?_
  refine go_gen (fun g2 e2 => ?_)
  have f2 : FR 1 10 g g2 := by rw [e2]; exact FR.tr f1 (FR.uc (by decide))
  refine go_aload_n (pc' := 30) dX5_become_29 rfl rfl ?_
  refine go_getR (pc' := 33) dX5_become_30 rfl flRX5_18 rfl rfl ?_
  refine go_iconst (pc' := 34) 0 dX5_become_33 rfl (by decide) ?_
  refine go_aload_n (pc' := 35) dX5_become_34 rfl rfl ?_
  refine go_getR (pc' := 38) dX5_become_35 rfl flRX5_18 rfl rfl ?_
  refine go_iconst (pc' := 39) 0 dX5_become_38 rfl (by decide) ?_
  refine go_bipush (pc' := 41) 8 dX5_become_39 rfl (by decide) ?_
  refine go_copy (pc' := 44) 8 dX5_become_41 rfl acRX5_52 ac_nat ac_sta ac_ini rfl rfl rfl (by decide) (by decide) (by decide) (by decide) rfl ?_
  refine go_gen (fun g3 e3 => ?_)
  have f3 : FR 1 10 g g3 := by rw [e3]; exact FR.tr f2 (FR.uc (by decide))
  refine go_aload_n (pc' := 45) dX5_become_44 rfl rfl ?_
  refine go_getR (pc' := 48) dX5_become_45 rfl flRX5_21 rfl rfl ?_
  refine go_iconst (pc' := 49) 0 dX5_become_48 rfl (by decide) ?_
  refine go_aload_n (pc' := 50) dX5_become_49 rfl rfl ?_
  refine go_getR (pc' := 53) dX5_become_50 rfl flRX5_21 rfl rfl ?_
  refine go_iconst (pc' := 54) 0 dX5_become_53 rfl (by decide) ?_
  refine go_bipush (pc' := 56) 8 dX5_become_54 rfl (by decide) ?_
  refine go_copy (pc' := 59) 8 dX5_become_56 rfl acRX5_52 ac_nat ac_sta ac_ini rfl rfl rfl (by decide) (by decide) (by decide) (by decide) rfl ?_
  refine go_gen (fun g4 e4 => ?_)
  have f4 : FR 1 10 g g4 := by rw [e4]; exact FR.tr f3 (FR.uc (by decide))
  refine go_aload_n (pc' := 60) dX5_become_59 rfl rfl ?_
  refine go_getR (pc' := 63) dX5_become_60 rfl flRX5_24 rfl rfl ?_
  refine go_iconst (pc' := 64) 0 dX5_become_63 rfl (by decide) ?_
  refine go_aload_n (pc' := 65) dX5_become_64 rfl rfl ?_
  refine go_getR (pc' := 68) dX5_become_65 rfl flRX5_24 rfl rfl ?_
  refine go_iconst (pc' := 69) 0 dX5_become_68 rfl (by decide) ?_
  refine go_bipush (pc' := 71) 8 dX5_become_69 rfl (by decide) ?_
  refine go_copy (pc' := 74) 8 dX5_become_71 rfl acRX5_52 ac_nat ac_sta ac_ini rfl rfl rfl (by decide) (by decide) (by decide) (by decide) rfl ?_
  refine go_gen (fun g5 e5 => ?_)
  have f5 : FR 1 10 g g5 := by rw [e5]; exact FR.tr f4 (FR.uc (by decide))
  refine go_aload_n (pc' := 75) dX5_become_74 rfl rfl ?_
  refine go_getR (pc' := 78) dX5_become_75 rfl flRX5_27 rfl rfl ?_
  refine go_iconst (pc' := 79) 0 dX5_become_78 rfl (by decide) ?_
  refine go_aload_n (pc' := 80) dX5_become_79 rfl rfl ?_
  refine go_getR (pc' := 83) dX5_become_80 rfl flRX5_27 rfl rfl ?_
  refine go_iconst (pc' := 84) 0 dX5_become_83 rfl (by decide) ?_
  refine go_bipush (pc' := 86) 8 dX5_become_84 rfl (by decide) ?_
  refine go_copy (pc' := 89) 8 dX5_become_86 rfl acRX5_52 ac_nat ac_sta ac_ini rfl rfl rfl (by decide) (by decide) (by decide) (by decide) rfl ?_
  refine go_gen (fun g6 e6 => ?_)
  have f6 : FR 1 10 g g6 := by rw [e6]; exact FR.tr f5 (FR.uc (by decide))
  refine go_aload_n (pc' := 90) dX5_become_89 rfl rfl ?_
  refine go_getR (pc' := 93) dX5_become_90 rfl flRX5_30 rfl rfl ?_
  refine go_iconst (pc' := 94) 0 dX5_become_93 rfl (by decide) ?_
  refine go_aload_n (pc' := 95) dX5_become_94 rfl rfl ?_
  refine go_getR (pc' := 98) dX5_become_95 rfl flRX5_30 rfl rfl ?_
  refine go_iconst (pc' := 99) 0 dX5_become_98 rfl (by decide) ?_
  refine go_bipush (pc' := 101) 8 dX5_become_99 rfl (by decide) ?_
  refine go_copy (pc' := 104) 8 dX5_become_101 rfl acRX5_52 ac_nat ac_sta ac_ini rfl rfl rfl (by decide) (by decide) (by decide) (by decide) rfl ?_
  refine go_gen (fun g7 e7 => ?_)
  have f7 : FR 1 10 g g7 := by rw [e7]; exact FR.tr f6 (FR.uc (by decide))
  refine go_aload_n (pc' := 105) dX5_become_104 rfl rfl ?_
  refine go_aload_n (pc' := 106) dX5_become_105 rfl rfl ?_
  refine go_getI (pc' := 109) dX5_become_106 rfl flRX5_36 rfl rfl ?_
  rw [f7.1 10 (by omega)]
  refine go_putI (pc' := 112) dX5_become_109 rfl flRX5_36 rfl rfl ft5_8 ?_
  refine go_gen (fun g8 e8 => ?_)
  have f8 : FR 1 10 g g8 := by rw [e8]; exact FR.tr f7 (FR.ui (by decide))
  refine go_aload_n (pc' := 113) dX5_become_112 rfl rfl ?_
  refine go_aload_n (pc' := 114) dX5_become_113 rfl rfl ?_
  refine go_getI (pc' := 117) dX5_become_114 rfl flRX5_40 rfl rfl ?_
  rw [f8.1 10 (by omega)]
  refine go_putI (pc' := 120) dX5_become_117 rfl flRX5_40 rfl rfl ft5_9 ?_
  refine go_gen (fun g9 e9 => ?_)
  have f9 : FR 1 10 g g9 := by rw [e9]; exact FR.tr f8 (FR.ui (by decide))
  refine go_aload_n (pc' := 121) dX5_become_120 rfl rfl ?_
  refine go_aload_n (pc' := 122) dX5_become_121 rfl rfl ?_
  refine go_getI (pc' := 125) dX5_become_122 rfl flRX5_43 rfl rfl ?_
  rw [f9.1 10 (by omega)]
  refine go_putI (pc' := 128) dX5_become_125 rfl flRX5_43 rfl rfl ft5_10 ?_
  refine go_vret dX5_become_128 rfl ?_
  refine k _ ?_ (FR.tr f9 (FR.ui (by decide)))
  subst e1 e2 e3 e4 e5 e6 e7 e8 e9
  exact bec_1_10 h hn

theorem bec_19_1 {g : pg_S} {T : TW} {n : Nat} (h : CR g 1 T n) (hn : n ≤ 8) : CR ((pg_ui (pg_ui (pg_ui (pg_uc (pg_uc (pg_uc (pg_uc (pg_uc (pg_uc (pg_uc g.1 2 4 20) 3 6 21) 4 8 22) 5 8 23) 6 8 24) 7 8 25) 8 8 26) 19 8 (g.1 1 8)) 19 9 (g.1 1 9)) 19 10 (g.1 1 10)), g.2) 19 T n := by
  obtain ⟨h1, h2, h3, h4, h5⟩ := h
  refine ⟨h1, fun j hj => ?_, fun j hj => ?_, fun j hj => ?_, fun a ha hb j hj => ?_⟩
  · have h2 := h2 j hj
    simp only [pg_ui_at, pg_uc_at]
    rcases (show j = 0 ∨ j = 1 ∨ j = 2 by omega) with rfl | rfl | rfl <;> simpa using h2
  · have h3 := h3 j hj
    simp only [pg_ui_at, pg_uc_at]
    simpa [hj] using h3
  · have h4 := h4 j hj
    simp only [pg_ui_at, pg_uc_at]
    simpa [hj] using h4
  · have h5 := h5 a ha hb j hj
    have hj8 : j < 8 := by omega
    simp only [pg_ui_at, pg_uc_at]
    rcases (show a = 2 ∨ a = 3 ∨ a = 4 ∨ a = 5 ∨ a = 6 by omega) with rfl | rfl | rfl | rfl | rfl <;> simpa [hj8] using h5
set_option maxHeartbeats 4000000 in
set_option maxRecDepth 20000 in
theorem tX5_become_19_1 {sc : pg_Sc} {g : pg_S} {K : pg_S → Prop} {T : TW} {n : Nat} (h : CR g 1 T n) (hn : n ≤ 8) (k : ∀ g', CR g' 19 T n → FR 19 28 g g' → K g') : pg_Cal sc 1 mX5_become [.ref 19, .ref 1] g (pg_kv K) := by
  refine pg_Cal.of rfl (Nat.le_of_ble_eq_true rfl) rfl ?_
  refine go_aload_n (pc' := 1) dX5_become_0 rfl rfl ?_
  refine go_getR (pc' := 4) dX5_become_1 rfl flRX5_9 rfl rfl ?_
  refine go_iconst (pc' := 5) 0 dX5_become_4 rfl (by decide) ?_
  refine go_aload_n (pc' := 6) dX5_become_5 rfl rfl ?_
  refine go_getR (pc' := 9) dX5_become_6 rfl flRX5_9 rfl rfl ?_
  refine go_iconst (pc' := 10) 0 dX5_become_9 rfl (by decide) ?_
  refine go_iconst (pc' := 11) 4 dX5_become_10 rfl (by decide) ?_
  refine go_copy (pc' := 14) 4 dX5_become_11 rfl acRX5_52 ac_nat ac_sta ac_ini rfl rfl rfl (by decide) (by decide) (by decide) (by decide) rfl ?_
  refine go_gen (fun g1 e1 => ?_)
  have f1 : FR 19 28 g g1 := by rw [e1]; exact FR.uc (by decide)
  refine go_aload_n (pc' := 15) dX5_become_14 rfl rfl ?_
  refine go_getR (pc' := 18) dX5_become_15 rfl flRX5_15 rfl rfl ?_
  refine go_iconst (pc' := 19) 0 dX5_become_18 rfl (by decide) ?_
  refine go_aload_n (pc' := 20) dX5_become_19 rfl rfl ?_
  refine go_getR (pc' := 23) dX5_become_20 rfl flRX5_15 rfl rfl ?_
  refine go_iconst (pc' := 24) 0 dX5_become_23 rfl (by decide) ?_
  refine go_bipush (pc' := 26) 6 dX5_become_24 rfl (by decide) ?_
  refine go_copy (pc' := 29) 6 dX5_become_26 rfl acRX5_52 ac_nat ac_sta ac_ini rfl rfl rfl (by decide) (by decide) (by decide) (by decide) rfl ?_
  refine go_gen (fun g2 e2 => ?_)
  have f2 : FR 19 28 g g2 := by rw [e2]; exact FR.tr f1 (FR.uc (by decide))
  refine go_aload_n (pc' := 30) dX5_become_29 rfl rfl ?_
  refine go_getR (pc' := 33) dX5_become_30 rfl flRX5_18 rfl rfl ?_
  refine go_iconst (pc' := 34) 0 dX5_become_33 rfl (by decide) ?_
  refine go_aload_n (pc' := 35) dX5_become_34 rfl rfl ?_
  refine go_getR (pc' := 38) dX5_become_35 rfl flRX5_18 rfl rfl ?_
  refine go_iconst (pc' := 39) 0 dX5_become_38 rfl (by decide) ?_
  refine go_bipush (pc' := 41) 8 dX5_become_39 rfl (by decide) ?_
  refine go_copy (pc' := 44) 8 dX5_become_41 rfl acRX5_52 ac_nat ac_sta ac_ini rfl rfl rfl (by decide) (by decide) (by decide) (by decide) rfl ?_
  refine go_gen (fun g3 e3 => ?_)
  have f3 : FR 19 28 g g3 := by rw [e3]; exact FR.tr f2 (FR.uc (by decide))
  refine go_aload_n (pc' := 45) dX5_become_44 rfl rfl ?_
  refine go_getR (pc' := 48) dX5_become_45 rfl flRX5_21 rfl rfl ?_
  refine go_iconst (pc' := 49) 0 dX5_become_48 rfl (by decide) ?_
  refine go_aload_n (pc' := 50) dX5_become_49 rfl rfl ?_
  refine go_getR (pc' := 53) dX5_become_50 rfl flRX5_21 rfl rfl ?_
  refine go_iconst (pc' := 54) 0 dX5_become_53 rfl (by decide) ?_
  refine go_bipush (pc' := 56) 8 dX5_become_54 rfl (by decide) ?_
  refine go_copy (pc' := 59) 8 dX5_become_56 rfl acRX5_52 ac_nat ac_sta ac_ini rfl rfl rfl (by decide) (by decide) (by decide) (by decide) rfl ?_
  refine go_gen (fun g4 e4 => ?_)
  have f4 : FR 19 28 g g4 := by rw [e4]; exact FR.tr f3 (FR.uc (by decide))
  refine go_aload_n (pc' := 60) dX5_become_59 rfl rfl ?_
  refine go_getR (pc' := 63) dX5_become_60 rfl flRX5_24 rfl rfl ?_
  refine go_iconst (pc' := 64) 0 dX5_become_63 rfl (by decide) ?_
  refine go_aload_n (pc' := 65) dX5_become_64 rfl rfl ?_
  refine go_getR (pc' := 68) dX5_become_65 rfl flRX5_24 rfl rfl ?_
  refine go_iconst (pc' := 69) 0 dX5_become_68 rfl (by decide) ?_
  refine go_bipush (pc' := 71) 8 dX5_become_69 rfl (by decide) ?_
  refine go_copy (pc' := 74) 8 dX5_become_71 rfl acRX5_52 ac_nat ac_sta ac_ini rfl rfl rfl (by decide) (by decide) (by decide) (by decide) rfl ?_
  refine go_gen (fun g5 e5 => ?_)
  have f5 : FR 19 28 g g5 := by rw [e5]; exact FR.tr f4 (FR.uc (by decide))
  refine go_aload_n (pc' := 75) dX5_become_74 rfl rfl ?_
  refine go_getR (pc' := 78) dX5_become_75 rfl flRX5_27 rfl rfl ?_
  refine go_iconst (pc' := 79) 0 dX5_become_78 rfl (by decide) ?_
  refine go_aload_n (pc' := 80) dX5_become_79 rfl rfl ?_
  refine go_getR (pc' := 83) dX5_become_80 rfl flRX5_27 rfl rfl ?_
  refine go_iconst (pc' := 84) 0 dX5_become_83 rfl (by decide) ?_
  refine go_bipush (pc' := 86) 8 dX5_become_84 rfl (by decide) ?_
  refine go_copy (pc' := 89) 8 dX5_become_86 rfl acRX5_52 ac_nat ac_sta ac_ini rfl rfl rfl (by decide) (by decide) (by decide) (by decide) rfl ?_
  refine go_gen (fun g6 e6 => ?_)
  have f6 : FR 19 28 g g6 := by rw [e6]; exact FR.tr f5 (FR.uc (by decide))
  refine go_aload_n (pc' := 90) dX5_become_89 rfl rfl ?_
  refine go_getR (pc' := 93) dX5_become_90 rfl flRX5_30 rfl rfl ?_
  refine go_iconst (pc' := 94) 0 dX5_become_93 rfl (by decide) ?_
  refine go_aload_n (pc' := 95) dX5_become_94 rfl rfl ?_
  refine go_getR (pc' := 98) dX5_become_95 rfl flRX5_30 rfl rfl ?_
  refine go_iconst (pc' := 99) 0 dX5_become_98 rfl (by decide) ?_
  refine go_bipush (pc' := 101) 8 dX5_become_99 rfl (by decide) ?_
  refine go_copy (pc' := 104) 8 dX5_become_101 rfl acRX5_52 ac_nat ac_sta ac_ini rfl rfl rfl (by decide) (by decide) (by decide) (by decide) rfl ?_
  refine go_gen (fun g7 e7 => ?_)
  have f7 : FR 19 28 g g7 := by rw [e7]; exact FR.tr f6 (FR.uc (by decide))
  refine go_aload_n (pc' := 105) dX5_become_104 rfl rfl ?_
  refine go_aload_n (pc' := 106) dX5_become_105 rfl rfl ?_
  refine go_getI (pc' := 109) dX5_become_106 rfl flRX5_36 rfl rfl ?_
  rw [f7.1 1 (by omega)]
  refine go_putI (pc' := 112) dX5_become_109 rfl flRX5_36 rfl rfl ft5_8 ?_
  refine go_gen (fun g8 e8 => ?_)
  have f8 : FR 19 28 g g8 := by rw [e8]; exact FR.tr f7 (FR.ui (by decide))
  refine go_aload_n (pc' := 113) dX5_become_112 rfl rfl ?_
  refine go_aload_n (pc' := 114) dX5_become_113 rfl rfl ?_
  refine go_getI (pc' := 117) dX5_become_114 rfl flRX5_40 rfl rfl ?_
  rw [f8.1 1 (by omega)]
  refine go_putI (pc' := 120) dX5_become_117 rfl flRX5_40 rfl rfl ft5_9 ?_
  refine go_gen (fun g9 e9 => ?_)
  have f9 : FR 19 28 g g9 := by rw [e9]; exact FR.tr f8 (FR.ui (by decide))
  refine go_aload_n (pc' := 121) dX5_become_120 rfl rfl ?_
  refine go_aload_n (pc' := 122) dX5_become_121 rfl rfl ?_
  refine go_getI (pc' := 125) dX5_become_122 rfl flRX5_43 rfl rfl ?_
  rw [f9.1 1 (by omega)]
  refine go_putI (pc' := 128) dX5_become_125 rfl flRX5_43 rfl rfl ft5_10 ?_
  refine go_vret dX5_become_128 rfl ?_
  refine k _ ?_ (FR.tr f9 (FR.ui (by decide)))
  subst e1 e2 e3 e4 e5 e6 e7 e8 e9
  exact bec_19_1 h hn

theorem bec_1_19 {g : pg_S} {T : TW} {n : Nat} (h : CR g 19 T n) (hn : n ≤ 8) : CR ((pg_ui (pg_ui (pg_ui (pg_uc (pg_uc (pg_uc (pg_uc (pg_uc (pg_uc (pg_uc g.1 20 4 2) 21 6 3) 22 8 4) 23 8 5) 24 8 6) 25 8 7) 26 8 8) 1 8 (g.1 19 8)) 1 9 (g.1 19 9)) 1 10 (g.1 19 10)), g.2) 1 T n := by
  obtain ⟨h1, h2, h3, h4, h5⟩ := h
  refine ⟨h1, fun j hj => ?_, fun j hj => ?_, fun j hj => ?_, fun a ha hb j hj => ?_⟩
  · have h2 := h2 j hj
    simp only [pg_ui_at, pg_uc_at]
    rcases (show j = 0 ∨ j = 1 ∨ j = 2 by omega) with rfl | rfl | rfl <;> simpa using h2
  · have h3 := h3 j hj
    simp only [pg_ui_at, pg_uc_at]
    simpa [hj] using h3
  · have h4 := h4 j hj
    simp only [pg_ui_at, pg_uc_at]
    simpa [hj] using h4
  · have h5 := h5 a ha hb j hj
    have hj8 : j < 8 := by omega
    simp only [pg_ui_at, pg_uc_at]
    rcases (show a = 2 ∨ a = 3 ∨ a = 4 ∨ a = 5 ∨ a = 6 by omega) with rfl | rfl | rfl | rfl | rfl <;> simpa [hj8] using h5
set_option maxHeartbeats 4000000 in
set_option maxRecDepth 20000 in
theorem tX5_become_1_19 {sc : pg_Sc} {g : pg_S} {K : pg_S → Prop} {T : TW} {n : Nat} (h : CR g 19 T n) (hn : n ≤ 8) (k : ∀ g', CR g' 1 T n → FR 1 10 g g' → K g') : pg_Cal sc 1 mX5_become [.ref 1, .ref 19] g (pg_kv K) := by
  refine pg_Cal.of rfl (Nat.le_of_ble_eq_true rfl) rfl ?_
  refine go_aload_n (pc' := 1) dX5_become_0 rfl rfl ?_
  refine go_getR (pc' := 4) dX5_become_1 rfl flRX5_9 rfl rfl ?_
  refine go_iconst (pc' := 5) 0 dX5_become_4 rfl (by decide) ?_
  refine go_aload_n (pc' := 6) dX5_become_5 rfl rfl ?_
  refine go_getR (pc' := 9) dX5_become_6 rfl flRX5_9 rfl rfl ?_
  refine go_iconst (pc' := 10) 0 dX5_become_9 rfl (by decide) ?_
  refine go_iconst (pc' := 11) 4 dX5_become_10 rfl (by decide) ?_
  refine go_copy (pc' := 14) 4 dX5_become_11 rfl acRX5_52 ac_nat ac_sta ac_ini rfl rfl rfl (by decide) (by decide) (by decide) (by decide) rfl ?_
  refine go_gen (fun g1 e1 => ?_)
  have f1 : FR 1 10 g g1 := by rw [e1]; exact FR.uc (by decide)
  refine go_aload_n (pc' := 15) dX5_become_14 rfl rfl ?_
  refine go_getR (pc' := 18) dX5_become_15 rfl flRX5_15 rfl rfl ?_
  refine go_iconst (pc' := 19) 0 dX5_become_18 rfl (by decide) ?_
  refine go_aload_n (pc' := 20) dX5_become_19 rfl rfl ?_
  refine go_getR (pc' := 23) dX5_become_20 rfl flRX5_15 rfl rfl ?_
  refine go_iconst (pc' := 24) 0 dX5_become_23 rfl (by decide) ?_
  refine go_bipush (pc' := 26) 6 dX5_become_24 rfl (by decide) ?_
  refine go_copy (pc' := 29) 6 dX5_become_26 rfl acRX5_52 ac_nat ac_sta ac_ini rfl rfl rfl (by decide) (by decide) (by decide) (by decide) rfl ?_
  refine go_gen (fun g2 e2 => ?_)
  have f2 : FR 1 10 g g2 := by rw [e2]; exact FR.tr f1 (FR.uc (by decide))
  refine go_aload_n (pc' := 30) dX5_become_29 rfl rfl ?_
  refine go_getR (pc' := 33) dX5_become_30 rfl flRX5_18 rfl rfl ?_
  refine go_iconst (pc' := 34) 0 dX5_become_33 rfl (by decide) ?_
  refine go_aload_n (pc' := 35) dX5_become_34 rfl rfl ?_
  refine go_getR (pc' := 38) dX5_become_35 rfl flRX5_18 rfl rfl ?_
  refine go_iconst (pc' := 39) 0 dX5_become_38 rfl (by decide) ?_
  refine go_bipush (pc' := 41) 8 dX5_become_39 rfl (by decide) ?_
  refine go_copy (pc' := 44) 8 dX5_become_41 rfl acRX5_52 ac_nat ac_sta ac_ini rfl rfl rfl (by decide) (by decide) (by decide) (by decide) rfl ?_
  refine go_gen (fun g3 e3 => ?_)
  have f3 : FR 1 10 g g3 := by rw [e3]; exact FR.tr f2 (FR.uc (by decide))
  refine go_aload_n (pc' := 45) dX5_become_44 rfl rfl ?_
  refine go_getR (pc' := 48) dX5_become_45 rfl flRX5_21 rfl rfl ?_
  refine go_iconst (pc' := 49) 0 dX5_become_48 rfl (by decide) ?_
  refine go_aload_n (pc' := 50) dX5_become_49 rfl rfl ?_
  refine go_getR (pc' := 53) dX5_become_50 rfl flRX5_21 rfl rfl ?_
  refine go_iconst (pc' := 54) 0 dX5_become_53 rfl (by decide) ?_
  refine go_bipush (pc' := 56) 8 dX5_become_54 rfl (by decide) ?_
  refine go_copy (pc' := 59) 8 dX5_become_56 rfl acRX5_52 ac_nat ac_sta ac_ini rfl rfl rfl (by decide) (by decide) (by decide) (by decide) rfl ?_
  refine go_gen (fun g4 e4 => ?_)
  have f4 : FR 1 10 g g4 := by rw [e4]; exact FR.tr f3 (FR.uc (by decide))
  refine go_aload_n (pc' := 60) dX5_become_59 rfl rfl ?_
  refine go_getR (pc' := 63) dX5_become_60 rfl flRX5_24 rfl rfl ?_
  refine go_iconst (pc' := 64) 0 dX5_become_63 rfl (by decide) ?_
  refine go_aload_n (pc' := 65) dX5_become_64 rfl rfl ?_
  refine go_getR (pc' := 68) dX5_become_65 rfl flRX5_24 rfl rfl ?_
  refine go_iconst (pc' := 69) 0 dX5_become_68 rfl (by decide) ?_
  refine go_bipush (pc' := 71) 8 dX5_become_69 rfl (by decide) ?_
  refine go_copy (pc' := 74) 8 dX5_become_71 rfl acRX5_52 ac_nat ac_sta ac_ini rfl rfl rfl (by decide) (by decide) (by decide) (by decide) rfl ?_
  refine go_gen (fun g5 e5 => ?_)
  have f5 : FR 1 10 g g5 := by rw [e5]; exact FR.tr f4 (FR.uc (by decide))
  refine go_aload_n (pc' := 75) dX5_become_74 rfl rfl ?_
  refine go_getR (pc' := 78) dX5_become_75 rfl flRX5_27 rfl rfl ?_
  refine go_iconst (pc' := 79) 0 dX5_become_78 rfl (by decide) ?_
  refine go_aload_n (pc' := 80) dX5_become_79 rfl rfl ?_
  refine go_getR (pc' := 83) dX5_become_80 rfl flRX5_27 rfl rfl ?_
  refine go_iconst (pc' := 84) 0 dX5_become_83 rfl (by decide) ?_
  refine go_bipush (pc' := 86) 8 dX5_become_84 rfl (by decide) ?_
  refine go_copy (pc' := 89) 8 dX5_become_86 rfl acRX5_52 ac_nat ac_sta ac_ini rfl rfl rfl (by decide) (by decide) (by decide) (by decide) rfl ?_
  refine go_gen (fun g6 e6 => ?_)
  have f6 : FR 1 10 g g6 := by rw [e6]; exact FR.tr f5 (FR.uc (by decide))
  refine go_aload_n (pc' := 90) dX5_become_89 rfl rfl ?_
  refine go_getR (pc' := 93) dX5_become_90 rfl flRX5_30 rfl rfl ?_
  refine go_iconst (pc' := 94) 0 dX5_become_93 rfl (by decide) ?_
  refine go_aload_n (pc' := 95) dX5_become_94 rfl rfl ?_
  refine go_getR (pc' := 98) dX5_become_95 rfl flRX5_30 rfl rfl ?_
  refine go_iconst (pc' := 99) 0 dX5_become_98 rfl (by decide) ?_
  refine go_bipush (pc' := 101) 8 dX5_become_99 rfl (by decide) ?_
  refine go_copy (pc' := 104) 8 dX5_become_101 rfl acRX5_52 ac_nat ac_sta ac_ini rfl rfl rfl (by decide) (by decide) (by decide) (by decide) rfl ?_
  refine go_gen (fun g7 e7 => ?_)
  have f7 : FR 1 10 g g7 := by rw [e7]; exact FR.tr f6 (FR.uc (by decide))
  refine go_aload_n (pc' := 105) dX5_become_104 rfl rfl ?_
  refine go_aload_n (pc' := 106) dX5_become_105 rfl rfl ?_
  refine go_getI (pc' := 109) dX5_become_106 rfl flRX5_36 rfl rfl ?_
  rw [f7.1 19 (by omega)]
  refine go_putI (pc' := 112) dX5_become_109 rfl flRX5_36 rfl rfl ft5_8 ?_
  refine go_gen (fun g8 e8 => ?_)
  have f8 : FR 1 10 g g8 := by rw [e8]; exact FR.tr f7 (FR.ui (by decide))
  refine go_aload_n (pc' := 113) dX5_become_112 rfl rfl ?_
  refine go_aload_n (pc' := 114) dX5_become_113 rfl rfl ?_
  refine go_getI (pc' := 117) dX5_become_114 rfl flRX5_40 rfl rfl ?_
  rw [f8.1 19 (by omega)]
  refine go_putI (pc' := 120) dX5_become_117 rfl flRX5_40 rfl rfl ft5_9 ?_
  refine go_gen (fun g9 e9 => ?_)
  have f9 : FR 1 10 g g9 := by rw [e9]; exact FR.tr f8 (FR.ui (by decide))
  refine go_aload_n (pc' := 121) dX5_become_120 rfl rfl ?_
  refine go_aload_n (pc' := 122) dX5_become_121 rfl rfl ?_
  refine go_getI (pc' := 125) dX5_become_122 rfl flRX5_43 rfl rfl ?_
  rw [f9.1 19 (by omega)]
  refine go_putI (pc' := 128) dX5_become_125 rfl flRX5_43 rfl rfl ft5_10 ?_
  refine go_vret dX5_become_128 rfl ?_
  refine k _ ?_ (FR.tr f9 (FR.ui (by decide)))
  subst e1 e2 e3 e4 e5 e6 e7 e8 e9
  exact bec_1_19 h hn

set_option maxHeartbeats 4000000 in
set_option maxRecDepth 20000 in
theorem lsa1 {sc : pg_Sc} {Q : pg_Q} : ∀ (m : Nat) (i : Nat) (g : pg_S), i + m = 4 → (∀ j, j < i → g.1 11 j = pg_t0.getD j 0) → (∀ g', (∀ j, j < 4 → g'.1 11 j = pg_t0.getD j 0) → FR 11 12 g g' → pg_Go sc 1 mX5_startAnew 24 [(0, .ref 10), (1, .int (nI 4))] [] g' Q) → pg_Go sc 1 mX5_startAnew 2 [(0, .ref 10), (1, .int (nI i))] [] g Q := by
  intro m
  induction m with
  | zero =>
    intro i g hi h k
    obtain rfl : i = 4 := by omega
    refine go_iload_n (pc' := 3) dX5_startAnew_2 rfl rfl ?_
    refine go_iconst (pc' := 4) 4 dX5_startAnew_3 rfl (by decide) ?_
    refine go_icmp_ge (pc' := 7) (tgt := 24) dX5_startAnew_4 rfl (by decide) (fun h_4 => ?_) (fun h_4 => absurd (Int32.le_refl _) h_4)
    exact k _ h FR.rf
  | succ m ih =>
    intro i g hi h k
    have hin : i < 4 := by omega
    refine go_iload_n (pc' := 3) dX5_startAnew_2 rfl rfl ?_
    refine go_iconst (pc' := 4) 4 dX5_startAnew_3 rfl (by decide) ?_
    refine go_icmp_ge (pc' := 7) (tgt := 24) dX5_startAnew_4 rfl (by decide) (fun h_4 => absurd h_4 (nI_ge (b := 4) hin (by decide))) (fun h_4 => ?_)
    refine go_aload_n (pc' := 8) dX5_startAnew_7 rfl rfl ?_
    refine go_getR (pc' := 11) dX5_startAnew_8 rfl flRX5_9 rfl rfl ?_
    refine go_iload_n (pc' := 12) dX5_startAnew_11 rfl rfl ?_
    refine go_gs0 (pc' := 15) dX5_startAnew_12 rfl rfl ?_
    refine go_iload_n (pc' := 16) dX5_startAnew_15 rfl rfl ?_
    refine go_ro0 (pc' := 17) i dX5_startAnew_16 rfl rfl hin ?_
    refine go_iast (pc' := 18) i dX5_startAnew_17 rfl rfl rfl hin (by decide) ?_
    refine go_iinc (pc' := 21) _ dX5_startAnew_18 rfl rfl (pg_inc _) (by decide) rfl ?_
    refine go_goto (pc' := 2) dX5_startAnew_21 (by decide) ?_
    refine ih (i + 1) _ (by omega) (fun j hj => ?_) (fun g' a c => k g' a (FR.tr (FR.ui (by decide)) c))
    show pg_ui g.1 11 i (pg_t0.getD i 0) 11 j = _
    rw [pg_ui_at]
    by_cases e : j = i
    · subst e; rw [if_pos ⟨rfl, rfl⟩]
    · rw [if_neg (fun q => e q.2)]; exact h j (by omega)

set_option maxHeartbeats 4000000 in
set_option maxRecDepth 20000 in
theorem lsa2 {sc : pg_Sc} {Q : pg_Q} : ∀ (m : Nat) (i : Nat) (g : pg_S), i + m = 6 → (∀ j, j < i → g.1 12 j = if j = 5 then 0 else 30) → (∀ g', (∀ j, j < 6 → g'.1 12 j = if j = 5 then 0 else 30) → FR 12 13 g g' → pg_Go sc 1 mX5_startAnew 55 [(0, .ref 10), (1, .int (nI 6))] [] g' Q) → pg_Go sc 1 mX5_startAnew 26 [(0, .ref 10), (1, .int (nI i))] [] g Q := by
  intro m
  induction m with
  | zero =>
    intro i g hi h k
    obtain rfl : i = 6 := by omega
    refine go_iload_n (pc' := 27) dX5_startAnew_26 rfl rfl ?_
    refine go_bipush (pc' := 29) 6 dX5_startAnew_27 rfl (by decide) ?_
    refine go_icmp_ge (pc' := 32) (tgt := 55) dX5_startAnew_29 rfl (by decide) (fun h_29 => ?_) (fun h_29 => absurd (Int32.le_refl _) h_29)
    exact k _ h FR.rf
  | succ m ih =>
    intro i g hi h k
    have hin : i < 6 := by omega
    refine go_iload_n (pc' := 27) dX5_startAnew_26 rfl rfl ?_
    refine go_bipush (pc' := 29) 6 dX5_startAnew_27 rfl (by decide) ?_
    refine go_icmp_ge (pc' := 32) (tgt := 55) dX5_startAnew_29 rfl (by decide) (fun h_29 => absurd h_29 (nI_ge (b := 6) hin (by decide))) (fun h_29 => ?_)
    refine go_aload_n (pc' := 33) dX5_startAnew_32 rfl rfl ?_
    refine go_getR (pc' := 36) dX5_startAnew_33 rfl flRX5_15 rfl rfl ?_
    refine go_iload_n (pc' := 37) dX5_startAnew_36 rfl rfl ?_
    refine go_iload_n (pc' := 38) dX5_startAnew_37 rfl rfl ?_
    refine go_iconst (pc' := 39) 5 dX5_startAnew_38 rfl (by decide) ?_
    refine go_icmp_ne (pc' := 42) (tgt := 46) dX5_startAnew_39 rfl (by decide) (fun h_39 => ?_) (fun h_39 => ?_)
    · refine go_bipush (pc' := 48) 30 dX5_startAnew_46 rfl (by decide) ?_
      refine go_iast (pc' := 49) i dX5_startAnew_48 rfl rfl rfl hin (by decide) ?_
      refine go_iinc (pc' := 52) _ dX5_startAnew_49 rfl rfl (pg_inc _) (by decide) rfl ?_
      refine go_goto (pc' := 26) dX5_startAnew_52 (by decide) ?_
      refine ih (i + 1) _ (by omega) (fun j hj => ?_) (fun g' a c => k g' a (FR.tr (FR.ui (by decide)) c))
      show pg_ui g.1 12 i 30 12 j = _
      rw [pg_ui_at]
      by_cases e : j = i
      · subst e; rw [if_pos ⟨rfl, rfl⟩, if_neg (fun q => h_39 (by rw [q]; rfl))]
      · rw [if_neg (fun q => e q.2)]; exact h j (by omega)
    · refine go_iconst (pc' := 43) 0 dX5_startAnew_42 rfl (by decide) ?_
      refine go_goto (pc' := 48) dX5_startAnew_43 (by decide) ?_
      refine go_iast (pc' := 49) i dX5_startAnew_48 rfl rfl rfl hin (by decide) ?_
      refine go_iinc (pc' := 52) _ dX5_startAnew_49 rfl rfl (pg_inc _) (by decide) rfl ?_
      refine go_goto (pc' := 26) dX5_startAnew_52 (by decide) ?_
      refine ih (i + 1) _ (by omega) (fun j hj => ?_) (fun g' a c => k g' a (FR.tr (FR.ui (by decide)) c))
      show pg_ui g.1 12 i 0 12 j = _
      rw [pg_ui_at]
      by_cases e : j = i
      · subst e; rw [if_pos ⟨rfl, rfl⟩, if_pos ((nI_eq (b := 5) (by omega) (by decide)).mp h_39)]
      · rw [if_neg (fun q => e q.2)]; exact h j (by omega)

set_option maxHeartbeats 4000000 in
set_option maxRecDepth 20000 in
theorem tX5_startAnew {sc : pg_Sc} {g : pg_S} {K : pg_S → Prop}   (k : ∀ g', CR g' 10 (T0F (g.1 10 10)) 0 → FR 10 19 g g' → K g') : pg_Cal sc 1 mX5_startAnew [.ref 10] g (pg_kv K) := by
  refine pg_Cal.of rfl (Nat.le_of_ble_eq_true rfl) rfl ?_
  refine go_iconst (pc' := 1) 0 dX5_startAnew_0 rfl (by decide) ?_
  refine go_istore_n (pc' := 2) dX5_startAnew_1 rfl (by decide) rfl ?_
  refine lsa1 4 0 g (by omega) (fun j hj => absurd hj (by omega)) (fun g1 a1 f1 => ?_)
  refine go_iconst (pc' := 25) 0 dX5_startAnew_24 rfl (by decide) ?_
  refine go_istore_n (pc' := 26) dX5_startAnew_25 rfl (by decide) rfl ?_
  refine lsa2 6 0 g1 (by omega) (fun j hj => absurd hj (by omega)) (fun g2 a2 f2 => ?_)
  refine go_aload_n (pc' := 56) dX5_startAnew_55 rfl rfl ?_
  refine go_iconst (pc' := 57) 0 dX5_startAnew_56 rfl (by decide) ?_
  refine go_putI (pc' := 60) dX5_startAnew_57 rfl flRX5_36 rfl rfl ft5_8 ?_
  refine go_aload_n (pc' := 61) dX5_startAnew_60 rfl rfl ?_
  refine go_iconst (pc' := 62) 0 dX5_startAnew_61 rfl (by decide) ?_
  refine go_putI (pc' := 65) dX5_startAnew_62 rfl flRX5_40 rfl rfl ft5_9 ?_
  refine go_vret dX5_startAnew_65 rfl ?_
  refine k _ ?_ (FR.tr (FR.tr (FR.tr (f1.wd (by decide) (by decide)) (f2.wd (by decide) (by decide))) (FR.ui (by decide))) (FR.ui (by decide)))
  refine ⟨rfl, fun j hj => ?_, fun j hj => ?_, fun j hj => ?_, fun a ha hb j hj => absurd hj (by omega)⟩
  · show pg_ui (pg_ui g2.1 10 8 0) 10 9 0 10 (8 + j) = _
    rw [pg_ui_at, pg_ui_at, f2.1 10 (by omega), f1.1 10 (by omega)]
    rcases (show j = 0 ∨ j = 1 ∨ j = 2 by omega) with rfl | rfl | rfl <;> simp [T0F]
  · show pg_ui (pg_ui g2.1 10 8 0) 10 9 0 11 j = _
    rw [pg_ui_at, if_neg (by omega), pg_ui_at, if_neg (by omega), f2.1 11 (by omega)]
    exact a1 j hj
  · show pg_ui (pg_ui g2.1 10 8 0) 10 9 0 12 j = _
    rw [pg_ui_at, if_neg (by omega), pg_ui_at, if_neg (by omega)]
    exact a2 j hj

set_option maxHeartbeats 4000000 in
set_option maxRecDepth 20000 in
theorem tX5_alter_0 {sc : pg_Sc} {g : pg_S} {K : pg_S → Prop} {T : TW} {n p : Nat} {v : Int32} (h : CR g 10 T n) (hn : n ≤ 8) (hp : p < n) (k : ∀ g', CR g' 10 (tu T 2 p v) n → FR 10 19 g g' → K g') : pg_Cal sc 1 mX5_alter [.ref 10, .int (nI p), .int 0, .int v] g (pg_kv K) := by
  refine pg_Cal.of rfl (Nat.le_of_ble_eq_true rfl) rfl ?_
  refine go_iload_n (pc' := 1) dX5_alter_0 rfl rfl ?_
  refine go_lookup (pc' := 28) (off := 27) dX5_alter_1 (by decide) (by decide) (by decide) ?_
  refine go_aload_n (pc' := 29) dX5_alter_28 rfl rfl ?_
  refine go_getR (pc' := 32) dX5_alter_29 rfl flRX5_18 rfl rfl ?_
  refine go_iload_n (pc' := 33) dX5_alter_32 rfl rfl ?_
  refine go_iload_n (pc' := 34) dX5_alter_33 rfl rfl ?_
  refine go_iast (pc' := 35) _ dX5_alter_34 rfl rfl rfl (by omega) (by decide) ?_
  refine go_goto (pc' := 55) dX5_alter_35 (by decide) ?_
  refine go_vret dX5_alter_55 rfl ?_
  exact k _ (h.put (a := 2) (by decide) (by decide)) (FR.ui (by decide))

set_option maxHeartbeats 4000000 in
set_option maxRecDepth 20000 in
theorem tX5_alter_1 {sc : pg_Sc} {g : pg_S} {K : pg_S → Prop} {T : TW} {n p : Nat} {v : Int32} (h : CR g 10 T n) (hn : n ≤ 8) (hp : p < n) (k : ∀ g', CR g' 10 (tu T 3 p v) n → FR 10 19 g g' → K g') : pg_Cal sc 1 mX5_alter [.ref 10, .int (nI p), .int 1, .int v] g (pg_kv K) := by
  refine pg_Cal.of rfl (Nat.le_of_ble_eq_true rfl) rfl ?_
  refine go_iload_n (pc' := 1) dX5_alter_0 rfl rfl ?_
  refine go_lookup (pc' := 38) (off := 37) dX5_alter_1 (by decide) (by decide) (by decide) ?_
  refine go_aload_n (pc' := 39) dX5_alter_38 rfl rfl ?_
  refine go_getR (pc' := 42) dX5_alter_39 rfl flRX5_21 rfl rfl ?_
  refine go_iload_n (pc' := 43) dX5_alter_42 rfl rfl ?_
  refine go_iload_n (pc' := 44) dX5_alter_43 rfl rfl ?_
  refine go_iast (pc' := 45) _ dX5_alter_44 rfl rfl rfl (by omega) (by decide) ?_
  refine go_goto (pc' := 55) dX5_alter_45 (by decide) ?_
  refine go_vret dX5_alter_55 rfl ?_
  exact k _ (h.put (a := 3) (by decide) (by decide)) (FR.ui (by decide))

set_option maxHeartbeats 4000000 in
set_option maxRecDepth 20000 in
theorem tX5_alter_2 {sc : pg_Sc} {g : pg_S} {K : pg_S → Prop} {T : TW} {n p : Nat} {v : Int32} (h : CR g 10 T n) (hn : n ≤ 8) (hp : p < n) (k : ∀ g', CR g' 10 (tu T 5 p v) n → FR 10 19 g g' → K g') : pg_Cal sc 1 mX5_alter [.ref 10, .int (nI p), .int 2, .int v] g (pg_kv K) := by
  refine pg_Cal.of rfl (Nat.le_of_ble_eq_true rfl) rfl ?_
  refine go_iload_n (pc' := 1) dX5_alter_0 rfl rfl ?_
  refine go_lookup (pc' := 48) (off := 47) dX5_alter_1 (by decide) (by decide) (by decide) ?_
  refine go_aload_n (pc' := 49) dX5_alter_48 rfl rfl ?_
  refine go_getR (pc' := 52) dX5_alter_49 rfl flRX5_27 rfl rfl ?_
  refine go_iload_n (pc' := 53) dX5_alter_52 rfl rfl ?_
  refine go_iload_n (pc' := 54) dX5_alter_53 rfl rfl ?_
  refine go_iast (pc' := 55) _ dX5_alter_54 rfl rfl rfl (by omega) (by decide) ?_
  refine go_vret dX5_alter_55 rfl ?_
  exact k _ (h.put (a := 5) (by decide) (by decide)) (FR.ui (by decide))

theorem uc_s {I : Nat → Nat → Int32} {a b i : Nat} (h : a ≠ b) : pg_ui (pg_uc I a i b) b i (pg_uc I a i b a i) = pg_uc I a (i + 1) b := by
  funext x y
  rw [pg_ui_at, pg_uc_at, pg_uc_at, pg_uc_at]
  by_cases hx : x = b
  · subst hx
    by_cases hy : y = i
    · subst hy; rw [if_pos ⟨rfl, rfl⟩, if_neg (fun q => h q.1), if_pos ⟨rfl, by omega⟩]
    · rw [if_neg (fun q => hy q.2)]
      by_cases hl : y < i
      · rw [if_pos ⟨rfl, hl⟩, if_pos ⟨rfl, by omega⟩]
      · rw [if_neg (fun q => hl q.2), if_neg (fun q => by omega)]
  · rw [if_neg (fun q => hx q.1), if_neg (fun q => hx q.1), if_neg (fun q => hx q.1)]
theorem uc_0 (I : Nat → Nat → Int32) (a b : Nat) : pg_uc I a 0 b = I := by
  funext x y
  rw [pg_uc_at, if_neg (by omega)]
theorem MR.copy {g : pg_S} {a b n : Nat} {T : TW} (h : MR g a T n) (hn : n ≤ 8) : MR (pg_uc g.1 a 53 b, g.2) b T n := by
  obtain ⟨h1, h2, h3, h4, h5⟩ := h
  have e : ∀ j, j < 53 → pg_uc g.1 a 53 b b j = g.1 a j := fun j hj => by rw [pg_uc_at, if_pos ⟨rfl, hj⟩]
  refine ⟨h1, ⟨(e 5 (by omega)).trans h2.1, (e 4 (by omega)).trans h2.2.1, (e 6 (by omega)).trans h2.2.2⟩, fun j hj => (e j (by omega)).trans (h3 j hj), fun j hj => (e (7 + j) (by omega)).trans (h4 j hj), fun c hc j hj => (e (13 + 5 * j + c) (by omega)).trans (h5 c hc j hj)⟩
set_option maxHeartbeats 4000000 in
set_option maxRecDepth 20000 in
theorem lmv_60_63 {sc : pg_Sc} {K : pg_S → Prop} {I : Nat → Nat → Int32} {J : Nat → Nat → Int64} : ∀ (m : Nat) (i : Nat), i + m = 53 → K (pg_uc I 60 53 63, J) → pg_Go sc 1 mX7_moveAll 2 [(0, .ref 60), (1, .ref 63), (2, .int (nI i))] [] (pg_uc I 60 i 63, J) (pg_kv K) := by
  intro m
  induction m with
  | zero =>
    intro i hi k
    obtain rfl : i = 53 := by omega
    refine go_iload_n (pc' := 3) dX7_moveAll_2 rfl rfl ?_
    refine go_bipush (pc' := 5) 53 dX7_moveAll_3 rfl (by decide) ?_
    refine go_icmp_ge (pc' := 8) (tgt := 20) dX7_moveAll_5 rfl (by decide) (fun h_5 => ?_) (fun h_5 => absurd (Int32.le_refl _) h_5)
    refine go_vret dX7_moveAll_20 rfl ?_
    exact k
  | succ m ih =>
    intro i hi k
    have hin : i < 53 := by omega
    refine go_iload_n (pc' := 3) dX7_moveAll_2 rfl rfl ?_
    refine go_bipush (pc' := 5) 53 dX7_moveAll_3 rfl (by decide) ?_
    refine go_icmp_ge (pc' := 8) (tgt := 20) dX7_moveAll_5 rfl (by decide) (fun h_5 => absurd h_5 (nI_ge (b := 53) hin (by decide))) (fun h_5 => ?_)
    refine go_aload_n (pc' := 9) dX7_moveAll_8 rfl rfl ?_
    refine go_iload_n (pc' := 10) dX7_moveAll_9 rfl rfl ?_
    refine go_aload_n (pc' := 11) dX7_moveAll_10 rfl rfl ?_
    refine go_iload_n (pc' := 12) dX7_moveAll_11 rfl rfl ?_
    refine go_iald (pc' := 13) i dX7_moveAll_12 rfl rfl rfl hin (by decide) ?_
    refine go_iast (pc' := 14) i dX7_moveAll_13 rfl rfl rfl hin (by decide) ?_
    refine go_iinc (pc' := 17) _ dX7_moveAll_14 rfl rfl (pg_inc _) (by decide) rfl ?_
    refine go_goto (pc' := 2) dX7_moveAll_17 (by decide) ?_
    show pg_Go _ _ _ _ _ _ (pg_ui (pg_uc I 60 i 63) 63 i (pg_uc I 60 i 63 60 i), J) _
    rw [uc_s (by decide)]
    exact ih (i + 1) (by omega) k

set_option maxHeartbeats 4000000 in
set_option maxRecDepth 20000 in
theorem tX7_moveAll_60_63 {sc : pg_Sc} {g : pg_S} {K : pg_S → Prop}   (k : K (pg_uc g.1 60 53 63, g.2)) : pg_Cal sc 1 mX7_moveAll [.ref 60, .ref 63] g (pg_kv K) := by
  refine pg_Cal.of rfl (Nat.le_of_ble_eq_true rfl) rfl ?_
  refine go_iconst (pc' := 1) 0 dX7_moveAll_0 rfl (by decide) ?_
  refine go_istore_n (pc' := 2) dX7_moveAll_1 rfl (by decide) rfl ?_
  have z := lmv_60_63 (sc := sc) (K := K) (I := g.1) (J := g.2) 53 0 (by omega) k
  rw [uc_0] at z
  exact z

theorem tX7_mv_60_63 {sc : pg_Sc} {g : pg_S} {K : pg_S → Prop} {T : TW} {n : Nat} (h : MR g 60 T n) (hn : n ≤ 8) (k : ∀ g', MR g' 63 T n → FR 63 64 g g' → K g') : pg_Cal sc 1 mX7_moveAll [.ref 60, .ref 63] g (pg_kv K) := tX7_moveAll_60_63 (k _ (h.copy hn) (FR.uc (by decide)))
set_option maxHeartbeats 4000000 in
set_option maxRecDepth 20000 in
theorem lmv_63_60 {sc : pg_Sc} {K : pg_S → Prop} {I : Nat → Nat → Int32} {J : Nat → Nat → Int64} : ∀ (m : Nat) (i : Nat), i + m = 53 → K (pg_uc I 63 53 60, J) → pg_Go sc 1 mX7_moveAll 2 [(0, .ref 63), (1, .ref 60), (2, .int (nI i))] [] (pg_uc I 63 i 60, J) (pg_kv K) := by
  intro m
  induction m with
  | zero =>
    intro i hi k
    obtain rfl : i = 53 := by omega
    refine go_iload_n (pc' := 3) dX7_moveAll_2 rfl rfl ?_
    refine go_bipush (pc' := 5) 53 dX7_moveAll_3 rfl (by decide) ?_
    refine go_icmp_ge (pc' := 8) (tgt := 20) dX7_moveAll_5 rfl (by decide) (fun h_5 => ?_) (fun h_5 => absurd (Int32.le_refl _) h_5)
    refine go_vret dX7_moveAll_20 rfl ?_
    exact k
  | succ m ih =>
    intro i hi k
    have hin : i < 53 := by omega
    refine go_iload_n (pc' := 3) dX7_moveAll_2 rfl rfl ?_
    refine go_bipush (pc' := 5) 53 dX7_moveAll_3 rfl (by decide) ?_
    refine go_icmp_ge (pc' := 8) (tgt := 20) dX7_moveAll_5 rfl (by decide) (fun h_5 => absurd h_5 (nI_ge (b := 53) hin (by decide))) (fun h_5 => ?_)
    refine go_aload_n (pc' := 9) dX7_moveAll_8 rfl rfl ?_
    refine go_iload_n (pc' := 10) dX7_moveAll_9 rfl rfl ?_
    refine go_aload_n (pc' := 11) dX7_moveAll_10 rfl rfl ?_
    refine go_iload_n (pc' := 12) dX7_moveAll_11 rfl rfl ?_
    refine go_iald (pc' := 13) i dX7_moveAll_12 rfl rfl rfl hin (by decide) ?_
    refine go_iast (pc' := 14) i dX7_moveAll_13 rfl rfl rfl hin (by decide) ?_
    refine go_iinc (pc' := 17) _ dX7_moveAll_14 rfl rfl (pg_inc _) (by decide) rfl ?_
    refine go_goto (pc' := 2) dX7_moveAll_17 (by decide) ?_
    show pg_Go _ _ _ _ _ _ (pg_ui (pg_uc I 63 i 60) 60 i (pg_uc I 63 i 60 63 i), J) _
    rw [uc_s (by decide)]
    exact ih (i + 1) (by omega) k

set_option maxHeartbeats 4000000 in
set_option maxRecDepth 20000 in
theorem tX7_moveAll_63_60 {sc : pg_Sc} {g : pg_S} {K : pg_S → Prop}   (k : K (pg_uc g.1 63 53 60, g.2)) : pg_Cal sc 1 mX7_moveAll [.ref 63, .ref 60] g (pg_kv K) := by
  refine pg_Cal.of rfl (Nat.le_of_ble_eq_true rfl) rfl ?_
  refine go_iconst (pc' := 1) 0 dX7_moveAll_0 rfl (by decide) ?_
  refine go_istore_n (pc' := 2) dX7_moveAll_1 rfl (by decide) rfl ?_
  have z := lmv_63_60 (sc := sc) (K := K) (I := g.1) (J := g.2) 53 0 (by omega) k
  rw [uc_0] at z
  exact z

theorem tX7_mv_63_60 {sc : pg_Sc} {g : pg_S} {K : pg_S → Prop} {T : TW} {n : Nat} (h : MR g 63 T n) (hn : n ≤ 8) (k : ∀ g', MR g' 60 T n → FR 60 61 g g' → K g') : pg_Cal sc 1 mX7_moveAll [.ref 63, .ref 60] g (pg_kv K) := tX7_moveAll_63_60 (k _ (h.copy hn) (FR.uc (by decide)))
set_option maxHeartbeats 4000000 in
set_option maxRecDepth 20000 in
theorem lmv_60_62 {sc : pg_Sc} {K : pg_S → Prop} {I : Nat → Nat → Int32} {J : Nat → Nat → Int64} : ∀ (m : Nat) (i : Nat), i + m = 53 → K (pg_uc I 60 53 62, J) → pg_Go sc 1 mX7_moveAll 2 [(0, .ref 60), (1, .ref 62), (2, .int (nI i))] [] (pg_uc I 60 i 62, J) (pg_kv K) := by
  intro m
  induction m with
  | zero =>
    intro i hi k
    obtain rfl : i = 53 := by omega
    refine go_iload_n (pc' := 3) dX7_moveAll_2 rfl rfl ?_
    refine go_bipush (pc' := 5) 53 dX7_moveAll_3 rfl (by decide) ?_
    refine go_icmp_ge (pc' := 8) (tgt := 20) dX7_moveAll_5 rfl (by decide) (fun h_5 => ?_) (fun h_5 => absurd (Int32.le_refl _) h_5)
    refine go_vret dX7_moveAll_20 rfl ?_
    exact k
  | succ m ih =>
    intro i hi k
    have hin : i < 53 := by omega
    refine go_iload_n (pc' := 3) dX7_moveAll_2 rfl rfl ?_
    refine go_bipush (pc' := 5) 53 dX7_moveAll_3 rfl (by decide) ?_
    refine go_icmp_ge (pc' := 8) (tgt := 20) dX7_moveAll_5 rfl (by decide) (fun h_5 => absurd h_5 (nI_ge (b := 53) hin (by decide))) (fun h_5 => ?_)
    refine go_aload_n (pc' := 9) dX7_moveAll_8 rfl rfl ?_
    refine go_iload_n (pc' := 10) dX7_moveAll_9 rfl rfl ?_
    refine go_aload_n (pc' := 11) dX7_moveAll_10 rfl rfl ?_
    refine go_iload_n (pc' := 12) dX7_moveAll_11 rfl rfl ?_
    refine go_iald (pc' := 13) i dX7_moveAll_12 rfl rfl rfl hin (by decide) ?_
    refine go_iast (pc' := 14) i dX7_moveAll_13 rfl rfl rfl hin (by decide) ?_
    refine go_iinc (pc' := 17) _ dX7_moveAll_14 rfl rfl (pg_inc _) (by decide) rfl ?_
    refine go_goto (pc' := 2) dX7_moveAll_17 (by decide) ?_
    show pg_Go _ _ _ _ _ _ (pg_ui (pg_uc I 60 i 62) 62 i (pg_uc I 60 i 62 60 i), J) _
    rw [uc_s (by decide)]
    exact ih (i + 1) (by omega) k

set_option maxHeartbeats 4000000 in
set_option maxRecDepth 20000 in
theorem tX7_moveAll_60_62 {sc : pg_Sc} {g : pg_S} {K : pg_S → Prop}   (k : K (pg_uc g.1 60 53 62, g.2)) : pg_Cal sc 1 mX7_moveAll [.ref 60, .ref 62] g (pg_kv K) := by
  refine pg_Cal.of rfl (Nat.le_of_ble_eq_true rfl) rfl ?_
  refine go_iconst (pc' := 1) 0 dX7_moveAll_0 rfl (by decide) ?_
  refine go_istore_n (pc' := 2) dX7_moveAll_1 rfl (by decide) rfl ?_
  have z := lmv_60_62 (sc := sc) (K := K) (I := g.1) (J := g.2) 53 0 (by omega) k
  rw [uc_0] at z
  exact z

theorem tX7_mv_60_62 {sc : pg_Sc} {g : pg_S} {K : pg_S → Prop} {T : TW} {n : Nat} (h : MR g 60 T n) (hn : n ≤ 8) (k : ∀ g', MR g' 62 T n → FR 62 63 g g' → K g') : pg_Cal sc 1 mX7_moveAll [.ref 60, .ref 62] g (pg_kv K) := tX7_moveAll_60_62 (k _ (h.copy hn) (FR.uc (by decide)))
set_option maxHeartbeats 4000000 in
set_option maxRecDepth 20000 in
theorem lmv_62_60 {sc : pg_Sc} {K : pg_S → Prop} {I : Nat → Nat → Int32} {J : Nat → Nat → Int64} : ∀ (m : Nat) (i : Nat), i + m = 53 → K (pg_uc I 62 53 60, J) → pg_Go sc 1 mX7_moveAll 2 [(0, .ref 62), (1, .ref 60), (2, .int (nI i))] [] (pg_uc I 62 i 60, J) (pg_kv K) := by
  intro m
  induction m with
  | zero =>
    intro i hi k
    obtain rfl : i = 53 := by omega
    refine go_iload_n (pc' := 3) dX7_moveAll_2 rfl rfl ?_
    refine go_bipush (pc' := 5) 53 dX7_moveAll_3 rfl (by decide) ?_
    refine go_icmp_ge (pc' := 8) (tgt := 20) dX7_moveAll_5 rfl (by decide) (fun h_5 => ?_) (fun h_5 => absurd (Int32.le_refl _) h_5)
    refine go_vret dX7_moveAll_20 rfl ?_
    exact k
  | succ m ih =>
    intro i hi k
    have hin : i < 53 := by omega
    refine go_iload_n (pc' := 3) dX7_moveAll_2 rfl rfl ?_
    refine go_bipush (pc' := 5) 53 dX7_moveAll_3 rfl (by decide) ?_
    refine go_icmp_ge (pc' := 8) (tgt := 20) dX7_moveAll_5 rfl (by decide) (fun h_5 => absurd h_5 (nI_ge (b := 53) hin (by decide))) (fun h_5 => ?_)
    refine go_aload_n (pc' := 9) dX7_moveAll_8 rfl rfl ?_
    refine go_iload_n (pc' := 10) dX7_moveAll_9 rfl rfl ?_
    refine go_aload_n (pc' := 11) dX7_moveAll_10 rfl rfl ?_
    refine go_iload_n (pc' := 12) dX7_moveAll_11 rfl rfl ?_
    refine go_iald (pc' := 13) i dX7_moveAll_12 rfl rfl rfl hin (by decide) ?_
    refine go_iast (pc' := 14) i dX7_moveAll_13 rfl rfl rfl hin (by decide) ?_
    refine go_iinc (pc' := 17) _ dX7_moveAll_14 rfl rfl (pg_inc _) (by decide) rfl ?_
    refine go_goto (pc' := 2) dX7_moveAll_17 (by decide) ?_
    show pg_Go _ _ _ _ _ _ (pg_ui (pg_uc I 62 i 60) 60 i (pg_uc I 62 i 60 62 i), J) _
    rw [uc_s (by decide)]
    exact ih (i + 1) (by omega) k

set_option maxHeartbeats 4000000 in
set_option maxRecDepth 20000 in
theorem tX7_moveAll_62_60 {sc : pg_Sc} {g : pg_S} {K : pg_S → Prop}   (k : K (pg_uc g.1 62 53 60, g.2)) : pg_Cal sc 1 mX7_moveAll [.ref 62, .ref 60] g (pg_kv K) := by
  refine pg_Cal.of rfl (Nat.le_of_ble_eq_true rfl) rfl ?_
  refine go_iconst (pc' := 1) 0 dX7_moveAll_0 rfl (by decide) ?_
  refine go_istore_n (pc' := 2) dX7_moveAll_1 rfl (by decide) rfl ?_
  have z := lmv_62_60 (sc := sc) (K := K) (I := g.1) (J := g.2) 53 0 (by omega) k
  rw [uc_0] at z
  exact z

theorem tX7_mv_62_60 {sc : pg_Sc} {g : pg_S} {K : pg_S → Prop} {T : TW} {n : Nat} (h : MR g 62 T n) (hn : n ≤ 8) (k : ∀ g', MR g' 60 T n → FR 60 61 g g' → K g') : pg_Cal sc 1 mX7_moveAll [.ref 62, .ref 60] g (pg_kv K) := tX7_moveAll_62_60 (k _ (h.copy hn) (FR.uc (by decide)))
set_option maxHeartbeats 4000000 in
set_option maxRecDepth 20000 in
theorem lmv_61_60 {sc : pg_Sc} {K : pg_S → Prop} {I : Nat → Nat → Int32} {J : Nat → Nat → Int64} : ∀ (m : Nat) (i : Nat), i + m = 53 → K (pg_uc I 61 53 60, J) → pg_Go sc 1 mX7_moveAll 2 [(0, .ref 61), (1, .ref 60), (2, .int (nI i))] [] (pg_uc I 61 i 60, J) (pg_kv K) := by
  intro m
  induction m with
  | zero =>
    intro i hi k
    obtain rfl : i = 53 := by omega
    refine go_iload_n (pc' := 3) dX7_moveAll_2 rfl rfl ?_
    refine go_bipush (pc' := 5) 53 dX7_moveAll_3 rfl (by decide) ?_
    refine go_icmp_ge (pc' := 8) (tgt := 20) dX7_moveAll_5 rfl (by decide) (fun h_5 => ?_) (fun h_5 => absurd (Int32.le_refl _) h_5)
    refine go_vret dX7_moveAll_20 rfl ?_
    exact k
  | succ m ih =>
    intro i hi k
    have hin : i < 53 := by omega
    refine go_iload_n (pc' := 3) dX7_moveAll_2 rfl rfl ?_
    refine go_bipush (pc' := 5) 53 dX7_moveAll_3 rfl (by decide) ?_
    refine go_icmp_ge (pc' := 8) (tgt := 20) dX7_moveAll_5 rfl (by decide) (fun h_5 => absurd h_5 (nI_ge (b := 53) hin (by decide))) (fun h_5 => ?_)
    refine go_aload_n (pc' := 9) dX7_moveAll_8 rfl rfl ?_
    refine go_iload_n (pc' := 10) dX7_moveAll_9 rfl rfl ?_
    refine go_aload_n (pc' := 11) dX7_moveAll_10 rfl rfl ?_
    refine go_iload_n (pc' := 12) dX7_moveAll_11 rfl rfl ?_
    refine go_iald (pc' := 13) i dX7_moveAll_12 rfl rfl rfl hin (by decide) ?_
    refine go_iast (pc' := 14) i dX7_moveAll_13 rfl rfl rfl hin (by decide) ?_
    refine go_iinc (pc' := 17) _ dX7_moveAll_14 rfl rfl (pg_inc _) (by decide) rfl ?_
    refine go_goto (pc' := 2) dX7_moveAll_17 (by decide) ?_
    show pg_Go _ _ _ _ _ _ (pg_ui (pg_uc I 61 i 60) 60 i (pg_uc I 61 i 60 61 i), J) _
    rw [uc_s (by decide)]
    exact ih (i + 1) (by omega) k

set_option maxHeartbeats 4000000 in
set_option maxRecDepth 20000 in
theorem tX7_moveAll_61_60 {sc : pg_Sc} {g : pg_S} {K : pg_S → Prop}   (k : K (pg_uc g.1 61 53 60, g.2)) : pg_Cal sc 1 mX7_moveAll [.ref 61, .ref 60] g (pg_kv K) := by
  refine pg_Cal.of rfl (Nat.le_of_ble_eq_true rfl) rfl ?_
  refine go_iconst (pc' := 1) 0 dX7_moveAll_0 rfl (by decide) ?_
  refine go_istore_n (pc' := 2) dX7_moveAll_1 rfl (by decide) rfl ?_
  have z := lmv_61_60 (sc := sc) (K := K) (I := g.1) (J := g.2) 53 0 (by omega) k
  rw [uc_0] at z
  exact z

theorem tX7_mv_61_60 {sc : pg_Sc} {g : pg_S} {K : pg_S → Prop} {T : TW} {n : Nat} (h : MR g 61 T n) (hn : n ≤ 8) (k : ∀ g', MR g' 60 T n → FR 60 61 g g' → K g') : pg_Cal sc 1 mX7_moveAll [.ref 61, .ref 60] g (pg_kv K) := tX7_moveAll_61_60 (k _ (h.copy hn) (FR.uc (by decide)))
set_option maxHeartbeats 4000000 in
set_option maxRecDepth 20000 in
theorem tX7_drawn {sc : pg_Sc} {g : pg_S} {K : Int32 → pg_S → Prop} {T : TW} {n : Nat} (h : MR g 60 T n) (k : ∀ g', MR g' 60 (tu T 8 2 (zF (T 8 2))) n → FR 60 61 g g' → K (ush (zF (T 8 2)) 16) g') : pg_Cal sc 1 mX7_drawn [.ref 59] g (pg_ki K) := by
  refine pg_Cal.of rfl (Nat.le_of_ble_eq_true rfl) rfl ?_
  refine go_aload_n (pc' := 1) dX7_drawn_0 rfl rfl ?_
  refine go_getR (pc' := 4) dX7_drawn_1 rfl flRX7_7 rfl rfl ?_
  refine go_bipush (pc' := 6) 6 dX7_drawn_4 rfl (by decide) ?_
  refine go_aload_n (pc' := 7) dX7_drawn_6 rfl rfl ?_
  refine go_getR (pc' := 10) dX7_drawn_7 rfl flRX7_7 rfl rfl ?_
  refine go_bipush (pc' := 12) 6 dX7_drawn_10 rfl (by decide) ?_
  refine go_iald (pc' := 13) 6 dX7_drawn_12 rfl rfl rfl (by decide) (by decide) ?_
  rw [m60_z h]
  refine go_ldcw (pc' := 16) dX7_drawn_13 rfl ciRX7_257 ?_
  refine go_imul (pc' := 17) dX7_drawn_16 rfl ?_
  refine go_sipush (pc' := 20) 12345 dX7_drawn_17 rfl (by decide) ?_
  refine go_iadd (pc' := 21) dX7_drawn_20 rfl ?_
  refine go_iast (pc' := 22) 6 dX7_drawn_21 rfl rfl rfl (by decide) (by decide) ?_
  refine go_gen (fun g2 e2 => ?_)
  have h2 : MR g2 60 (tu T 8 2 (zF (T 8 2))) n := by rw [e2]; exact h.z
  refine go_aload_n (pc' := 23) dX7_drawn_22 rfl rfl ?_
  refine go_getR (pc' := 26) dX7_drawn_23 rfl flRX7_7 rfl rfl ?_
  refine go_bipush (pc' := 28) 6 dX7_drawn_26 rfl (by decide) ?_
  refine go_iald (pc' := 29) 6 dX7_drawn_28 rfl rfl rfl (by decide) (by decide) ?_
  rw [m60_z h2, tu_eq]
  refine go_bipush (pc' := 31) 16 dX7_drawn_29 rfl (by decide) ?_
  refine go_iushr (pc' := 32) dX7_drawn_31 rfl ?_
  refine go_iret dX7_drawn_32 (pg_narI _) ?_
  exact k _ h2 (by rw [e2]; exact FR.ui (by decide))

set_option maxHeartbeats 4000000 in
set_option maxRecDepth 20000 in
theorem tX7_hourByDraws {sc : pg_Sc} {g : pg_S} {K : Int32 → pg_S → Prop} {T : TW} {n : Nat} (h : MR g 60 T n) (wf : WF T n) (k : ∀ g', MR g' 60 (hourF n (drawF n T)) n → FR 60 61 g g' → K (pairsF n (hourF n (drawF n T))) g') : pg_Cal sc 5 mX7_hourByDraws [.ref 59] g (pg_ki K) := by
  refine pg_Cal.of rfl (Nat.le_of_ble_eq_true rfl) rfl ?_
  have hn := wf.1
  refine go_aload_n (pc' := 1) dX7_hourByDraws_0 rfl rfl ?_
  refine go_getR (pc' := 4) dX7_hourByDraws_1 rfl flRX7_7 rfl rfl ?_
  refine go_iconst (pc' := 5) 5 dX7_hourByDraws_4 rfl (by decide) ?_
  refine go_iald (pc' := 6) 5 dX7_hourByDraws_5 rfl rfl rfl (by decide) (by decide) ?_
  rw [m60_people h]
  refine go_if_le (pc' := 9) (tgt := 50) dX7_hourByDraws_6 rfl (by decide) (fun h_6 => ?_) (fun h_6 => ?_)
  · refine go_aload_n (pc' := 51) dX7_hourByDraws_50 rfl rfl ?_
    refine go_cVv0 (pc' := 54) (M' := mX7_hourGoes) (d' := 4) dX7_hourByDraws_51 rfl cvRX7_251 rfl rfl (by decide) rfl (Nat.le_of_ble_eq_true rfl) ?_
    have e0 : n = 0 := by
      rcases Nat.eq_zero_or_pos n with e | e
      · exact e
      · exact absurd h_6 (nI_nle e (by omega))
    have ed : drawF n T = T := by unfold drawF; rw [if_pos e0]
    refine tX7_hourGoes h wf (fun g9 h9 f9 => ?_)
    have wf9 := wf.hour
    refine go_aload_n (pc' := 55) dX7_hourByDraws_54 rfl rfl ?_
    refine go_cVi0 (pc' := 58) (M' := mX7_pairs) (d' := 2) dX7_hourByDraws_55 rfl cvRX7_254 rfl rfl (by decide) rfl (Nat.le_of_ble_eq_true rfl) ?_
    refine tX7_pairs h9 wf9 ?_
    refine go_iret dX7_hourByDraws_58 (pg_narI _) ?_
    rw [ed] at k
    exact k _ h9 f9
  · refine go_aload_n (pc' := 10) dX7_hourByDraws_9 rfl rfl ?_
    refine go_cVi0 (pc' := 13) (M' := mX7_drawn) (d' := 1) dX7_hourByDraws_10 rfl cvRX7_258 rfl rfl (by decide) rfl (Nat.le_of_ble_eq_true rfl) ?_
    have hn0 : 0 < n := by
      rcases Nat.eq_zero_or_pos n with e | e
      · subst e; exact absurd (show nI 0 ≤ 0 by decide) h_6
      · exact e
    refine tX7_drawn h (fun g1 h1 f1 => ?_)
    refine go_aload_n (pc' := 14) dX7_hourByDraws_13 rfl rfl ?_
    refine go_getR (pc' := 17) dX7_hourByDraws_14 rfl flRX7_7 rfl rfl ?_
    refine go_iconst (pc' := 18) 5 dX7_hourByDraws_17 rfl (by decide) ?_
    refine go_iald (pc' := 19) 5 dX7_hourByDraws_18 rfl rfl rfl (by decide) (by decide) ?_
    rw [m60_people h1]
    refine go_irem (pc' := 20) dX7_hourByDraws_19 rfl (nI_ne0 hn0 (by omega)) ?_
    refine go_istore_n (pc' := 21) dX7_hourByDraws_20 rfl (by decide) rfl ?_
    refine go_aload_n (pc' := 22) dX7_hourByDraws_21 rfl rfl ?_
    refine go_cVi0 (pc' := 25) (M' := mX7_drawn) (d' := 1) dX7_hourByDraws_22 rfl cvRX7_258 rfl rfl (by decide) rfl (Nat.le_of_ble_eq_true rfl) ?_
    refine tX7_drawn h1 (fun g2 h2 f2 => ?_)
    rw [tu_eq]
    refine go_bipush (pc' := 27) 100 dX7_hourByDraws_25 rfl (by decide) ?_
    refine go_irem (pc' := 28) dX7_hourByDraws_27 rfl (by decide) ?_
    refine go_aload_n (pc' := 29) dX7_hourByDraws_28 rfl rfl ?_
    refine go_getR (pc' := 32) dX7_hourByDraws_29 rfl flRX7_7 rfl rfl ?_
    refine go_iconst (pc' := 33) 3 dX7_hourByDraws_32 rfl (by decide) ?_
    refine go_iald (pc' := 34) 3 dX7_hourByDraws_33 rfl rfl rfl (by decide) (by decide) ?_
    rw [m60_law h2 (by decide), tu_na (by decide), tu_na (by decide)]
    refine go_icmp_ge (pc' := 37) (tgt := 50) dX7_hourByDraws_34 rfl (by decide) (fun h_34 => ?_) (fun h_34 => ?_)
    · refine go_aload_n (pc' := 51) dX7_hourByDraws_50 rfl rfl ?_
      refine go_cVv0 (pc' := 54) (M' := mX7_hourGoes) (d' := 4) dX7_hourByDraws_51 rfl cvRX7_251 rfl rfl (by decide) rfl (Nat.le_of_ble_eq_true rfl) ?_
      have h_34 : T 0 3 ≤ remF (ush (zF (zF (T 8 2))) 16) 100 := h_34
      have ed : drawF n T = tu T 8 2 (zF (zF (T 8 2))) := by unfold drawF; rw [if_neg (by omega), if_neg (fun q => pg_lt_nle q h_34)]
      simp only [tu_tu, tu_eq] at h2
      have wfd := wf.draw
      rw [ed] at wfd
      refine tX7_hourGoes h2 wfd (fun g9 h9 f9 => ?_)
      have wf9 := wfd.hour
      refine go_aload_n (pc' := 55) dX7_hourByDraws_54 rfl rfl ?_
      refine go_cVi0 (pc' := 58) (M' := mX7_pairs) (d' := 2) dX7_hourByDraws_55 rfl cvRX7_254 rfl rfl (by decide) rfl (Nat.le_of_ble_eq_true rfl) ?_
      refine tX7_pairs h9 wf9 ?_
      refine go_iret dX7_hourByDraws_58 (pg_narI _) ?_
      rw [ed] at k
      exact k _ h9 (FR.tr (FR.tr f1 f2) f9)
    · refine go_aload_n (pc' := 38) dX7_hourByDraws_37 rfl rfl ?_
      refine go_iload_n (pc' := 39) dX7_hourByDraws_38 rfl rfl ?_
      refine go_iconst (pc' := 40) 3 dX7_hourByDraws_39 rfl (by decide) ?_
      refine go_aload_n (pc' := 41) dX7_hourByDraws_40 rfl rfl ?_
      refine go_cVi0 (pc' := 44) (M' := mX7_drawn) (d' := 1) dX7_hourByDraws_41 rfl cvRX7_258 rfl rfl (by decide) rfl (Nat.le_of_ble_eq_true rfl) ?_
      refine tX7_drawn h2 (fun g3 h3 f3 => ?_)
      simp only [tu_tu, tu_eq]
      refine go_bipush (pc' := 46) 12 dX7_hourByDraws_44 rfl (by decide) ?_
      refine go_irem (pc' := 47) dX7_hourByDraws_46 rfl (by decide) ?_
      refine go_cVv3 (pc' := 50) (M' := mX7_sets) (d' := 1) dX7_hourByDraws_47 rfl cvRX7_213 rfl rfl (by decide) rfl (Nat.le_of_ble_eq_true rfl) ?_
      rw [show ush (zF (T 8 2)) 16 - ush (zF (T 8 2)) 16 / nI n * nI n = nI (chN n (zF (T 8 2))) from (chN_eq hn0 hn).1]
      have hc := (chN_eq (z := zF (T 8 2)) hn0 hn).2
      refine tX7_sets (p := chN n (zF (T 8 2))) (q := 3) (by omega) (by decide) ?_
      refine go_gen (fun g4 e4 => ?_)
      simp only [tu_tu, tu_eq] at h3
      have h4 : MR g4 60 (tu (tu T 8 2 (zF (zF (zF (T 8 2))))) 5 (chN n (zF (T 8 2))) (remF (ush (zF (zF (zF (T 8 2)))) 16) 12)) n := by rw [e4]; exact h3.put (a := 3) (by decide)
      have f4 : FR 60 61 g3 g4 := by rw [e4]; exact FR.ui (by decide)
      refine go_aload_n (pc' := 51) dX7_hourByDraws_50 rfl rfl ?_
      refine go_cVv0 (pc' := 54) (M' := mX7_hourGoes) (d' := 4) dX7_hourByDraws_51 rfl cvRX7_251 rfl rfl (by decide) rfl (Nat.le_of_ble_eq_true rfl) ?_
      have h_34 : ¬ T 0 3 ≤ remF (ush (zF (zF (T 8 2))) 16) 100 := h_34
      have ed : drawF n T = tu (tu T 8 2 (zF (zF (zF (T 8 2))))) 5 (chN n (zF (T 8 2))) (remF (ush (zF (zF (zF (T 8 2)))) 16) 12) := by unfold drawF; rw [if_neg (by omega), if_pos (pg_nle_lt h_34)]
      have wfd := wf.draw
      rw [ed] at wfd
      refine tX7_hourGoes h4 wfd (fun g9 h9 f9 => ?_)
      have wf9 := wfd.hour
      refine go_aload_n (pc' := 55) dX7_hourByDraws_54 rfl rfl ?_
      refine go_cVi0 (pc' := 58) (M' := mX7_pairs) (d' := 2) dX7_hourByDraws_55 rfl cvRX7_254 rfl rfl (by decide) rfl (Nat.le_of_ble_eq_true rfl) ?_
      refine tX7_pairs h9 wf9 ?_
      refine go_iret dX7_hourByDraws_58 (pg_narI _) ?_
      rw [ed] at k
      exact k _ h9 (FR.tr (FR.tr (FR.tr (FR.tr f1 f2) f3) f4) f9)

set_option maxHeartbeats 4000000 in
set_option maxRecDepth 20000 in
theorem tX7_isKnown {sc : pg_Sc} {g : pg_S} {K : Int32 → pg_S → Prop} {T : TW} {n p q : Nat} (h : MR g 60 T n) (wf : WF T n) (hp : p < n) (hq : q < n) (k : K (if knB T p q = true then 1 else 0) g) : pg_Cal sc 2 mX7_isKnown [.ref 59, .int (nI p), .int (nI q)] g (pg_ki K) := by
  refine pg_Cal.of rfl (Nat.le_of_ble_eq_true rfl) rfl ?_
  have hn := wf.1
  refine go_aload_n (pc' := 1) dX7_isKnown_0 rfl rfl ?_
  refine go_iload_n (pc' := 2) dX7_isKnown_1 rfl rfl ?_
  refine go_iconst (pc' := 3) 4 dX7_isKnown_2 rfl (by decide) ?_
  refine go_cVi2 (pc' := 6) (M' := mX7_its) (d' := 1) dX7_isKnown_3 rfl cvRX7_217 rfl rfl (by decide) rfl (Nat.le_of_ble_eq_true rfl) ?_
  refine tX7_its4 h wf hp ?_
  refine go_iload_n (pc' := 7) dX7_isKnown_6 rfl rfl ?_
  refine go_ishr (pc' := 8) dX7_isKnown_7 rfl ?_
  refine go_iconst (pc' := 9) 1 dX7_isKnown_8 rfl (by decide) ?_
  refine go_iand (pc' := 10) dX7_isKnown_9 rfl ?_
  refine go_iconst (pc' := 11) 1 dX7_isKnown_10 rfl (by decide) ?_
  refine go_icmp_ne (pc' := 14) (tgt := 18) dX7_isKnown_11 rfl (by decide) (fun h_11 => ?_) (fun h_11 => ?_)
  · refine go_iconst (pc' := 19) 0 dX7_isKnown_18 rfl (by decide) ?_
    refine go_iret dX7_isKnown_19 (by first | exact pg_nar1 | exact pg_nar0 | exact pg_narB) ?_
    rw [if_neg (fun e => h_11 (knB_iff.mp e))] at k
    exact k
  · refine go_iconst (pc' := 15) 1 dX7_isKnown_14 rfl (by decide) ?_
    refine go_goto (pc' := 19) dX7_isKnown_15 (by decide) ?_
    refine go_iret dX7_isKnown_19 (by first | exact pg_nar1 | exact pg_nar0 | exact pg_narB) ?_
    rw [if_pos (knB_iff.mpr h_11)] at k
    exact k

set_option maxHeartbeats 4000000 in
set_option maxRecDepth 20000 in
theorem tX7_meets0 {sc : pg_Sc} {g : pg_S} {K : pg_S → Prop} {T : TW} {n p q : Nat} (h : MR g 60 T n) (wf : WF T n) (hp : p < n) (hq : q < n) (k : ∀ g', MR g' 60 (estF T p q) n → FR 60 61 g g' → K g') : pg_Cal sc 2 mX7_meets [.ref 59, .int (nI p), .int (nI q), .int 0] g (pg_kv K) := by
  refine pg_Cal.of rfl (Nat.le_of_ble_eq_true rfl) rfl ?_
  have hn := wf.1
  refine go_aload_n (pc' := 1) dX7_meets_0 rfl rfl ?_
  refine go_iload_n (pc' := 2) dX7_meets_1 rfl rfl ?_
  refine go_iconst (pc' := 3) 4 dX7_meets_2 rfl (by decide) ?_
  refine go_iload_n (pc' := 4) dX7_meets_3 rfl rfl ?_
  refine go_if_eq (pc' := 7) (tgt := 20) dX7_meets_4 rfl (by decide) (fun h_4 => ?_) (fun h_4 => absurd (rfl) h_4)
  refine go_aload_n (pc' := 21) dX7_meets_20 rfl rfl ?_
  refine go_iload_n (pc' := 22) dX7_meets_21 rfl rfl ?_
  refine go_iconst (pc' := 23) 4 dX7_meets_22 rfl (by decide) ?_
  refine go_cVi2 (pc' := 26) (M' := mX7_its) (d' := 1) dX7_meets_23 rfl cvRX7_217 rfl rfl (by decide) rfl (Nat.le_of_ble_eq_true rfl) ?_
  refine tX7_its4 h wf hp ?_
  refine go_iconst (pc' := 27) 1 dX7_meets_26 rfl (by decide) ?_
  refine go_iload_n (pc' := 28) dX7_meets_27 rfl rfl ?_
  refine go_ishl (pc' := 29) dX7_meets_28 rfl ?_
  refine go_iconst (pc' := 30) (-1) dX7_meets_29 rfl (by decide) ?_
  refine go_ixor (pc' := 31) dX7_meets_30 rfl ?_
  refine go_iand (pc' := 32) dX7_meets_31 rfl ?_
  refine go_cVv3 (pc' := 35) (M' := mX7_sets) (d' := 1) dX7_meets_32 rfl cvRX7_213 rfl rfl (by decide) rfl (Nat.le_of_ble_eq_true rfl) ?_
  refine tX7_sets (p := p) (q := 4) (by omega) (by decide) ?_
  refine go_gen (fun g2 e2 => ?_)
  have h2 : MR g2 60 (tu T 6 p (T 6 p &&& ((1 : Int32) <<< (nI q &&& 31) ^^^ (-1)))) n := by rw [e2]; exact h.put (a := 4) (by decide)
  have f2 : FR 60 61 g g2 := by rw [e2]; exact FR.ui (by decide)
  have wf2 := wf.est1 hp hq
  refine go_aload_n (pc' := 36) dX7_meets_35 rfl rfl ?_
  refine go_iload_n (pc' := 37) dX7_meets_36 rfl rfl ?_
  refine go_iconst (pc' := 38) 4 dX7_meets_37 rfl (by decide) ?_
  refine go_iload_n (pc' := 39) dX7_meets_38 rfl rfl ?_
  refine go_if_eq (pc' := 42) (tgt := 55) dX7_meets_39 rfl (by decide) (fun h_39 => ?_) (fun h_39 => absurd (rfl) h_39)
  refine go_aload_n (pc' := 56) dX7_meets_55 rfl rfl ?_
  refine go_iload_n (pc' := 57) dX7_meets_56 rfl rfl ?_
  refine go_iconst (pc' := 58) 4 dX7_meets_57 rfl (by decide) ?_
  refine go_cVi2 (pc' := 61) (M' := mX7_its) (d' := 1) dX7_meets_58 rfl cvRX7_217 rfl rfl (by decide) rfl (Nat.le_of_ble_eq_true rfl) ?_
  refine tX7_its4 h2 wf2 hq ?_
  refine go_iconst (pc' := 62) 1 dX7_meets_61 rfl (by decide) ?_
  refine go_iload_n (pc' := 63) dX7_meets_62 rfl rfl ?_
  refine go_ishl (pc' := 64) dX7_meets_63 rfl ?_
  refine go_iconst (pc' := 65) (-1) dX7_meets_64 rfl (by decide) ?_
  refine go_ixor (pc' := 66) dX7_meets_65 rfl ?_
  refine go_iand (pc' := 67) dX7_meets_66 rfl ?_
  refine go_cVv3 (pc' := 70) (M' := mX7_sets) (d' := 1) dX7_meets_67 rfl cvRX7_213 rfl rfl (by decide) rfl (Nat.le_of_ble_eq_true rfl) ?_
  refine tX7_sets (p := q) (q := 4) (by omega) (by decide) ?_
  refine go_vret dX7_meets_70 rfl ?_
  exact k _ (h2.put (a := 4) (i := q) (by decide)) (FR.tr f2 (FR.ui (by decide)))

