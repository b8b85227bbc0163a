set_option maxHeartbeats 4000000 in
set_option maxRecDepth 20000 in
theorem tX6_know {sc : pg_Sc} {g : pg_S} {K : Int32 → pg_S → Prop} {T : TW} {n : Nat} {y x v : Int32} (h : CR g 1 T n) (wf : WF T n) (k1 : ¬ ((PP n y ∧ PP n x ∧ ¬ y = x) ∧ UP v 1) → K (-1) g) (k2 : PP n y → PP n x → ¬ y = x → UP v 1 → ∀ g', CR g' 1 (if v = 1 then acqF T (pn y) (pn x) else estF T (pn y) (pn x)) n → FR 1 10 g g' → K (if knB T (pn y) (pn x) = true then 1 else 0) g') : pg_Cal sc 3 mX6_know [.ref 0, .int y, .int x, .int v] g (pg_ki K) := by
  refine pg_Cal.of rfl (Nat.le_of_ble_eq_true rfl) rfl ?_
  have hn := wf.1
  refine go_aload_n (pc' := 1) dX6_know_0 rfl rfl ?_
  refine go_iload_n (pc' := 2) dX6_know_1 rfl rfl ?_
  refine go_iload_n (pc' := 3) dX6_know_2 rfl rfl ?_
  refine go_cVi2 (pc' := 6) (M' := mX6_areTwo) (d' := 2) dX6_know_3 rfl cvRX6_141 rfl rfl (by decide) rfl (Nat.le_of_ble_eq_true rfl) ?_
  refine tX6_areTwo h ?_
  refine go_if_eq (pc' := 9) (tgt := 17) dX6_know_6 rfl (by decide) (fun h_6 => ?_) (fun h_6 => ?_)
  · have h_6 := pg_b0 h_6
    refine go_iconst (pc' := 18) (-1) dX6_know_17 rfl (by decide) ?_
    refine go_iret dX6_know_18 (pg_narI _) ?_
    exact k1 (fun q => h_6 q.1)
  · have h_6 := pg_b1 h_6
    obtain ⟨h_1, h_2, h_3⟩ := h_6
    obtain ⟨p, hp, rfl⟩ := pp_ex h_1
    have ep : pn (nI p) = p := nI_clamp (by omega)
    obtain ⟨q, hq, rfl⟩ := pp_ex h_2
    have eq : pn (nI q) = q := nI_clamp (by omega)
    rw [ep, eq] at k2
    refine go_iload_n (pc' := 10) dX6_know_9 rfl rfl ?_
    refine go_iconst (pc' := 11) 1 dX6_know_10 rfl (by decide) ?_
    refine go_cSi2 (pc' := 14) (M' := mX6_upTo) (d' := 1) dX6_know_11 rfl csRX6_97 (by decide) rfl (Nat.le_of_ble_eq_true rfl) ?_
    refine tX6_upTo ?_
    refine go_if_ne (pc' := 17) (tgt := 19) dX6_know_14 rfl (by decide) (fun h_14 => ?_) (fun h_14 => ?_)
    · have h_14 := pg_b1 h_14
      refine go_aload_n (pc' := 20) dX6_know_19 rfl rfl ?_
      refine go_getR (pc' := 23) dX6_know_20 rfl flRX6_10 rfl rfl ?_
      refine go_iload_n (pc' := 24) dX6_know_23 rfl rfl ?_
      refine go_iload_n (pc' := 25) dX6_know_24 rfl rfl ?_
      refine go_cVi2 (pc' := 28) (M' := mX5_knowEachOther) (d' := 1) dX6_know_25 rfl cvRX6_144 rfl rfl (by decide) rfl (Nat.le_of_ble_eq_true rfl) ?_
      refine tX5_know_1 h wf hp hq ?_
      refine go_if_eq (pc' := 31) (tgt := 35) dX6_know_28 rfl (by decide) (fun h_28 => ?_) (fun h_28 => ?_)
      · have h_28 := pg_b0 h_28
        refine go_iconst (pc' := 36) 0 dX6_know_35 rfl (by decide) ?_
        refine go_istore (pc' := 38) dX6_know_36 rfl (by decide) rfl ?_
        refine go_iload_n (pc' := 39) dX6_know_38 rfl rfl ?_
        refine go_iconst (pc' := 40) 1 dX6_know_39 rfl (by decide) ?_
        refine go_icmp_ne (pc' := 43) (tgt := 55) dX6_know_40 rfl (by decide) (fun h_40 => ?_) (fun h_40 => ?_)
        · refine go_aload_n (pc' := 56) dX6_know_55 rfl rfl ?_
          refine go_getR (pc' := 59) dX6_know_56 rfl flRX6_10 rfl rfl ?_
          refine go_iload_n (pc' := 60) dX6_know_59 rfl rfl ?_
          refine go_iload_n (pc' := 61) dX6_know_60 rfl rfl ?_
          refine go_cVv2 (pc' := 64) (M' := mX5_estrange) (d' := 1) dX6_know_61 rfl cvRX6_151 rfl rfl (by decide) rfl (Nat.le_of_ble_eq_true rfl) ?_
          refine tX5_estrange_1 h wf hp hq (fun g2 h2 f2 => ?_)
          refine go_iload (pc' := 66) dX6_know_64 rfl rfl ?_
          refine go_iret dX6_know_66 (pg_narI _) ?_
          rw [if_neg h_28] at k2
          rw [if_neg h_40] at k2
          exact k2 h_1 h_2 h_3 h_14 _ h2 (f2.wd (by decide) (by decide))
        · refine go_aload_n (pc' := 44) dX6_know_43 rfl rfl ?_
          refine go_getR (pc' := 47) dX6_know_44 rfl flRX6_10 rfl rfl ?_
          refine go_iload_n (pc' := 48) dX6_know_47 rfl rfl ?_
          refine go_iload_n (pc' := 49) dX6_know_48 rfl rfl ?_
          refine go_cVv2 (pc' := 52) (M' := mX5_acquaint) (d' := 1) dX6_know_49 rfl cvRX6_147 rfl rfl (by decide) rfl (Nat.le_of_ble_eq_true rfl) ?_
          refine tX5_acquaint_1 h wf hp hq (fun g2 h2 f2 => ?_)
          refine go_goto (pc' := 64) dX6_know_52 (by decide) ?_
          refine go_iload (pc' := 66) dX6_know_64 rfl rfl ?_
          refine go_iret dX6_know_66 (pg_narI _) ?_
          rw [if_neg h_28] at k2
          rw [if_pos h_40] at k2
          exact k2 h_1 h_2 h_3 h_14 _ h2 (f2.wd (by decide) (by decide))
      · have h_28 := pg_b1 h_28
        refine go_iconst (pc' := 32) 1 dX6_know_31 rfl (by decide) ?_
        refine go_goto (pc' := 36) dX6_know_32 (by decide) ?_
        refine go_istore (pc' := 38) dX6_know_36 rfl (by decide) rfl ?_
        refine go_iload_n (pc' := 39) dX6_know_38 rfl rfl ?_
        refine go_iconst (pc' := 40) 1 dX6_know_39 rfl (by decide) ?_
        refine go_icmp_ne (pc' := 43) (tgt := 55) dX6_know_40 rfl (by decide) (fun h_40 => ?_) (fun h_40 => ?_)
        · refine go_aload_n (pc' := 56) dX6_know_55 rfl rfl ?_
          refine go_getR (pc' := 59) dX6_know_56 rfl flRX6_10 rfl rfl ?_
          refine go_iload_n (pc' := 60) dX6_know_59 rfl rfl ?_
          refine go_iload_n (pc' := 61) dX6_know_60 rfl rfl ?_
          refine go_cVv2 (pc' := 64) (M' := mX5_estrange) (d' := 1) dX6_know_61 rfl cvRX6_151 rfl rfl (by decide) rfl (Nat.le_of_ble_eq_true rfl) ?_
          refine tX5_estrange_1 h wf hp hq (fun g2 h2 f2 => ?_)
          refine go_iload (pc' := 66) dX6_know_64 rfl rfl ?_
          refine go_iret dX6_know_66 (pg_narI _) ?_
          rw [if_pos h_28] at k2
          rw [if_neg h_40] at k2
          exact k2 h_1 h_2 h_3 h_14 _ h2 (f2.wd (by decide) (by decide))
        · refine go_aload_n (pc' := 44) dX6_know_43 rfl rfl ?_
          refine go_getR (pc' := 47) dX6_know_44 rfl flRX6_10 rfl rfl ?_
          refine go_iload_n (pc' := 48) dX6_know_47 rfl rfl ?_
          refine go_iload_n (pc' := 49) dX6_know_48 rfl rfl ?_
          refine go_cVv2 (pc' := 52) (M' := mX5_acquaint) (d' := 1) dX6_know_49 rfl cvRX6_147 rfl rfl (by decide) rfl (Nat.le_of_ble_eq_true rfl) ?_
          refine tX5_acquaint_1 h wf hp hq (fun g2 h2 f2 => ?_)
          refine go_goto (pc' := 64) dX6_know_52 (by decide) ?_
          refine go_iload (pc' := 66) dX6_know_64 rfl rfl ?_
          refine go_iret dX6_know_66 (pg_narI _) ?_
          rw [if_pos h_28] at k2
          rw [if_pos h_40] at k2
          exact k2 h_1 h_2 h_3 h_14 _ h2 (f2.wd (by decide) (by decide))
    · have h_14 := pg_b0 h_14
      refine go_iconst (pc' := 18) (-1) dX6_know_17 rfl (by decide) ?_
      refine go_iret dX6_know_18 (pg_narI _) ?_
      exact k1 (fun q => h_14 q.2)

set_option maxHeartbeats 4000000 in
set_option maxRecDepth 20000 in
theorem tX7_know {sc : pg_Sc} {g : pg_S} {K : Int32 → pg_S → Prop} {T : TW} {n : Nat} {y x v : Int32} (h : MR g 60 T n) (wf : WF T n) (k1 : ¬ ((PP n y ∧ PP n x ∧ ¬ y = x) ∧ UP v 1) → K (-1) g) (k2 : PP n y → PP n x → ¬ y = x → UP v 1 → ∀ g', MR g' 60 (if v = 1 then acqF T (pn y) (pn x) else estF T (pn y) (pn x)) n → FR 60 61 g g' → K (if knB T (pn y) (pn x) = true then 1 else 0) g') : pg_Cal sc 3 mX7_know [.ref 59, .int y, .int x, .int v] g (pg_ki K) := by
  refine pg_Cal.of rfl (Nat.le_of_ble_eq_true rfl) rfl ?_
  have hn := wf.1
  refine go_aload_n (pc' := 1) dX7_know_0 rfl rfl ?_
  refine go_iload_n (pc' := 2) dX7_know_1 rfl rfl ?_
  refine go_cVi1 (pc' := 5) (M' := mX7_isOne) (d' := 2) dX7_know_2 rfl cvRX7_220 rfl rfl (by decide) rfl (Nat.le_of_ble_eq_true rfl) ?_
  refine tX7_isOne h wf ?_
  refine go_if_eq (pc' := 8) (tgt := 30) dX7_know_5 rfl (by decide) (fun h_5 => ?_) (fun h_5 => ?_)
  · have h_5 := pg_b0 h_5
    refine go_iconst (pc' := 31) (-1) dX7_know_30 rfl (by decide) ?_
    refine go_iret dX7_know_31 (pg_narI _) ?_
    exact k1 (fun q => h_5 q.1.1)
  · have h_5 := pg_b1 h_5
    obtain ⟨p, hp, rfl⟩ := pp_ex h_5
    have ep : pn (nI p) = p := nI_clamp (by omega)
    rw [ep] at k2
    refine go_aload_n (pc' := 9) dX7_know_8 rfl rfl ?_
    refine go_iload_n (pc' := 10) dX7_know_9 rfl rfl ?_
    refine go_cVi1 (pc' := 13) (M' := mX7_isOne) (d' := 2) dX7_know_10 rfl cvRX7_220 rfl rfl (by decide) rfl (Nat.le_of_ble_eq_true rfl) ?_
    refine tX7_isOne h wf ?_
    refine go_if_eq (pc' := 16) (tgt := 30) dX7_know_13 rfl (by decide) (fun h_13 => ?_) (fun h_13 => ?_)
    · have h_13 := pg_b0 h_13
      refine go_iconst (pc' := 31) (-1) dX7_know_30 rfl (by decide) ?_
      refine go_iret dX7_know_31 (pg_narI _) ?_
      exact k1 (fun q => h_13 q.1.2.1)
    · have h_13 := pg_b1 h_13
      obtain ⟨q, hq, rfl⟩ := pp_ex h_13
      have eq : pn (nI q) = q := nI_clamp (by omega)
      rw [eq] at k2
      refine go_iload_n (pc' := 17) dX7_know_16 rfl rfl ?_
      refine go_iload_n (pc' := 18) dX7_know_17 rfl rfl ?_
      refine go_icmp_eq (pc' := 21) (tgt := 30) dX7_know_18 rfl (by decide) (fun h_18 => ?_) (fun h_18 => ?_)
      · refine go_iconst (pc' := 31) (-1) dX7_know_30 rfl (by decide) ?_
        refine go_iret dX7_know_31 (pg_narI _) ?_
        exact k1 (fun z => z.1.2.2 h_18)
      · refine go_iload_n (pc' := 22) dX7_know_21 rfl rfl ?_
        refine go_iconst (pc' := 23) 0 dX7_know_22 rfl (by decide) ?_
        refine go_iconst (pc' := 24) 1 dX7_know_23 rfl (by decide) ?_
        refine go_cSi3 (pc' := 27) (M' := mX7_in) (d' := 1) dX7_know_24 rfl csRX7_60 (by decide) rfl (Nat.le_of_ble_eq_true rfl) ?_
        refine tX7_in ?_
        refine go_if_ne (pc' := 30) (tgt := 32) dX7_know_27 rfl (by decide) (fun h_27 => ?_) (fun h_27 => ?_)
        · have h_27 := pg_b1 h_27
          refine go_aload_n (pc' := 33) dX7_know_32 rfl rfl ?_
          refine go_iload_n (pc' := 34) dX7_know_33 rfl rfl ?_
          refine go_iload_n (pc' := 35) dX7_know_34 rfl rfl ?_
          refine go_cVi2 (pc' := 38) (M' := mX7_isKnown) (d' := 2) dX7_know_35 rfl cvRX7_232 rfl rfl (by decide) rfl (Nat.le_of_ble_eq_true rfl) ?_
          refine tX7_isKnown h wf hp hq ?_
          refine go_if_eq (pc' := 41) (tgt := 45) dX7_know_38 rfl (by decide) (fun h_38 => ?_) (fun h_38 => ?_)
          · have h_38 := pg_b0 h_38
            refine go_iconst (pc' := 46) 0 dX7_know_45 rfl (by decide) ?_
            refine go_istore (pc' := 48) dX7_know_46 rfl (by decide) rfl ?_
            refine go_aload_n (pc' := 49) dX7_know_48 rfl rfl ?_
            refine go_iload_n (pc' := 50) dX7_know_49 rfl rfl ?_
            refine go_iload_n (pc' := 51) dX7_know_50 rfl rfl ?_
            refine go_iload_n (pc' := 52) dX7_know_51 rfl rfl ?_
            refine go_iconst (pc' := 53) 1 dX7_know_52 rfl (by decide) ?_
            refine go_icmp_ne (pc' := 56) (tgt := 60) dX7_know_53 rfl (by decide) (fun h_53 => ?_) (fun h_53 => ?_)
            · refine go_iconst (pc' := 61) 0 dX7_know_60 rfl (by decide) ?_
              refine go_cVv3 (pc' := 64) (M' := mX7_meets) (d' := 2) dX7_know_61 rfl cvRX7_235 rfl rfl (by decide) rfl (Nat.le_of_ble_eq_true rfl) ?_
              refine tX7_meets0 h wf hp hq (fun g2 h2 f2 => ?_)
              refine go_iload (pc' := 66) dX7_know_64 rfl rfl ?_
              refine go_iret dX7_know_66 (pg_narI _) ?_
              rw [if_neg h_38] at k2
              rw [if_neg h_53] at k2
              exact k2 h_5 h_13 h_18 h_27 _ h2 f2
            · refine go_iconst (pc' := 57) 1 dX7_know_56 rfl (by decide) ?_
              refine go_goto (pc' := 61) dX7_know_57 (by decide) ?_
              refine go_cVv3 (pc' := 64) (M' := mX7_meets) (d' := 2) dX7_know_61 rfl cvRX7_235 rfl rfl (by decide) rfl (Nat.le_of_ble_eq_true rfl) ?_
              refine tX7_meets1 h wf hp hq (fun g2 h2 f2 => ?_)
              refine go_iload (pc' := 66) dX7_know_64 rfl rfl ?_
              refine go_iret dX7_know_66 (pg_narI _) ?_
              rw [if_neg h_38] at k2
              rw [if_pos h_53] at k2
              exact k2 h_5 h_13 h_18 h_27 _ h2 f2
          · have h_38 := pg_b1 h_38
            refine go_iconst (pc' := 42) 1 dX7_know_41 rfl (by decide) ?_
            refine go_goto (pc' := 46) dX7_know_42 (by decide) ?_
            refine go_istore (pc' := 48) dX7_know_46 rfl (by decide) rfl ?_
            refine go_aload_n (pc' := 49) dX7_know_48 rfl rfl ?_
            refine go_iload_n (pc' := 50) dX7_know_49 rfl rfl ?_
            refine go_iload_n (pc' := 51) dX7_know_50 rfl rfl ?_
            refine go_iload_n (pc' := 52) dX7_know_51 rfl rfl ?_
            refine go_iconst (pc' := 53) 1 dX7_know_52 rfl (by decide) ?_
            refine go_icmp_ne (pc' := 56) (tgt := 60) dX7_know_53 rfl (by decide) (fun h_53 => ?_) (fun h_53 => ?_)
            · refine go_iconst (pc' := 61) 0 dX7_know_60 rfl (by decide) ?_
              refine go_cVv3 (pc' := 64) (M' := mX7_meets) (d' := 2) dX7_know_61 rfl cvRX7_235 rfl rfl (by decide) rfl (Nat.le_of_ble_eq_true rfl) ?_
              refine tX7_meets0 h wf hp hq (fun g2 h2 f2 => ?_)
              refine go_iload (pc' := 66) dX7_know_64 rfl rfl ?_
              refine go_iret dX7_know_66 (pg_narI _) ?_
              rw [if_pos h_38] at k2
              rw [if_neg h_53] at k2
              exact k2 h_5 h_13 h_18 h_27 _ h2 f2
            · refine go_iconst (pc' := 57) 1 dX7_know_56 rfl (by decide) ?_
              refine go_goto (pc' := 61) dX7_know_57 (by decide) ?_
              refine go_cVv3 (pc' := 64) (M' := mX7_meets) (d' := 2) dX7_know_61 rfl cvRX7_235 rfl rfl (by decide) rfl (Nat.le_of_ble_eq_true rfl) ?_
              refine tX7_meets1 h wf hp hq (fun g2 h2 f2 => ?_)
              refine go_iload (pc' := 66) dX7_know_64 rfl rfl ?_
              refine go_iret dX7_know_66 (pg_narI _) ?_
              rw [if_pos h_38] at k2
              rw [if_pos h_53] at k2
              exact k2 h_5 h_13 h_18 h_27 _ h2 f2
        · have h_27 := pg_b0 h_27
          refine go_iconst (pc' := 31) (-1) dX7_know_30 rfl (by decide) ?_
          refine go_iret dX7_know_31 (pg_narI _) ?_
          exact k1 (fun q => h_27 q.2)

set_option maxHeartbeats 4000000 in
set_option maxRecDepth 20000 in
theorem tX6_weigh {sc : pg_Sc} {g : pg_S} {K : Int32 → pg_S → Prop} {T : TW} {n : Nat} {x v : Int32} (h : CR g 1 T n) (wf : WF T n) (k1 : ¬ (UP x 5 ∧ UP v 99) → K (-1) g) (k2 : UP x 5 → UP v 99 → ∀ g', CR g' 1 (tu T 1 (pn x) v) n → FR 1 10 g g' → K (T 1 (pn x)) g') : pg_Cal sc 2 mX6_weigh [.ref 0, .int x, .int v] g (pg_ki K) := by
  refine pg_Cal.of rfl (Nat.le_of_ble_eq_true rfl) rfl ?_
  have hn := wf.1
  refine go_iload_n (pc' := 1) dX6_weigh_0 rfl rfl ?_
  refine go_iconst (pc' := 2) 5 dX6_weigh_1 rfl (by decide) ?_
  refine go_cSi2 (pc' := 5) (M' := mX6_upTo) (d' := 1) dX6_weigh_2 rfl csRX6_97 (by decide) rfl (Nat.le_of_ble_eq_true rfl) ?_
  refine tX6_upTo ?_
  refine go_if_eq (pc' := 8) (tgt := 17) dX6_weigh_5 rfl (by decide) (fun h_5 => ?_) (fun h_5 => ?_)
  · have h_5 := pg_b0 h_5
    refine go_iconst (pc' := 18) (-1) dX6_weigh_17 rfl (by decide) ?_
    refine go_iret dX6_weigh_18 (pg_narI _) ?_
    exact k1 (fun q => h_5 q.1)
  · have h_5 := pg_b1 h_5
    obtain ⟨l, hl, rfl⟩ := up_ex 5 rfl (by decide) h_5
    have el : pn (nI l) = l := nI_clamp (by omega)
    rw [el] at k2
    refine go_iload_n (pc' := 9) dX6_weigh_8 rfl rfl ?_
    refine go_bipush (pc' := 11) 99 dX6_weigh_9 rfl (by decide) ?_
    refine go_cSi2 (pc' := 14) (M' := mX6_upTo) (d' := 1) dX6_weigh_11 rfl csRX6_97 (by decide) rfl (Nat.le_of_ble_eq_true rfl) ?_
    refine tX6_upTo ?_
    refine go_if_ne (pc' := 17) (tgt := 19) dX6_weigh_14 rfl (by decide) (fun h_14 => ?_) (fun h_14 => ?_)
    · have h_14 := pg_b1 h_14
      refine go_aload_n (pc' := 20) dX6_weigh_19 rfl rfl ?_
      refine go_getR (pc' := 23) dX6_weigh_20 rfl flRX6_10 rfl rfl ?_
      refine go_getR (pc' := 26) dX6_weigh_23 rfl flRX6_154 rfl rfl ?_
      refine go_iload_n (pc' := 27) dX6_weigh_26 rfl rfl ?_
      refine go_iald (pc' := 28) _ dX6_weigh_27 rfl rfl rfl (by omega) (by decide) ?_
      rw [c1_weight h (by first | decide | omega)]
      refine go_istore_n (pc' := 29) dX6_weigh_28 rfl (by decide) rfl ?_
      refine go_aload_n (pc' := 30) dX6_weigh_29 rfl rfl ?_
      refine go_getR (pc' := 33) dX6_weigh_30 rfl flRX6_10 rfl rfl ?_
      refine go_getR (pc' := 36) dX6_weigh_33 rfl flRX6_154 rfl rfl ?_
      refine go_iload_n (pc' := 37) dX6_weigh_36 rfl rfl ?_
      refine go_iload_n (pc' := 38) dX6_weigh_37 rfl rfl ?_
      refine go_iast (pc' := 39) _ dX6_weigh_38 rfl rfl rfl (by omega) (by decide) ?_
      refine go_iload_n (pc' := 40) dX6_weigh_39 rfl rfl ?_
      refine go_iret dX6_weigh_40 (pg_narI _) ?_
      exact k2 h_5 h_14 _ h.weight (FR.ui (by decide))
    · have h_14 := pg_b0 h_14
      refine go_iconst (pc' := 18) (-1) dX6_weigh_17 rfl (by decide) ?_
      refine go_iret dX6_weigh_18 (pg_narI _) ?_
      exact k1 (fun q => h_14 q.2)

set_option maxHeartbeats 4000000 in
set_option maxRecDepth 20000 in
theorem tX7_weigh {sc : pg_Sc} {g : pg_S} {K : Int32 → pg_S → Prop} {T : TW} {n : Nat} {x v : Int32} (h : MR g 60 T n) (wf : WF T n) (k1 : ¬ (UP x 5 ∧ UP v 99) → K (-1) g) (k2 : UP x 5 → UP v 99 → ∀ g', MR g' 60 (tu T 1 (pn x) v) n → FR 60 61 g g' → K (T 1 (pn x)) g') : pg_Cal sc 3 mX7_weigh [.ref 59, .int x, .int v] g (pg_ki K) := by
  refine pg_Cal.of rfl (Nat.le_of_ble_eq_true rfl) rfl ?_
  have hn := wf.1
  refine go_iload_n (pc' := 1) dX7_weigh_0 rfl rfl ?_
  refine go_cSi1 (pc' := 4) (M' := mX7_isPeg) (d' := 2) dX7_weigh_1 rfl csRX7_203 (by decide) rfl (Nat.le_of_ble_eq_true rfl) ?_
  refine tX7_isPeg ?_
  refine go_if_eq (pc' := 7) (tgt := 29) dX7_weigh_4 rfl (by decide) (fun h_4 => ?_) (fun h_4 => ?_)
  · have h_4 := pg_b0 h_4
    refine go_iconst (pc' := 30) (-1) dX7_weigh_29 rfl (by decide) ?_
    refine go_iret dX7_weigh_30 (pg_narI _) ?_
    exact k1 (fun q => h_4 q.1)
  · have h_4 := pg_b1 h_4
    obtain ⟨l, hl, rfl⟩ := up_ex 5 rfl (by decide) h_4
    have el : pn (nI l) = l := nI_clamp (by omega)
    rw [el] at k2
    refine go_iload_n (pc' := 8) dX7_weigh_7 rfl rfl ?_
    refine go_iconst (pc' := 9) 0 dX7_weigh_8 rfl (by decide) ?_
    refine go_bipush (pc' := 11) 99 dX7_weigh_9 rfl (by decide) ?_
    refine go_cSi3 (pc' := 14) (M' := mX7_in) (d' := 1) dX7_weigh_11 rfl csRX7_60 (by decide) rfl (Nat.le_of_ble_eq_true rfl) ?_
    refine tX7_in ?_
    refine go_if_eq (pc' := 17) (tgt := 29) dX7_weigh_14 rfl (by decide) (fun h_14 => ?_) (fun h_14 => ?_)
    · have h_14 := pg_b0 h_14
      refine go_iconst (pc' := 30) (-1) dX7_weigh_29 rfl (by decide) ?_
      refine go_iret dX7_weigh_30 (pg_narI _) ?_
      exact k1 (fun q => h_14 q.2)
    · have h_14 := pg_b1 h_14
      refine go_aload_n (pc' := 18) dX7_weigh_17 rfl rfl ?_
      refine go_bipush (pc' := 20) 7 dX7_weigh_18 rfl (by decide) ?_
      refine go_iload_n (pc' := 21) dX7_weigh_20 rfl rfl ?_
      refine go_iadd (pc' := 22) dX7_weigh_21 rfl ?_
      refine go_iload_n (pc' := 23) dX7_weigh_22 rfl rfl ?_
      refine go_cVi2 (pc' := 26) (M' := mX7_becomes) (d' := 1) dX7_weigh_23 rfl cvRX7_200 rfl rfl (by decide) rfl (Nat.le_of_ble_eq_true rfl) ?_
      rw [show (7 : Int32) + nI l = nI (7 + l) from by rw [show (7 : Int32) = nI 7 from rfl, nI_add]]
      refine tX7_becomes (by omega) ?_
      rw [m60_weight h (by omega)]
      refine go_goto (pc' := 30) dX7_weigh_26 (by decide) ?_
      refine go_iret dX7_weigh_30 (pg_narI _) ?_
      exact k2 h_4 h_14 _ (h.weight (by omega)) (FR.ui (by decide))

set_option maxHeartbeats 4000000 in
set_option maxRecDepth 20000 in
theorem tX6_peg {sc : pg_Sc} {g : pg_S} {K : Int32 → pg_S → Prop} {T : TW} {n : Nat} {x y : Int32} (h : CR g 1 T n) (wf : WF T n) (k1 : ¬ (UP x 5 ∧ UP y 1) → K (-1) g) (k2 : UP x 5 → UP y 1 → K (if y = 0 then T 1 (pn x) else orF (hadF T x) n 0 0) g) : pg_Cal sc 2 mX6_peg [.ref 0, .int x, .int y] g (pg_ki K) := by
  refine pg_Cal.of rfl (Nat.le_of_ble_eq_true rfl) rfl ?_
  have hn := wf.1
  refine go_iload_n (pc' := 1) dX6_peg_0 rfl rfl ?_
  refine go_iconst (pc' := 2) 5 dX6_peg_1 rfl (by decide) ?_
  refine go_cSi2 (pc' := 5) (M' := mX6_upTo) (d' := 1) dX6_peg_2 rfl csRX6_97 (by decide) rfl (Nat.le_of_ble_eq_true rfl) ?_
  refine tX6_upTo ?_
  refine go_if_eq (pc' := 8) (tgt := 16) dX6_peg_5 rfl (by decide) (fun h_5 => ?_) (fun h_5 => ?_)
  · have h_5 := pg_b0 h_5
    refine go_iconst (pc' := 17) (-1) dX6_peg_16 rfl (by decide) ?_
    refine go_iret dX6_peg_17 (pg_narI _) ?_
    exact k1 (fun q => h_5 q.1)
  · have h_5 := pg_b1 h_5
    obtain ⟨l, hl, rfl⟩ := up_ex 5 rfl (by decide) h_5
    have el : pn (nI l) = l := nI_clamp (by omega)
    rw [el] at k2
    refine go_iload_n (pc' := 9) dX6_peg_8 rfl rfl ?_
    refine go_iconst (pc' := 10) 1 dX6_peg_9 rfl (by decide) ?_
    refine go_cSi2 (pc' := 13) (M' := mX6_upTo) (d' := 1) dX6_peg_10 rfl csRX6_97 (by decide) rfl (Nat.le_of_ble_eq_true rfl) ?_
    refine tX6_upTo ?_
    refine go_if_ne (pc' := 16) (tgt := 18) dX6_peg_13 rfl (by decide) (fun h_13 => ?_) (fun h_13 => ?_)
    · have h_13 := pg_b1 h_13
      refine go_iload_n (pc' := 19) dX6_peg_18 rfl rfl ?_
      refine go_if_ne (pc' := 22) (tgt := 34) dX6_peg_19 rfl (by decide) (fun h_19 => ?_) (fun h_19 => ?_)
      · refine go_aload_n (pc' := 35) dX6_peg_34 rfl rfl ?_
        refine go_getR (pc' := 38) dX6_peg_35 rfl flRX6_10 rfl rfl ?_
        refine go_iload_n (pc' := 39) dX6_peg_38 rfl rfl ?_
        refine go_cVi1 (pc' := 42) (M' := mX5_peopleOfPeg) (d' := 1) dX6_peg_39 rfl cvRX6_157 rfl rfl (by decide) rfl (Nat.le_of_ble_eq_true rfl) ?_
        refine tX5_peopleOfPeg_1 h wf ?_
        refine go_iret dX6_peg_42 (pg_narI _) ?_
        rw [if_neg h_19] at k2
        exact k2 h_5 h_13
      · refine go_aload_n (pc' := 23) dX6_peg_22 rfl rfl ?_
        refine go_getR (pc' := 26) dX6_peg_23 rfl flRX6_10 rfl rfl ?_
        refine go_getR (pc' := 29) dX6_peg_26 rfl flRX6_154 rfl rfl ?_
        refine go_iload_n (pc' := 30) dX6_peg_29 rfl rfl ?_
        refine go_iald (pc' := 31) _ dX6_peg_30 rfl rfl rfl (by omega) (by decide) ?_
        rw [c1_weight h (by first | decide | omega)]
        refine go_goto (pc' := 42) dX6_peg_31 (by decide) ?_
        refine go_iret dX6_peg_42 (pg_narI _) ?_
        rw [if_pos h_19] at k2
        exact k2 h_5 h_13
    · have h_13 := pg_b0 h_13
      refine go_iconst (pc' := 17) (-1) dX6_peg_16 rfl (by decide) ?_
      refine go_iret dX6_peg_17 (pg_narI _) ?_
      exact k1 (fun q => h_13 q.2)

set_option maxHeartbeats 4000000 in
set_option maxRecDepth 20000 in
theorem tX7_peg {sc : pg_Sc} {g : pg_S} {K : Int32 → pg_S → Prop} {T : TW} {n : Nat} {x y : Int32} (h : MR g 60 T n) (wf : WF T n) (k1 : ¬ (UP x 5 ∧ UP y 1) → K (-1) g) (k2 : UP x 5 → UP y 1 → K (if y = 0 then T 1 (pn x) else orF (hadF T x) n 0 0) g) : pg_Cal sc 3 mX7_peg [.ref 59, .int x, .int y] g (pg_ki K) := by
  refine pg_Cal.of rfl (Nat.le_of_ble_eq_true rfl) rfl ?_
  have hn := wf.1
  refine go_iload_n (pc' := 1) dX7_peg_0 rfl rfl ?_
  refine go_cSi1 (pc' := 4) (M' := mX7_isPeg) (d' := 2) dX7_peg_1 rfl csRX7_203 (by decide) rfl (Nat.le_of_ble_eq_true rfl) ?_
  refine tX7_isPeg ?_
  refine go_if_eq (pc' := 7) (tgt := 16) dX7_peg_4 rfl (by decide) (fun h_4 => ?_) (fun h_4 => ?_)
  · have h_4 := pg_b0 h_4
    refine go_iconst (pc' := 17) (-1) dX7_peg_16 rfl (by decide) ?_
    refine go_iret dX7_peg_17 (pg_narI _) ?_
    exact k1 (fun q => h_4 q.1)
  · have h_4 := pg_b1 h_4
    obtain ⟨l, hl, rfl⟩ := up_ex 5 rfl (by decide) h_4
    have el : pn (nI l) = l := nI_clamp (by omega)
    rw [el] at k2
    refine go_iload_n (pc' := 8) dX7_peg_7 rfl rfl ?_
    refine go_iconst (pc' := 9) 0 dX7_peg_8 rfl (by decide) ?_
    refine go_iconst (pc' := 10) 1 dX7_peg_9 rfl (by decide) ?_
    refine go_cSi3 (pc' := 13) (M' := mX7_in) (d' := 1) dX7_peg_10 rfl csRX7_60 (by decide) rfl (Nat.le_of_ble_eq_true rfl) ?_
    refine tX7_in ?_
    refine go_if_ne (pc' := 16) (tgt := 18) dX7_peg_13 rfl (by decide) (fun h_13 => ?_) (fun h_13 => ?_)
    · have h_13 := pg_b1 h_13
      refine go_iload_n (pc' := 19) dX7_peg_18 rfl rfl ?_
      refine go_if_ne (pc' := 22) (tgt := 34) dX7_peg_19 rfl (by decide) (fun h_19 => ?_) (fun h_19 => ?_)
      · refine go_aload_n (pc' := 35) dX7_peg_34 rfl rfl ?_
        refine go_iload_n (pc' := 36) dX7_peg_35 rfl rfl ?_
        refine go_cVi1 (pc' := 39) (M' := mX7_hadBy) (d' := 2) dX7_peg_36 rfl cvRX7_239 rfl rfl (by decide) rfl (Nat.le_of_ble_eq_true rfl) ?_
        refine tX7_hadBy h wf ?_
        refine go_iret dX7_peg_39 (pg_narI _) ?_
        rw [if_neg h_19] at k2
        exact k2 h_4 h_13
      · refine go_aload_n (pc' := 23) dX7_peg_22 rfl rfl ?_
        refine go_getR (pc' := 26) dX7_peg_23 rfl flRX7_7 rfl rfl ?_
        refine go_bipush (pc' := 28) 7 dX7_peg_26 rfl (by decide) ?_
        refine go_iload_n (pc' := 29) dX7_peg_28 rfl rfl ?_
        refine go_iadd (pc' := 30) dX7_peg_29 rfl ?_
        refine go_iald (pc' := 31) (7 + l) dX7_peg_30 rfl rfl (by rw [show (7 : Int32) = nI 7 from rfl, nI_add]) (by omega) (by decide) ?_
        rw [m60_weight h (by omega)]
        refine go_goto (pc' := 39) dX7_peg_31 (by decide) ?_
        refine go_iret dX7_peg_39 (pg_narI _) ?_
        rw [if_pos h_19] at k2
        exact k2 h_4 h_13
    · have h_13 := pg_b0 h_13
      refine go_iconst (pc' := 17) (-1) dX7_peg_16 rfl (by decide) ?_
      refine go_iret dX7_peg_17 (pg_narI _) ?_
      exact k1 (fun q => h_13 q.2)

set_option maxHeartbeats 4000000 in
set_option maxRecDepth 20000 in
theorem tX6_hours {sc : pg_Sc} {g : pg_S} {K : Int32 → pg_S → Prop} {T : TW} {n : Nat} {x : Int32} (h : CR g 1 T n) (wf : WF T n) (k1 : ¬ IN x 1 60 → K (-1) g) (k2 : IN x 1 60 → ∀ g', CR g' 1 (hoursF n (pn x) T) n → FR 1 10 g g' → K (pairsF n (hoursF n (pn x) T)) g') : pg_Cal sc 5 mX6_hours [.ref 0, .int x] g (pg_ki K) := by
  refine pg_Cal.of rfl (Nat.le_of_ble_eq_true rfl) rfl ?_
  have hn := wf.1
  refine go_iload_n (pc' := 1) dX6_hours_0 rfl rfl ?_
  refine go_iconst (pc' := 2) 1 dX6_hours_1 rfl (by decide) ?_
  refine go_bipush (pc' := 4) 60 dX6_hours_2 rfl (by decide) ?_
  refine go_cSi3 (pc' := 7) (M' := mX6_between) (d' := 1) dX6_hours_4 rfl csRX6_65 (by decide) rfl (Nat.le_of_ble_eq_true rfl) ?_
  refine tX6_between ?_
  refine go_if_ne (pc' := 10) (tgt := 12) dX6_hours_7 rfl (by decide) (fun h_7 => ?_) (fun h_7 => ?_)
  · have h_7 := pg_b1 h_7
    obtain ⟨c, hca, hc, rfl⟩ := in_ex 1 60 rfl rfl (by decide) (by decide) h_7
    have ec : pn (nI c) = c := nI_clamp (by omega)
    rw [ec] at k2
    refine go_aload_n (pc' := 13) dX6_hours_12 rfl rfl ?_
    refine go_getR (pc' := 16) dX6_hours_13 rfl flRX6_10 rfl rfl ?_
    refine go_iload_n (pc' := 17) dX6_hours_16 rfl rfl ?_
    refine go_cVv1 (pc' := 20) (M' := mX5_spendHours) (d' := 4) dX6_hours_17 rfl cvRX6_160 rfl rfl (by decide) rfl (Nat.le_of_ble_eq_true rfl) ?_
    refine tX5_spendHours_1 h wf (by omega) (fun g2 h2 f2 => ?_)
    refine go_aload_n (pc' := 21) dX6_hours_20 rfl rfl ?_
    refine go_getR (pc' := 24) dX6_hours_21 rfl flRX6_10 rfl rfl ?_
    refine go_cVi0 (pc' := 27) (M' := mX5_pairs) (d' := 3) dX6_hours_24 rfl cvRX6_164 rfl rfl (by decide) rfl (Nat.le_of_ble_eq_true rfl) ?_
    refine tX5_pairs_1 h2 (WF.hours c wf) ?_
    refine go_iret dX6_hours_27 (pg_narI _) ?_
    exact k2 h_7 _ h2 f2
  · have h_7 := pg_b0 h_7
    refine go_iconst (pc' := 11) (-1) dX6_hours_10 rfl (by decide) ?_
    refine go_iret dX6_hours_11 (pg_narI _) ?_
    exact k1 (fun q => h_7 q)

set_option maxHeartbeats 4000000 in
set_option maxRecDepth 20000 in
theorem lmhours {sc : pg_Sc} {K : Int32 → pg_S → Prop} {n c : Nat} (hc : c < 2 ^ 31) : ∀ (m : Nat) (i : Nat) (T : TW) (g : pg_S), i + m = c → WF T n → MR g 60 T n → (∀ g', MR g' 60 (hoursF n m T) n → FR 60 61 g g' → K (pairsF n (hoursF n m T)) g') → pg_Go sc 5 mX7_hours 14 [(0, .ref 59), (1, .int (nI c)), (2, .int (nI i))] [] g (pg_ki K) := by
  intro m
  induction m with
  | zero =>
    intro i T g hi wf h k
    obtain rfl : i = c := by omega
    refine go_iload_n (pc' := 15) dX7_hours_14 rfl rfl ?_
    refine go_iload_n (pc' := 16) dX7_hours_15 rfl rfl ?_
    refine go_icmp_ge (pc' := 19) (tgt := 29) dX7_hours_16 rfl (by decide) (fun h_16 => ?_) (fun h_16 => absurd (Int32.le_refl _) h_16)
    refine go_aload_n (pc' := 30) dX7_hours_29 rfl rfl ?_
    refine go_cVi0 (pc' := 33) (M' := mX7_pairs) (d' := 2) dX7_hours_30 rfl cvRX7_254 rfl rfl (by decide) rfl (Nat.le_of_ble_eq_true rfl) ?_
    refine tX7_pairs h wf ?_
    refine go_iret dX7_hours_33 (pg_narI _) ?_
    exact k _ h FR.rf
  | succ m ih =>
    intro i T g hi wf h k
    have hin : i < c := by omega
    refine go_iload_n (pc' := 15) dX7_hours_14 rfl rfl ?_
    refine go_iload_n (pc' := 16) dX7_hours_15 rfl rfl ?_
    refine go_icmp_ge (pc' := 19) (tgt := 29) dX7_hours_16 rfl (by decide) (fun h_16 => absurd h_16 (nI_ge hin hc)) (fun h_16 => ?_)
    refine go_aload_n (pc' := 20) dX7_hours_19 rfl rfl ?_
    refine go_cVv0 (pc' := 23) (M' := mX7_hourGoes) (d' := 4) dX7_hours_20 rfl cvRX7_251 rfl rfl (by decide) rfl (Nat.le_of_ble_eq_true rfl) ?_
    refine tX7_hourGoes h wf (fun g1 h1 f1 => ?_)
    refine go_iinc (pc' := 26) _ dX7_hours_23 rfl rfl (pg_inc _) (by decide) rfl ?_
    refine go_goto (pc' := 14) dX7_hours_26 (by decide) ?_
    exact ih (i + 1) _ _ (by omega) wf.hour h1 (fun g' a b => k g' a (FR.tr f1 b))

set_option maxHeartbeats 4000000 in
set_option maxRecDepth 20000 in
theorem tX7_hours {sc : pg_Sc} {g : pg_S} {K : Int32 → pg_S → Prop} {T : TW} {n : Nat} {x : Int32} (h : MR g 60 T n) (wf : WF T n) (k1 : ¬ IN x 1 60 → K (-1) g) (k2 : IN x 1 60 → ∀ g', MR g' 60 (hoursF n (pn x) T) n → FR 60 61 g g' → K (pairsF n (hoursF n (pn x) T)) g') : pg_Cal sc 5 mX7_hours [.ref 59, .int x] g (pg_ki K) := by
  refine pg_Cal.of rfl (Nat.le_of_ble_eq_true rfl) rfl ?_
  have hn := wf.1
  refine go_iload_n (pc' := 1) dX7_hours_0 rfl rfl ?_
  refine go_iconst (pc' := 2) 1 dX7_hours_1 rfl (by decide) ?_
  refine go_bipush (pc' := 4) 60 dX7_hours_2 rfl (by decide) ?_
  refine go_cSi3 (pc' := 7) (M' := mX7_in) (d' := 1) dX7_hours_4 rfl csRX7_60 (by decide) rfl (Nat.le_of_ble_eq_true rfl) ?_
  refine tX7_in ?_
  refine go_if_ne (pc' := 10) (tgt := 12) dX7_hours_7 rfl (by decide) (fun h_7 => ?_) (fun h_7 => ?_)
  · have h_7 := pg_b1 h_7
    obtain ⟨c, hca, hc, rfl⟩ := in_ex 1 60 rfl rfl (by decide) (by decide) h_7
    have ec : pn (nI c) = c := nI_clamp (by omega)
    rw [ec] at k2
    refine go_iconst (pc' := 13) 0 dX7_hours_12 rfl (by decide) ?_
    refine go_istore_n (pc' := 14) dX7_hours_13 rfl (by decide) rfl ?_
    exact lmhours (by omega) c 0 T g (by omega) wf h (fun g2 a b => k2 h_7 g2 a b)
  · have h_7 := pg_b0 h_7
    refine go_iconst (pc' := 11) (-1) dX7_hours_10 rfl (by decide) ?_
    refine go_iret dX7_hours_11 (pg_narI _) ?_
    exact k1 (fun q => h_7 q)

set_option maxHeartbeats 4000000 in
set_option maxRecDepth 20000 in
theorem tX6_seed {sc : pg_Sc} {g : pg_S} {K : Int32 → pg_S → Prop} {T : TW} {n : Nat} {v : Int32} (h : CR g 1 T n) (wf : WF T n) (k2 : ∀ g', CR g' 1 (tu T 8 2 v) n → FR 1 10 g g' → K (T 8 2) g') : pg_Cal sc 1 mX6_seed [.ref 0, .int v] g (pg_ki K) := by
  refine pg_Cal.of rfl (Nat.le_of_ble_eq_true rfl) rfl ?_
  have hn := wf.1
  refine go_aload_n (pc' := 1) dX6_seed_0 rfl rfl ?_
  refine go_getR (pc' := 4) dX6_seed_1 rfl flRX6_10 rfl rfl ?_
  refine go_getI (pc' := 7) dX6_seed_4 rfl flRX6_76 rfl rfl ?_
  rw [c1_z h]
  refine go_istore_n (pc' := 8) dX6_seed_7 rfl (by decide) rfl ?_
  refine go_aload_n (pc' := 9) dX6_seed_8 rfl rfl ?_
  refine go_getR (pc' := 12) dX6_seed_9 rfl flRX6_10 rfl rfl ?_
  refine go_iload_n (pc' := 13) dX6_seed_12 rfl rfl ?_
  refine go_putI (pc' := 16) dX6_seed_13 rfl flRX6_76 rfl rfl ft5_10 ?_
  refine go_iload_n (pc' := 17) dX6_seed_16 rfl rfl ?_
  refine go_iret dX6_seed_17 (pg_narI _) ?_
  exact k2 _ (h.scal (i := 2) (by decide)) (FR.ui (by decide))

set_option maxHeartbeats 4000000 in
set_option maxRecDepth 20000 in
theorem tX7_seed {sc : pg_Sc} {g : pg_S} {K : Int32 → pg_S → Prop} {T : TW} {n : Nat} {v : Int32} (h : MR g 60 T n) (wf : WF T n) (k2 : ∀ g', MR g' 60 (tu T 8 2 v) n → FR 60 61 g g' → K (T 8 2) g') : pg_Cal sc 2 mX7_seed [.ref 59, .int v] g (pg_ki K) := by
  refine pg_Cal.of rfl (Nat.le_of_ble_eq_true rfl) rfl ?_
  have hn := wf.1
  refine go_aload_n (pc' := 1) dX7_seed_0 rfl rfl ?_
  refine go_bipush (pc' := 3) 6 dX7_seed_1 rfl (by decide) ?_
  refine go_iload_n (pc' := 4) dX7_seed_3 rfl rfl ?_
  refine go_cVi2 (pc' := 7) (M' := mX7_becomes) (d' := 1) dX7_seed_4 rfl cvRX7_200 rfl rfl (by decide) rfl (Nat.le_of_ble_eq_true rfl) ?_
  refine tX7_becomes (j := 6) (by decide) ?_
  rw [m60_z h]
  refine go_iret dX7_seed_7 (pg_narI _) ?_
  exact k2 _ h.z (FR.ui (by decide))

set_option maxHeartbeats 4000000 in
set_option maxRecDepth 20000 in
theorem tX6_hour {sc : pg_Sc} {g : pg_S} {K : Int32 → pg_S → Prop} {T : TW} {n : Nat}  (h : CR g 1 T n) (wf : WF T n) (k2 : ∀ g', CR g' 1 (hourF n (drawF n T)) n → FR 1 10 g g' → K (pairsF n (hourF n (drawF n T))) g') : pg_Cal sc 5 mX6_hour [.ref 0] g (pg_ki K) := by
  refine pg_Cal.of rfl (Nat.le_of_ble_eq_true rfl) rfl ?_
  have hn := wf.1
  refine go_aload_n (pc' := 1) dX6_hour_0 rfl rfl ?_
  refine go_getR (pc' := 4) dX6_hour_1 rfl flRX6_10 rfl rfl ?_
  refine go_cVv0 (pc' := 7) (M' := mX5_spendHourByDraws) (d' := 4) dX6_hour_4 rfl cvRX6_168 rfl rfl (by decide) rfl (Nat.le_of_ble_eq_true rfl) ?_
  refine tX5_byDraws_1 h wf (fun g2 h2 f2 => ?_)
  refine go_aload_n (pc' := 8) dX6_hour_7 rfl rfl ?_
  refine go_getR (pc' := 11) dX6_hour_8 rfl flRX6_10 rfl rfl ?_
  refine go_cVi0 (pc' := 14) (M' := mX5_pairs) (d' := 3) dX6_hour_11 rfl cvRX6_164 rfl rfl (by decide) rfl (Nat.le_of_ble_eq_true rfl) ?_
  refine tX5_pairs_1 h2 wf.draw.hour ?_
  refine go_iret dX6_hour_14 (pg_narI _) ?_
  exact k2 _ h2 f2

set_option maxHeartbeats 4000000 in
set_option maxRecDepth 20000 in
theorem tX7_hour {sc : pg_Sc} {g : pg_S} {K : Int32 → pg_S → Prop} {T : TW} {n : Nat}  (h : MR g 60 T n) (wf : WF T n) (k2 : ∀ g', MR g' 60 (hourF n (drawF n T)) n → FR 60 61 g g' → K (pairsF n (hourF n (drawF n T))) g') : pg_Cal sc 6 mX7_hour [.ref 59] g (pg_ki K) := by
  refine pg_Cal.of rfl (Nat.le_of_ble_eq_true rfl) rfl ?_
  have hn := wf.1
  refine go_aload_n (pc' := 1) dX7_hour_0 rfl rfl ?_
  refine go_cVi0 (pc' := 4) (M' := mX7_hourByDraws) (d' := 5) dX7_hour_1 rfl cvRX7_261 rfl rfl (by decide) rfl (Nat.le_of_ble_eq_true rfl) ?_
  refine tX7_hourByDraws h wf (fun g2 h2 f2 => ?_)
  refine go_iret dX7_hour_4 (pg_narI _) ?_
  exact k2 _ h2 f2

def stateF (T : TW) (n r : Nat) (x : Int32) : Int32 := if x = 0 then T 8 1 else if x = 1 then pairsF n T else if x = 2 then orF (lonF T) n 0 0 else if x = 3 then orF (plcF T) n 0 0 else if x = 4 then cntF (cirB T n r) n 0 0 else if x = 5 then addF (T 1) 6 0 0 else -1
theorem stateF_out {T : TW} {n r : Nat} {x : Int32} (h : x.toInt < 0 ∨ 5 < x.toInt) : stateF T n r x = -1 := by
  unfold stateF
  rw [if_neg (pg_out h 0 (by decide) (by decide)), if_neg (pg_out h 1 (by decide) (by decide)), if_neg (pg_out h 2 (by decide) (by decide)), if_neg (pg_out h 3 (by decide) (by decide)), if_neg (pg_out h 4 (by decide) (by decide)), if_neg (pg_out h 5 (by decide) (by decide))]
set_option maxHeartbeats 4000000 in
set_option maxRecDepth 20000 in
theorem tX6_state {sc : pg_Sc} {g : pg_S} {K : Int32 → pg_S → Prop} {T : TW} {n : Nat} {x : Int32} (h : CR g 1 T n) (wf : WF T n) (k2 : K (stateF T n n x) g) : pg_Cal sc 4 mX6_state [.ref 0, .int x] g (pg_ki K) := by
  refine pg_Cal.of rfl (Nat.le_of_ble_eq_true rfl) rfl ?_
  have hn := wf.1
  refine go_iload_n (pc' := 1) dX6_state_0 rfl rfl ?_
  refine go_xcase _ pg_sw0_5 (fun h_1 => ?_)
  rcases h_1 with h_1 | h_1 | h_1 | h_1 | h_1 | h_1 | h_1
  · refine go_tableIn (pc' := 40) dX6_state_1 (by rw [h_1]; decide) (by rw [h_1]; decide) (by rw [h_1]; rfl) (by decide) ?_
    refine go_aload_n (pc' := 41) dX6_state_40 rfl rfl ?_
    refine go_getR (pc' := 44) dX6_state_41 rfl flRX6_10 rfl rfl ?_
    refine go_getI (pc' := 47) dX6_state_44 rfl flRX6_174 rfl rfl ?_
    rw [c1_hour h]
    refine go_iret dX6_state_47 (pg_narI _) ?_
    subst h_1
    exact k2
  · refine go_tableIn (pc' := 48) dX6_state_1 (by rw [h_1]; decide) (by rw [h_1]; decide) (by rw [h_1]; rfl) (by decide) ?_
    refine go_aload_n (pc' := 49) dX6_state_48 rfl rfl ?_
    refine go_getR (pc' := 52) dX6_state_49 rfl flRX6_10 rfl rfl ?_
    refine go_cVi0 (pc' := 55) (M' := mX5_pairs) (d' := 3) dX6_state_52 rfl cvRX6_164 rfl rfl (by decide) rfl (Nat.le_of_ble_eq_true rfl) ?_
    refine tX5_pairs_1 h wf ?_
    refine go_iret dX6_state_55 (pg_narI _) ?_
    subst h_1
    exact k2
  · refine go_tableIn (pc' := 56) dX6_state_1 (by rw [h_1]; decide) (by rw [h_1]; decide) (by rw [h_1]; rfl) (by decide) ?_
    refine go_aload_n (pc' := 57) dX6_state_56 rfl rfl ?_
    refine go_getR (pc' := 60) dX6_state_57 rfl flRX6_10 rfl rfl ?_
    refine go_cVi0 (pc' := 63) (M' := mX5_strangers) (d' := 1) dX6_state_60 rfl cvRX6_177 rfl rfl (by decide) rfl (Nat.le_of_ble_eq_true rfl) ?_
    refine tX5_strangers_1 h wf ?_
    refine go_iret dX6_state_63 (pg_narI _) ?_
    subst h_1
    exact k2
  · refine go_tableIn (pc' := 64) dX6_state_1 (by rw [h_1]; decide) (by rw [h_1]; decide) (by rw [h_1]; rfl) (by decide) ?_
    refine go_aload_n (pc' := 65) dX6_state_64 rfl rfl ?_
    refine go_getR (pc' := 68) dX6_state_65 rfl flRX6_10 rfl rfl ?_
    refine go_cVi0 (pc' := 71) (M' := mX5_placesTaken) (d' := 1) dX6_state_68 rfl cvRX6_180 rfl rfl (by decide) rfl (Nat.le_of_ble_eq_true rfl) ?_
    refine tX5_placesTaken_1 h wf ?_
    refine go_iret dX6_state_71 (pg_narI _) ?_
    subst h_1
    exact k2
  · refine go_tableIn (pc' := 72) dX6_state_1 (by rw [h_1]; decide) (by rw [h_1]; decide) (by rw [h_1]; rfl) (by decide) ?_
    refine go_aload_n (pc' := 73) dX6_state_72 rfl rfl ?_
    refine go_getR (pc' := 76) dX6_state_73 rfl flRX6_10 rfl rfl ?_
    refine go_cVi0 (pc' := 79) (M' := mX5_circles) (d' := 2) dX6_state_76 rfl cvRX6_183 rfl rfl (by decide) rfl (Nat.le_of_ble_eq_true rfl) ?_
    refine tX5_circles h wf ?_
    refine go_iret dX6_state_79 (pg_narI _) ?_
    subst h_1
    exact k2
  · refine go_tableIn (pc' := 80) dX6_state_1 (by rw [h_1]; decide) (by rw [h_1]; decide) (by rw [h_1]; rfl) (by decide) ?_
    refine go_aload_n (pc' := 81) dX6_state_80 rfl rfl ?_
    refine go_getR (pc' := 84) dX6_state_81 rfl flRX6_10 rfl rfl ?_
    refine go_cVi0 (pc' := 87) (M' := mX5_wholeWeight) (d' := 1) dX6_state_84 rfl cvRX6_186 rfl rfl (by decide) rfl (Nat.le_of_ble_eq_true rfl) ?_
    refine tX5_wholeWeight_1 h wf ?_
    refine go_iret dX6_state_87 (pg_narI _) ?_
    subst h_1
    exact k2
  · refine go_tableOut (pc' := 88) dX6_state_1 h_1 (by decide) ?_
    refine go_iconst (pc' := 89) (-1) dX6_state_88 rfl (by decide) ?_
    refine go_iret dX6_state_89 (pg_narI _) ?_
    rw [stateF_out h_1] at k2
    exact k2

set_option maxHeartbeats 4000000 in
set_option maxRecDepth 20000 in
theorem tX7_state {sc : pg_Sc} {g : pg_S} {K : Int32 → pg_S → Prop} {T : TW} {n : Nat} {x : Int32} (h : MR g 60 T n) (wf : WF T n) (k2 : K (stateF T n 8 x) g) : pg_Cal sc 4 mX7_state [.ref 59, .int x] g (pg_ki K) := by
  refine pg_Cal.of rfl (Nat.le_of_ble_eq_true rfl) rfl ?_
  have hn := wf.1
  refine go_iload_n (pc' := 1) dX7_state_0 rfl rfl ?_
  refine go_xcase _ pg_sw0_5 (fun h_1 => ?_)
  rcases h_1 with h_1 | h_1 | h_1 | h_1 | h_1 | h_1 | h_1
  · refine go_tableIn (pc' := 40) dX7_state_1 (by rw [h_1]; decide) (by rw [h_1]; decide) (by rw [h_1]; rfl) (by decide) ?_
    refine go_aload_n (pc' := 41) dX7_state_40 rfl rfl ?_
    refine go_getR (pc' := 44) dX7_state_41 rfl flRX7_7 rfl rfl ?_
    refine go_iconst (pc' := 45) 4 dX7_state_44 rfl (by decide) ?_
    refine go_iald (pc' := 46) 4 dX7_state_45 rfl rfl rfl (by decide) (by decide) ?_
    rw [m60_hour h]
    refine go_iret dX7_state_46 (pg_narI _) ?_
    subst h_1
    exact k2
  · refine go_tableIn (pc' := 47) dX7_state_1 (by rw [h_1]; decide) (by rw [h_1]; decide) (by rw [h_1]; rfl) (by decide) ?_
    refine go_aload_n (pc' := 48) dX7_state_47 rfl rfl ?_
    refine go_cVi0 (pc' := 51) (M' := mX7_pairs) (d' := 2) dX7_state_48 rfl cvRX7_254 rfl rfl (by decide) rfl (Nat.le_of_ble_eq_true rfl) ?_
    refine tX7_pairs h wf ?_
    refine go_iret dX7_state_51 (pg_narI _) ?_
    subst h_1
    exact k2
  · refine go_tableIn (pc' := 52) dX7_state_1 (by rw [h_1]; decide) (by rw [h_1]; decide) (by rw [h_1]; rfl) (by decide) ?_
    refine go_aload_n (pc' := 53) dX7_state_52 rfl rfl ?_
    refine go_cVi0 (pc' := 56) (M' := mX7_lonelySet) (d' := 2) dX7_state_53 rfl cvRX7_267 rfl rfl (by decide) rfl (Nat.le_of_ble_eq_true rfl) ?_
    refine tX7_lonelySet h wf ?_
    refine go_iret dX7_state_56 (pg_narI _) ?_
    subst h_1
    exact k2
  · refine go_tableIn (pc' := 57) dX7_state_1 (by rw [h_1]; decide) (by rw [h_1]; decide) (by rw [h_1]; rfl) (by decide) ?_
    refine go_aload_n (pc' := 58) dX7_state_57 rfl rfl ?_
    refine go_cVi0 (pc' := 61) (M' := mX7_placeSet) (d' := 2) dX7_state_58 rfl cvRX7_270 rfl rfl (by decide) rfl (Nat.le_of_ble_eq_true rfl) ?_
    refine tX7_placeSet h wf ?_
    refine go_iret dX7_state_61 (pg_narI _) ?_
    subst h_1
    exact k2
  · refine go_tableIn (pc' := 62) dX7_state_1 (by rw [h_1]; decide) (by rw [h_1]; decide) (by rw [h_1]; rfl) (by decide) ?_
    refine go_aload_n (pc' := 63) dX7_state_62 rfl rfl ?_
    refine go_cVi0 (pc' := 66) (M' := mX7_circles) (d' := 3) dX7_state_63 rfl cvRX7_273 rfl rfl (by decide) rfl (Nat.le_of_ble_eq_true rfl) ?_
    refine tX7_circles h wf ?_
    refine go_iret dX7_state_66 (pg_narI _) ?_
    subst h_1
    exact k2
  · refine go_tableIn (pc' := 67) dX7_state_1 (by rw [h_1]; decide) (by rw [h_1]; decide) (by rw [h_1]; rfl) (by decide) ?_
    refine go_aload_n (pc' := 68) dX7_state_67 rfl rfl ?_
    refine go_cVi0 (pc' := 71) (M' := mX7_weights) (d' := 1) dX7_state_68 rfl cvRX7_276 rfl rfl (by decide) rfl (Nat.le_of_ble_eq_true rfl) ?_
    refine tX7_weights h wf ?_
    refine go_iret dX7_state_71 (pg_narI _) ?_
    subst h_1
    exact k2
  · refine go_tableOut (pc' := 72) dX7_state_1 h_1 (by decide) ?_
    refine go_iconst (pc' := 73) (-1) dX7_state_72 rfl (by decide) ?_
    refine go_iret dX7_state_73 (pg_narI _) ?_
    rw [stateF_out h_1] at k2
    exact k2

set_option maxHeartbeats 4000000 in
set_option maxRecDepth 20000 in
theorem tX6_circle {sc : pg_Sc} {g : pg_S} {K : Int32 → pg_S → Prop} {T : TW} {n : Nat} {y : Int32} (h : CR g 1 T n) (wf : WF T n) (k1 : ¬ PP n y → K (-1) g) (k2 : PP n y → K (circF T n n (pn y)) g) : pg_Cal sc 2 mX6_circle [.ref 0, .int y] g (pg_ki K) := by
  refine pg_Cal.of rfl (Nat.le_of_ble_eq_true rfl) rfl ?_
  have hn := wf.1
  refine go_aload_n (pc' := 1) dX6_circle_0 rfl rfl ?_
  refine go_iload_n (pc' := 2) dX6_circle_1 rfl rfl ?_
  refine go_cVi1 (pc' := 5) (M' := mX6_isPerson) (d' := 1) dX6_circle_2 rfl cvRX6_111 rfl rfl (by decide) rfl (Nat.le_of_ble_eq_true rfl) ?_
  refine tX6_isPerson h ?_
  refine go_if_eq (pc' := 8) (tgt := 19) dX6_circle_5 rfl (by decide) (fun h_5 => ?_) (fun h_5 => ?_)
  · have h_5 := pg_b0 h_5
    refine go_iconst (pc' := 20) (-1) dX6_circle_19 rfl (by decide) ?_
    refine go_iret dX6_circle_20 (pg_narI _) ?_
    exact k1 (fun q => h_5 q)
  · have h_5 := pg_b1 h_5
    obtain ⟨p, hp, rfl⟩ := pp_ex h_5
    have ep : pn (nI p) = p := nI_clamp (by omega)
    rw [ep] at k2
    refine go_aload_n (pc' := 9) dX6_circle_8 rfl rfl ?_
    refine go_getR (pc' := 12) dX6_circle_9 rfl flRX6_10 rfl rfl ?_
    refine go_iload_n (pc' := 13) dX6_circle_12 rfl rfl ?_
    refine go_cVi1 (pc' := 16) (M' := mX5_circleOf) (d' := 1) dX6_circle_13 rfl cvRX6_197 rfl rfl (by decide) rfl (Nat.le_of_ble_eq_true rfl) ?_
    refine tX5_circleOf h wf ?_
    refine go_goto (pc' := 20) dX6_circle_16 (by decide) ?_
    refine go_iret dX6_circle_20 (pg_narI _) ?_
    exact k2 h_5

set_option maxHeartbeats 4000000 in
set_option maxRecDepth 20000 in
theorem tX7_circle {sc : pg_Sc} {g : pg_S} {K : Int32 → pg_S → Prop} {T : TW} {n : Nat} {y : Int32} (h : MR g 60 T n) (wf : WF T n) (k1 : ¬ PP n y → K (-1) g) (k2 : PP n y → K (circF T n 8 (pn y)) g) : pg_Cal sc 3 mX7_circle [.ref 59, .int y] g (pg_ki K) := by
  refine pg_Cal.of rfl (Nat.le_of_ble_eq_true rfl) rfl ?_
  have hn := wf.1
  refine go_aload_n (pc' := 1) dX7_circle_0 rfl rfl ?_
  refine go_iload_n (pc' := 2) dX7_circle_1 rfl rfl ?_
  refine go_cVi1 (pc' := 5) (M' := mX7_isOne) (d' := 2) dX7_circle_2 rfl cvRX7_220 rfl rfl (by decide) rfl (Nat.le_of_ble_eq_true rfl) ?_
  refine tX7_isOne h wf ?_
  refine go_if_eq (pc' := 8) (tgt := 16) dX7_circle_5 rfl (by decide) (fun h_5 => ?_) (fun h_5 => ?_)
  · have h_5 := pg_b0 h_5
    refine go_iconst (pc' := 17) (-1) dX7_circle_16 rfl (by decide) ?_
    refine go_iret dX7_circle_17 (pg_narI _) ?_
    exact k1 (fun q => h_5 q)
  · have h_5 := pg_b1 h_5
    obtain ⟨p, hp, rfl⟩ := pp_ex h_5
    have ep : pn (nI p) = p := nI_clamp (by omega)
    rw [ep] at k2
    refine go_aload_n (pc' := 9) dX7_circle_8 rfl rfl ?_
    refine go_iload_n (pc' := 10) dX7_circle_9 rfl rfl ?_
    refine go_cVi1 (pc' := 13) (M' := mX7_circleOf) (d' := 2) dX7_circle_10 rfl cvRX7_264 rfl rfl (by decide) rfl (Nat.le_of_ble_eq_true rfl) ?_
    refine tX7_circleOf h wf ?_
    refine go_goto (pc' := 17) dX7_circle_13 (by decide) ?_
    refine go_iret dX7_circle_17 (pg_narI _) ?_
    exact k2 h_5

set_option maxHeartbeats 4000000 in
set_option maxRecDepth 20000 in
theorem lch_peg {sc : pg_Sc} {K : Int32 → pg_S → Prop} {T : TW} {n p c : Nat} (wf : WF T n) (hp : p < n) (hc : c < 2 ^ 31) : ∀ (m : Nat) (i : Nat) (b x : Int32) (g : pg_S), i + m = 6 → CR g 1 T n → (∀ g', FR 10 19 g g' → K (bestF (tryF n c 3 p T) m i b x) g') → pg_Go sc 5 mX6_choiceFor 29 [(0, .ref 0), (1, .int (nI p)), (2, .int (nI c)), (3, .int 1), (4, .int 6), (5, .int b), (6, .int x), (7, .int (nI i))] [] g (pg_ki K) := by
  intro m
  induction m with
  | zero =>
    intro i b x g hi h k
    obtain rfl : i = 6 := by omega
    refine go_iload (pc' := 31) dX6_choiceFor_29 rfl rfl ?_
    refine go_iload (pc' := 33) dX6_choiceFor_31 rfl rfl ?_
    refine go_icmp_ge (pc' := 36) (tgt := 97) dX6_choiceFor_33 rfl (by decide) (fun h_33 => ?_) (fun h_33 => absurd (Int32.le_refl _) h_33)
    refine go_iload (pc' := 99) dX6_choiceFor_97 rfl rfl ?_
    refine go_iret dX6_choiceFor_99 (pg_narI _) ?_
    exact k _ FR.rf
  | succ m ih =>
    intro i b x g hi h k
    have hn := wf.1
    have hin : i < 6 := by omega
    simp only [bestF] at k
    refine go_iload (pc' := 31) dX6_choiceFor_29 rfl rfl ?_
    refine go_iload (pc' := 33) dX6_choiceFor_31 rfl rfl ?_
    refine go_icmp_ge (pc' := 36) (tgt := 97) dX6_choiceFor_33 rfl (by decide) (fun h_33 => absurd h_33 (nI_ge (b := 6) hin (by decide))) (fun h_33 => ?_)
    refine go_aload_n (pc' := 37) dX6_choiceFor_36 rfl rfl ?_
    refine go_getR (pc' := 40) dX6_choiceFor_37 rfl flRX6_16 rfl rfl ?_
    refine go_aload_n (pc' := 41) dX6_choiceFor_40 rfl rfl ?_
    refine go_getR (pc' := 44) dX6_choiceFor_41 rfl flRX6_10 rfl rfl ?_
    refine go_cVv1 (pc' := 47) (M' := mX5_become) (d' := 1) dX6_choiceFor_44 rfl cvRX6_87 rfl rfl (by decide) rfl (Nat.le_of_ble_eq_true rfl) ?_
    refine tX5_become_10_1 h hn (fun g1 h1 f1 => ?_)
    refine go_aload_n (pc' := 48) dX6_choiceFor_47 rfl rfl ?_
    refine go_getR (pc' := 51) dX6_choiceFor_48 rfl flRX6_16 rfl rfl ?_
    refine go_iload_n (pc' := 52) dX6_choiceFor_51 rfl rfl ?_
    refine go_iload_n (pc' := 53) dX6_choiceFor_52 rfl rfl ?_
    refine go_iload (pc' := 55) dX6_choiceFor_53 rfl rfl ?_
    refine go_cVv3 (pc' := 58) (M' := mX5_alter) (d' := 1) dX6_choiceFor_55 rfl cvRX6_314 rfl rfl (by decide) rfl (Nat.le_of_ble_eq_true rfl) ?_
    refine tX5_alter_1 h1 hn hp (fun g2 h2 f2 => ?_)
    refine go_aload_n (pc' := 59) dX6_choiceFor_58 rfl rfl ?_
    refine go_getR (pc' := 62) dX6_choiceFor_59 rfl flRX6_16 rfl rfl ?_
    refine go_iload_n (pc' := 63) dX6_choiceFor_62 rfl rfl ?_
    refine go_cVv1 (pc' := 66) (M' := mX5_spendHours) (d' := 4) dX6_choiceFor_63 rfl cvRX6_160 rfl rfl (by decide) rfl (Nat.le_of_ble_eq_true rfl) ?_
    have wf2 := wf.tu3 (i := p) (v := i) (by omega)
    refine tX5_spendHours_10 h2 wf2 hc (fun g3 h3 f3 => ?_)
    refine go_aload_n (pc' := 67) dX6_choiceFor_66 rfl rfl ?_
    refine go_getR (pc' := 70) dX6_choiceFor_67 rfl flRX6_16 rfl rfl ?_
    refine go_iload_n (pc' := 71) dX6_choiceFor_70 rfl rfl ?_
    refine go_cVi1 (pc' := 74) (M' := mX5_knownBy) (d' := 2) dX6_choiceFor_71 rfl cvRX6_317 rfl rfl (by decide) rfl (Nat.le_of_ble_eq_true rfl) ?_
    refine tX5_knownBy_10 h3 (WF.hours c wf2) hp ?_
    have f13 := FR.tr (FR.tr f1 f2) f3
    refine go_istore (pc' := 76) dX6_choiceFor_74 rfl (by decide) rfl ?_
    refine go_iload (pc' := 78) dX6_choiceFor_76 rfl rfl ?_
    refine go_iload (pc' := 80) dX6_choiceFor_78 rfl rfl ?_
    refine go_icmp_le (pc' := 83) (tgt := 91) dX6_choiceFor_80 rfl (by decide) (fun h_80 => ?_) (fun h_80 => ?_)
    · refine go_iinc (pc' := 94) _ dX6_choiceFor_91 rfl rfl (pg_inc _) (by decide) rfl ?_
      refine go_goto (pc' := 29) dX6_choiceFor_94 (by decide) ?_
      have h_80 : ¬ x < tryF n c 3 p T i := fun z => pg_lt_nle z h_80
      rw [if_neg h_80] at k
      refine go_sub [0, 1, 2, 3, 4, 5, 6, 7] rfl ?_
      exact ih (i + 1) _ _ _ (by omega) (h.fr f13 (by decide)) (fun g' z => k g' (FR.tr f13 z))
    · refine go_iload (pc' := 85) dX6_choiceFor_83 rfl rfl ?_
      refine go_istore (pc' := 87) dX6_choiceFor_85 rfl (by decide) rfl ?_
      refine go_iload (pc' := 89) dX6_choiceFor_87 rfl rfl ?_
      refine go_istore (pc' := 91) dX6_choiceFor_89 rfl (by decide) rfl ?_
      refine go_iinc (pc' := 94) _ dX6_choiceFor_91 rfl rfl (pg_inc _) (by decide) rfl ?_
      refine go_goto (pc' := 29) dX6_choiceFor_94 (by decide) ?_
      have h_80 : x < tryF n c 3 p T i := pg_nle_lt h_80
      rw [if_pos h_80] at k
      refine go_sub [0, 1, 2, 3, 4, 5, 6, 7] rfl ?_
      exact ih (i + 1) _ _ _ (by omega) (h.fr f13 (by decide)) (fun g' z => k g' (FR.tr f13 z))

set_option maxHeartbeats 4000000 in
set_option maxRecDepth 20000 in
theorem tX6_choice_peg {sc : pg_Sc} {g : pg_S} {K : Int32 → pg_S → Prop} {T : TW} {n : Nat} {y c : Int32} (h : CR g 1 T n) (wf : WF T n) (k1 : ¬ (PP n y ∧ IN c 1 20) → K (-1) g) (k2 : PP n y → IN c 1 20 → ∀ g', FR 10 19 g g' → K (bestF (tryF n (pn c) 3 (pn y) T) 6 0 0 (-1)) g') : pg_Cal sc 5 mX6_choiceFor [.ref 0, .int y, .int c, .int 1, .int 6] g (pg_ki K) := by
  refine pg_Cal.of rfl (Nat.le_of_ble_eq_true rfl) rfl ?_
  have hn := wf.1
  refine go_aload_n (pc' := 1) dX6_choiceFor_0 rfl rfl ?_
  refine go_iload_n (pc' := 2) dX6_choiceFor_1 rfl rfl ?_
  refine go_cVi1 (pc' := 5) (M' := mX6_isPerson) (d' := 1) dX6_choiceFor_2 rfl cvRX6_111 rfl rfl (by decide) rfl (Nat.le_of_ble_eq_true rfl) ?_
  refine tX6_isPerson h ?_
  refine go_if_eq (pc' := 8) (tgt := 18) dX6_choiceFor_5 rfl (by decide) (fun h_5 => ?_) (fun h_5 => ?_)
  · have h_5 := pg_b0 h_5
    refine go_iconst (pc' := 19) (-1) dX6_choiceFor_18 rfl (by decide) ?_
    refine go_iret dX6_choiceFor_19 (pg_narI _) ?_
    exact k1 (fun q => h_5 q.1)
  · have h_5 := pg_b1 h_5
    obtain ⟨p, hp, rfl⟩ := pp_ex h_5
    have ep : pn (nI p) = p := nI_clamp (by omega)
    rw [ep] at k2
    refine go_iload_n (pc' := 9) dX6_choiceFor_8 rfl rfl ?_
    refine go_iconst (pc' := 10) 1 dX6_choiceFor_9 rfl (by decide) ?_
    refine go_bipush (pc' := 12) 20 dX6_choiceFor_10 rfl (by decide) ?_
    refine go_cSi3 (pc' := 15) (M' := mX6_between) (d' := 1) dX6_choiceFor_12 rfl csRX6_65 (by decide) rfl (Nat.le_of_ble_eq_true rfl) ?_
    refine tX6_between ?_
    refine go_if_ne (pc' := 18) (tgt := 20) dX6_choiceFor_15 rfl (by decide) (fun h_15 => ?_) (fun h_15 => ?_)
    · have h_15 := pg_b1 h_15
      obtain ⟨c, hca, hc, rfl⟩ := in_ex 1 20 rfl rfl (by decide) (by decide) h_15
      have ec : pn (nI c) = c := nI_clamp (by omega)
      rw [ec] at k2
      refine go_iconst (pc' := 21) 0 dX6_choiceFor_20 rfl (by decide) ?_
      refine go_istore (pc' := 23) dX6_choiceFor_21 rfl (by decide) rfl ?_
      refine go_iconst (pc' := 24) (-1) dX6_choiceFor_23 rfl (by decide) ?_
      refine go_istore (pc' := 26) dX6_choiceFor_24 rfl (by decide) rfl ?_
      refine go_iconst (pc' := 27) 0 dX6_choiceFor_26 rfl (by decide) ?_
      refine go_istore (pc' := 29) dX6_choiceFor_27 rfl (by decide) rfl ?_
      exact lch_peg wf hp (by omega) 6 0 0 (-1) g (by omega) h (fun g' z => k2 h_5 h_15 g' z)
    · have h_15 := pg_b0 h_15
      refine go_iconst (pc' := 19) (-1) dX6_choiceFor_18 rfl (by decide) ?_
      refine go_iret dX6_choiceFor_19 (pg_narI _) ?_
      exact k1 (fun q => h_15 q.2)

set_option maxHeartbeats 4000000 in
set_option maxRecDepth 20000 in
theorem tX6_pegFor {sc : pg_Sc} {g : pg_S} {K : Int32 → pg_S → Prop} {T : TW} {n : Nat} {y c : Int32} (h : CR g 1 T n) (wf : WF T n) (k1 : ¬ (PP n y ∧ IN c 1 20) → K (-1) g) (k2 : PP n y → IN c 1 20 → ∀ g', FR 10 19 g g' → K (bestF (tryF n (pn c) 3 (pn y) T) 6 0 0 (-1)) g') : pg_Cal sc 6 mX6_pegFor [.ref 0, .int y, .int c] g (pg_ki K) := by
  refine pg_Cal.of rfl (Nat.le_of_ble_eq_true rfl) rfl ?_
  have hn := wf.1
  refine go_aload_n (pc' := 1) dX6_pegFor_0 rfl rfl ?_
  refine go_iload_n (pc' := 2) dX6_pegFor_1 rfl rfl ?_
  refine go_iload_n (pc' := 3) dX6_pegFor_2 rfl rfl ?_
  refine go_iconst (pc' := 4) 1 dX6_pegFor_3 rfl (by decide) ?_
  refine go_bipush (pc' := 6) 6 dX6_pegFor_4 rfl (by decide) ?_
  refine go_cVi4 (pc' := 9) (M' := mX6_choiceFor) (d' := 5) dX6_pegFor_6 rfl cvRX6_194 rfl rfl (by decide) rfl (Nat.le_of_ble_eq_true rfl) ?_
  refine tX6_choice_peg h wf (fun z => ?_) (fun z1 z2 g' f => ?_)
  · refine go_iret dX6_pegFor_9 (pg_narI _) ?_
    exact k1 z
  refine go_iret dX6_pegFor_9 (pg_narI _) ?_
  exact k2 z1 z2 _ f

set_option maxHeartbeats 4000000 in
set_option maxRecDepth 20000 in
theorem lbo_peg {sc : pg_Sc} {K : Int32 → pg_S → Prop} {T : TW} {n p c : Nat} (wf : WF T n) (hp : p < n) (hc : c < 2 ^ 31) : ∀ (m : Nat) (i : Nat) (b x : Int32) (g : pg_S), i + m = 6 → MR g 60 T n → MR g 63 T n → (∀ g', MR g' 60 T n → FM g g' → K (bestF (tryF n c 3 p T) m i b x) g') → pg_Go sc 6 mX7_bestOf 20 [(0, .ref 59), (1, .int (nI p)), (2, .int 1), (3, .int (nI c)), (4, .int 5), (5, .int b), (6, .int x), (7, .int (nI i))] [] g (pg_ki K) := by
  intro m
  induction m with
  | zero =>
    intro i b x g hi h h0 k
    obtain rfl : i = 6 := by omega
    refine go_iload (pc' := 22) dX7_bestOf_20 rfl rfl ?_
    refine go_iload (pc' := 24) dX7_bestOf_22 rfl rfl ?_
    refine go_icmp_gt (pc' := 27) (tgt := 85) dX7_bestOf_24 rfl (by decide) (fun h_24 => ?_) (fun h_24 => absurd (by decide) h_24)
    refine go_iload (pc' := 87) dX7_bestOf_85 rfl rfl ?_
    refine go_iret dX7_bestOf_87 (pg_narI _) ?_
    exact k _ h FM.rf
  | succ m ih =>
    intro i b x g hi h h0 k
    have hn := wf.1
    have hin : i < 6 := by omega
    simp only [bestF] at k
    refine go_iload (pc' := 22) dX7_bestOf_20 rfl rfl ?_
    refine go_iload (pc' := 24) dX7_bestOf_22 rfl rfl ?_
    refine go_icmp_gt (pc' := 27) (tgt := 85) dX7_bestOf_24 rfl (by decide) (fun h_24 => absurd h_24 (nI_nlt (a := 5) (by omega) (by decide))) (fun h_24 => ?_)
    refine go_aload_n (pc' := 28) dX7_bestOf_27 rfl rfl ?_
    refine go_iload_n (pc' := 29) dX7_bestOf_28 rfl rfl ?_
    refine go_iload_n (pc' := 30) dX7_bestOf_29 rfl rfl ?_
    refine go_iload (pc' := 32) dX7_bestOf_30 rfl rfl ?_
    refine go_cVv3 (pc' := 35) (M' := mX7_sets) (d' := 1) dX7_bestOf_32 rfl cvRX7_213 rfl rfl (by decide) rfl (Nat.le_of_ble_eq_true rfl) ?_
    refine tX7_sets (p := p) (q := 1) (by omega) (by decide) ?_
    refine go_gen (fun g2 e2 => ?_)
    have h2 : MR g2 60 (tu T 3 p (nI i)) n := by rw [e2]; exact h.put (a := 1) (by decide)
    have f2 : FR 60 61 g g2 := by rw [e2]; exact FR.ui (by decide)
    have wf2 := wf.tu3 (i := p) (v := i) (by omega)
    refine go_aload_n (pc' := 36) dX7_bestOf_35 rfl rfl ?_
    refine go_iload_n (pc' := 37) dX7_bestOf_36 rfl rfl ?_
    refine go_iload_n (pc' := 38) dX7_bestOf_37 rfl rfl ?_
    refine go_iconst (pc' := 39) 4 dX7_bestOf_38 rfl (by decide) ?_
    refine go_cVi3 (pc' := 42) (M' := mX7_behind) (d' := 5) dX7_bestOf_39 rfl cvRX7_279 rfl rfl (by decide) rfl (Nat.le_of_ble_eq_true rfl) ?_
    refine tX7_behind (q := 4) h2 (h0.fr f2 (by decide)) wf2 hp (by decide) hc (fun g3 h3 h30 f3 => ?_)
    obtain ⟨v, hv, ev⟩ := (WF.hours c wf2).knows' hp
    have ev2 : hoursF n c (tu T 3 p (nI i)) (2 + 4) p = nI v := ev
    rw [ev2]
    refine go_cSi1 (pc' := 45) (M' := mX7_ones) (d' := 1) dX7_bestOf_42 rfl csRX7_248 (by decide) rfl (Nat.le_of_ble_eq_true rfl) ?_
    refine tX7_ones (by omega) ?_
    have et : bcF (nI v) = tryF n c 3 p T i := by unfold tryF; rw [ev]
    rw [et]
    refine go_istore (pc' := 47) dX7_bestOf_45 rfl (by decide) rfl ?_
    refine go_iload (pc' := 49) dX7_bestOf_47 rfl rfl ?_
    refine go_iload (pc' := 51) dX7_bestOf_49 rfl rfl ?_
    refine go_icmp_le (pc' := 54) (tgt := 59) dX7_bestOf_51 rfl (by decide) (fun h_51 => ?_) (fun h_51 => ?_)
    · refine go_iload (pc' := 61) dX7_bestOf_59 rfl rfl ?_
      refine go_istore (pc' := 63) dX7_bestOf_61 rfl (by decide) rfl ?_
      refine go_iload (pc' := 65) dX7_bestOf_63 rfl rfl ?_
      refine go_iload (pc' := 67) dX7_bestOf_65 rfl rfl ?_
      refine go_icmp_le (pc' := 70) (tgt := 75) dX7_bestOf_67 rfl (by decide) (fun h_67 => ?_) (fun h_67 => ?_)
      · refine go_iload (pc' := 77) dX7_bestOf_75 rfl rfl ?_
        refine go_istore (pc' := 79) dX7_bestOf_77 rfl (by decide) rfl ?_
        refine go_iinc (pc' := 82) _ dX7_bestOf_79 rfl rfl (pg_inc _) (by decide) rfl ?_
        refine go_goto (pc' := 20) dX7_bestOf_82 (by decide) ?_
        rw [if_neg (fun z => pg_lt_nle z h_51)] at k
        refine go_sub [0, 1, 2, 3, 4, 5, 6, 7] rfl ?_
        exact ih (i + 1) _ _ _ (by omega) h3 h30 (fun g' z1 z2 => k g' z1 (FM.tr (FM.a (FR.tr f2 f3)) z2))
      · refine go_iload (pc' := 72) dX7_bestOf_70 rfl rfl ?_
        refine go_goto (pc' := 77) dX7_bestOf_72 (by decide) ?_
        refine go_istore (pc' := 79) dX7_bestOf_77 rfl (by decide) rfl ?_
        refine go_iinc (pc' := 82) _ dX7_bestOf_79 rfl rfl (pg_inc _) (by decide) rfl ?_
        refine go_goto (pc' := 20) dX7_bestOf_82 (by decide) ?_
        exact absurd h_51 h_67
    · refine go_iload (pc' := 56) dX7_bestOf_54 rfl rfl ?_
      refine go_goto (pc' := 61) dX7_bestOf_56 (by decide) ?_
      refine go_istore (pc' := 63) dX7_bestOf_61 rfl (by decide) rfl ?_
      refine go_iload (pc' := 65) dX7_bestOf_63 rfl rfl ?_
      refine go_iload (pc' := 67) dX7_bestOf_65 rfl rfl ?_
      refine go_icmp_le (pc' := 70) (tgt := 75) dX7_bestOf_67 rfl (by decide) (fun h_67 => ?_) (fun h_67 => ?_)
      · refine go_iload (pc' := 77) dX7_bestOf_75 rfl rfl ?_
        refine go_istore (pc' := 79) dX7_bestOf_77 rfl (by decide) rfl ?_
        refine go_iinc (pc' := 82) _ dX7_bestOf_79 rfl rfl (pg_inc _) (by decide) rfl ?_
        refine go_goto (pc' := 20) dX7_bestOf_82 (by decide) ?_
        exact absurd h_67 h_51
      · refine go_iload (pc' := 72) dX7_bestOf_70 rfl rfl ?_
        refine go_goto (pc' := 77) dX7_bestOf_72 (by decide) ?_
        refine go_istore (pc' := 79) dX7_bestOf_77 rfl (by decide) rfl ?_
        refine go_iinc (pc' := 82) _ dX7_bestOf_79 rfl rfl (pg_inc _) (by decide) rfl ?_
        refine go_goto (pc' := 20) dX7_bestOf_82 (by decide) ?_
        rw [if_pos (pg_nle_lt h_51)] at k
        refine go_sub [0, 1, 2, 3, 4, 5, 6, 7] rfl ?_
        exact ih (i + 1) _ _ _ (by omega) h3 h30 (fun g' z1 z2 => k g' z1 (FM.tr (FM.a (FR.tr f2 f3)) z2))

set_option maxHeartbeats 4000000 in
set_option maxRecDepth 20000 in
theorem tX7_best_peg {sc : pg_Sc} {g : pg_S} {K : Int32 → pg_S → Prop} {T : TW} {n p c : Nat} (h : MR g 60 T n) (wf : WF T n) (hp : p < n) (hc : c < 2 ^ 31) (k : ∀ g', MR g' 60 T n → FM g g' → K (bestF (tryF n c 3 p T) 6 0 0 (-1)) g') : pg_Cal sc 6 mX7_bestOf [.ref 59, .int (nI p), .int 1, .int (nI c), .int 5] g (pg_ki K) := by
  refine pg_Cal.of rfl (Nat.le_of_ble_eq_true rfl) rfl ?_
  refine go_aload_n (pc' := 1) dX7_bestOf_0 rfl rfl ?_
  refine go_getR (pc' := 4) dX7_bestOf_1 rfl flRX7_7 rfl rfl ?_
  refine go_aload_n (pc' := 5) dX7_bestOf_4 rfl rfl ?_
  refine go_getR (pc' := 8) dX7_bestOf_5 rfl flRX7_19 rfl rfl ?_
  refine go_cSv2 (pc' := 11) (M' := mX7_moveAll) (d' := 1) dX7_bestOf_8 rfl csRX7_193 (by decide) rfl (Nat.le_of_ble_eq_true rfl) ?_
  have hn := wf.1
  refine tX7_mv_60_63 h hn (fun g1 h1 f1 => ?_)
  have h11 := h.fr f1 (by decide)
  refine go_iconst (pc' := 12) 0 dX7_bestOf_11 rfl (by decide) ?_
  refine go_istore (pc' := 14) dX7_bestOf_12 rfl (by decide) rfl ?_
  refine go_iconst (pc' := 15) (-1) dX7_bestOf_14 rfl (by decide) ?_
  refine go_istore (pc' := 17) dX7_bestOf_15 rfl (by decide) rfl ?_
  refine go_iconst (pc' := 18) 0 dX7_bestOf_17 rfl (by decide) ?_
  refine go_istore (pc' := 20) dX7_bestOf_18 rfl (by decide) rfl ?_
  exact lbo_peg wf hp hc 6 0 0 (-1) g1 (by omega) h11 h1 (fun g' z1 z2 => k g' z1 (FM.tr (FM.b f1) z2))

set_option maxHeartbeats 4000000 in
set_option maxRecDepth 20000 in
theorem tX7_pegFor {sc : pg_Sc} {g : pg_S} {K : Int32 → pg_S → Prop} {T : TW} {n : Nat} {y c : Int32} (h : MR g 60 T n) (wf : WF T n) (k1 : ¬ (PP n y ∧ IN c 1 20) → K (-1) g) (k2 : PP n y → IN c 1 20 → ∀ g', MR g' 60 T n → FM g g' → K (bestF (tryF n (pn c) 3 (pn y) T) 6 0 0 (-1)) g') : pg_Cal sc 7 mX7_pegFor [.ref 59, .int y, .int c] g (pg_ki K) := by
  refine pg_Cal.of rfl (Nat.le_of_ble_eq_true rfl) rfl ?_
  have hn := wf.1
  refine go_aload_n (pc' := 1) dX7_pegFor_0 rfl rfl ?_
  refine go_iload_n (pc' := 2) dX7_pegFor_1 rfl rfl ?_
  refine go_cVi1 (pc' := 5) (M' := mX7_isOne) (d' := 2) dX7_pegFor_2 rfl cvRX7_220 rfl rfl (by decide) rfl (Nat.le_of_ble_eq_true rfl) ?_
  refine tX7_isOne h wf ?_
  refine go_if_eq (pc' := 8) (tgt := 29) dX7_pegFor_5 rfl (by decide) (fun h_5 => ?_) (fun h_5 => ?_)
  · have h_5 := pg_b0 h_5
    refine go_iconst (pc' := 30) (-1) dX7_pegFor_29 rfl (by decide) ?_
    refine go_iret dX7_pegFor_30 (pg_narI _) ?_
    exact k1 (fun q => h_5 q.1)
  · have h_5 := pg_b1 h_5
    obtain ⟨p, hp, rfl⟩ := pp_ex h_5
    have ep : pn (nI p) = p := nI_clamp (by omega)
    rw [ep] at k2
    refine go_iload_n (pc' := 9) dX7_pegFor_8 rfl rfl ?_
    refine go_iconst (pc' := 10) 1 dX7_pegFor_9 rfl (by decide) ?_
    refine go_bipush (pc' := 12) 20 dX7_pegFor_10 rfl (by decide) ?_
    refine go_cSi3 (pc' := 15) (M' := mX7_in) (d' := 1) dX7_pegFor_12 rfl csRX7_60 (by decide) rfl (Nat.le_of_ble_eq_true rfl) ?_
    refine tX7_in ?_
    refine go_if_eq (pc' := 18) (tgt := 29) dX7_pegFor_15 rfl (by decide) (fun h_15 => ?_) (fun h_15 => ?_)
    · have h_15 := pg_b0 h_15
      refine go_iconst (pc' := 30) (-1) dX7_pegFor_29 rfl (by decide) ?_
      refine go_iret dX7_pegFor_30 (pg_narI _) ?_
      exact k1 (fun q => h_15 q.2)
    · have h_15 := pg_b1 h_15
      obtain ⟨c, hca, hc, rfl⟩ := in_ex 1 20 rfl rfl (by decide) (by decide) h_15
      have ec : pn (nI c) = c := nI_clamp (by omega)
      rw [ec] at k2
      refine go_aload_n (pc' := 19) dX7_pegFor_18 rfl rfl ?_
      refine go_iload_n (pc' := 20) dX7_pegFor_19 rfl rfl ?_
      refine go_iconst (pc' := 21) 1 dX7_pegFor_20 rfl (by decide) ?_
      refine go_iload_n (pc' := 22) dX7_pegFor_21 rfl rfl ?_
      refine go_iconst (pc' := 23) 5 dX7_pegFor_22 rfl (by decide) ?_
      refine go_cVi4 (pc' := 26) (M' := mX7_bestOf) (d' := 6) dX7_pegFor_23 rfl cvRX7_283 rfl rfl (by decide) rfl (Nat.le_of_ble_eq_true rfl) ?_
      refine tX7_best_peg h wf hp (by omega) (fun g2 h2 f2 => ?_)
      refine go_goto (pc' := 30) dX7_pegFor_26 (by decide) ?_
      refine go_iret dX7_pegFor_30 (pg_narI _) ?_
      exact k2 h_5 h_15 _ h2 f2

set_option maxHeartbeats 4000000 in
set_option maxRecDepth 20000 in
theorem lch_kind {sc : pg_Sc} {K : Int32 → pg_S → Prop} {T : TW} {n p c : Nat} (wf : WF T n) (hp : p < n) (hc : c < 2 ^ 31) : ∀ (m : Nat) (i : Nat) (b x : Int32) (g : pg_S), i + m = 6 → CR g 1 T n → (∀ g', FR 10 19 g g' → K (bestF (tryF n c 2 p T) m i b x) g') → pg_Go sc 5 mX6_choiceFor 29 [(0, .ref 0), (1, .int (nI p)), (2, .int (nI c)), (3, .int 0), (4, .int 6), (5, .int b), (6, .int x), (7, .int (nI i))] [] g (pg_ki K) := by
  intro m
  induction m with
  | zero =>
    intro i b x g hi h k
    obtain rfl : i = 6 := by omega
    refine go_iload (pc' := 31) dX6_choiceFor_29 rfl rfl ?_
    refine go_iload (pc' := 33) dX6_choiceFor_31 rfl rfl ?_
    refine go_icmp_ge (pc' := 36) (tgt := 97) dX6_choiceFor_33 rfl (by decide) (fun h_33 => ?_) (fun h_33 => absurd (Int32.le_refl _) h_33)
    refine go_iload (pc' := 99) dX6_choiceFor_97 rfl rfl ?_
    refine go_iret dX6_choiceFor_99 (pg_narI _) ?_
    exact k _ FR.rf
  | succ m ih =>
    intro i b x g hi h k
    have hn := wf.1
    have hin : i < 6 := by omega
    simp only [bestF] at k
    refine go_iload (pc' := 31) dX6_choiceFor_29 rfl rfl ?_
    refine go_iload (pc' := 33) dX6_choiceFor_31 rfl rfl ?_
    refine go_icmp_ge (pc' := 36) (tgt := 97) dX6_choiceFor_33 rfl (by decide) (fun h_33 => absurd h_33 (nI_ge (b := 6) hin (by decide))) (fun h_33 => ?_)
    refine go_aload_n (pc' := 37) dX6_choiceFor_36 rfl rfl ?_
    refine go_getR (pc' := 40) dX6_choiceFor_37 rfl flRX6_16 rfl rfl ?_
    refine go_aload_n (pc' := 41) dX6_choiceFor_40 rfl rfl ?_
    refine go_getR (pc' := 44) dX6_choiceFor_41 rfl flRX6_10 rfl rfl ?_
    refine go_cVv1 (pc' := 47) (M' := mX5_become) (d' := 1) dX6_choiceFor_44 rfl cvRX6_87 rfl rfl (by decide) rfl (Nat.le_of_ble_eq_true rfl) ?_
    refine tX5_become_10_1 h hn (fun g1 h1 f1 => ?_)
    refine go_aload_n (pc' := 48) dX6_choiceFor_47 rfl rfl ?_
    refine go_getR (pc' := 51) dX6_choiceFor_48 rfl flRX6_16 rfl rfl ?_
    refine go_iload_n (pc' := 52) dX6_choiceFor_51 rfl rfl ?_
    refine go_iload_n (pc' := 53) dX6_choiceFor_52 rfl rfl ?_
    refine go_iload (pc' := 55) dX6_choiceFor_53 rfl rfl ?_
    refine go_cVv3 (pc' := 58) (M' := mX5_alter) (d' := 1) dX6_choiceFor_55 rfl cvRX6_314 rfl rfl (by decide) rfl (Nat.le_of_ble_eq_true rfl) ?_
    refine tX5_alter_0 h1 hn hp (fun g2 h2 f2 => ?_)
    refine go_aload_n (pc' := 59) dX6_choiceFor_58 rfl rfl ?_
    refine go_getR (pc' := 62) dX6_choiceFor_59 rfl flRX6_16 rfl rfl ?_
    refine go_iload_n (pc' := 63) dX6_choiceFor_62 rfl rfl ?_
    refine go_cVv1 (pc' := 66) (M' := mX5_spendHours) (d' := 4) dX6_choiceFor_63 rfl cvRX6_160 rfl rfl (by decide) rfl (Nat.le_of_ble_eq_true rfl) ?_
    have wf2 := wf.tu2 (i := p) (v := i) (by omega)
    refine tX5_spendHours_10 h2 wf2 hc (fun g3 h3 f3 => ?_)
    refine go_aload_n (pc' := 67) dX6_choiceFor_66 rfl rfl ?_
    refine go_getR (pc' := 70) dX6_choiceFor_67 rfl flRX6_16 rfl rfl ?_
    refine go_iload_n (pc' := 71) dX6_choiceFor_70 rfl rfl ?_
    refine go_cVi1 (pc' := 74) (M' := mX5_knownBy) (d' := 2) dX6_choiceFor_71 rfl cvRX6_317 rfl rfl (by decide) rfl (Nat.le_of_ble_eq_true rfl) ?_
    refine tX5_knownBy_10 h3 (WF.hours c wf2) hp ?_
    have f13 := FR.tr (FR.tr f1 f2) f3
    refine go_istore (pc' := 76) dX6_choiceFor_74 rfl (by decide) rfl ?_
    refine go_iload (pc' := 78) dX6_choiceFor_76 rfl rfl ?_
    refine go_iload (pc' := 80) dX6_choiceFor_78 rfl rfl ?_
    refine go_icmp_le (pc' := 83) (tgt := 91) dX6_choiceFor_80 rfl (by decide) (fun h_80 => ?_) (fun h_80 => ?_)
    · refine go_iinc (pc' := 94) _ dX6_choiceFor_91 rfl rfl (pg_inc _) (by decide) rfl ?_
      refine go_goto (pc' := 29) dX6_choiceFor_94 (by decide) ?_
      have h_80 : ¬ x < tryF n c 2 p T i := fun z => pg_lt_nle z h_80
      rw [if_neg h_80] at k
      refine go_sub [0, 1, 2, 3, 4, 5, 6, 7] rfl ?_
      exact ih (i + 1) _ _ _ (by omega) (h.fr f13 (by decide)) (fun g' z => k g' (FR.tr f13 z))
    · refine go_iload (pc' := 85) dX6_choiceFor_83 rfl rfl ?_
      refine go_istore (pc' := 87) dX6_choiceFor_85 rfl (by decide) rfl ?_
      refine go_iload (pc' := 89) dX6_choiceFor_87 rfl rfl ?_
      refine go_istore (pc' := 91) dX6_choiceFor_89 rfl (by decide) rfl ?_
      refine go_iinc (pc' := 94) _ dX6_choiceFor_91 rfl rfl (pg_inc _) (by decide) rfl ?_
      refine go_goto (pc' := 29) dX6_choiceFor_94 (by decide) ?_
      have h_80 : x < tryF n c 2 p T i := pg_nle_lt h_80
      rw [if_pos h_80] at k
      refine go_sub [0, 1, 2, 3, 4, 5, 6, 7] rfl ?_
      exact ih (i + 1) _ _ _ (by omega) (h.fr f13 (by decide)) (fun g' z => k g' (FR.tr f13 z))

set_option maxHeartbeats 4000000 in
set_option maxRecDepth 20000 in
theorem tX6_choice_kind {sc : pg_Sc} {g : pg_S} {K : Int32 → pg_S → Prop} {T : TW} {n : Nat} {y c : Int32} (h : CR g 1 T n) (wf : WF T n) (k1 : ¬ (PP n y ∧ IN c 1 20) → K (-1) g) (k2 : PP n y → IN c 1 20 → ∀ g', FR 10 19 g g' → K (bestF (tryF n (pn c) 2 (pn y) T) 6 0 0 (-1)) g') : pg_Cal sc 5 mX6_choiceFor [.ref 0, .int y, .int c, .int 0, .int 6] g (pg_ki K) := by
  refine pg_Cal.of rfl (Nat.le_of_ble_eq_true rfl) rfl ?_
  have hn := wf.1
  refine go_aload_n (pc' := 1) dX6_choiceFor_0 rfl rfl ?_
  refine go_iload_n (pc' := 2) dX6_choiceFor_1 rfl rfl ?_
  refine go_cVi1 (pc' := 5) (M' := mX6_isPerson) (d' := 1) dX6_choiceFor_2 rfl cvRX6_111 rfl rfl (by decide) rfl (Nat.le_of_ble_eq_true rfl) ?_
  refine tX6_isPerson h ?_
  refine go_if_eq (pc' := 8) (tgt := 18) dX6_choiceFor_5 rfl (by decide) (fun h_5 => ?_) (fun h_5 => ?_)
  · have h_5 := pg_b0 h_5
    refine go_iconst (pc' := 19) (-1) dX6_choiceFor_18 rfl (by decide) ?_
    refine go_iret dX6_choiceFor_19 (pg_narI _) ?_
    exact k1 (fun q => h_5 q.1)
  · have h_5 := pg_b1 h_5
    obtain ⟨p, hp, rfl⟩ := pp_ex h_5
    have ep : pn (nI p) = p := nI_clamp (by omega)
    rw [ep] at k2
    refine go_iload_n (pc' := 9) dX6_choiceFor_8 rfl rfl ?_
    refine go_iconst (pc' := 10) 1 dX6_choiceFor_9 rfl (by decide) ?_
    refine go_bipush (pc' := 12) 20 dX6_choiceFor_10 rfl (by decide) ?_
    refine go_cSi3 (pc' := 15) (M' := mX6_between) (d' := 1) dX6_choiceFor_12 rfl csRX6_65 (by decide) rfl (Nat.le_of_ble_eq_true rfl) ?_
    refine tX6_between ?_
    refine go_if_ne (pc' := 18) (tgt := 20) dX6_choiceFor_15 rfl (by decide) (fun h_15 => ?_) (fun h_15 => ?_)
    · have h_15 := pg_b1 h_15
      obtain ⟨c, hca, hc, rfl⟩ := in_ex 1 20 rfl rfl (by decide) (by decide) h_15
      have ec : pn (nI c) = c := nI_clamp (by omega)
      rw [ec] at k2
      refine go_iconst (pc' := 21) 0 dX6_choiceFor_20 rfl (by decide) ?_
      refine go_istore (pc' := 23) dX6_choiceFor_21 rfl (by decide) rfl ?_
      refine go_iconst (pc' := 24) (-1) dX6_choiceFor_23 rfl (by decide) ?_
      refine go_istore (pc' := 26) dX6_choiceFor_24 rfl (by decide) rfl ?_
      refine go_iconst (pc' := 27) 0 dX6_choiceFor_26 rfl (by decide) ?_
      refine go_istore (pc' := 29) dX6_choiceFor_27 rfl (by decide) rfl ?_
      exact lch_kind wf hp (by omega) 6 0 0 (-1) g (by omega) h (fun g' z => k2 h_5 h_15 g' z)
    · have h_15 := pg_b0 h_15
      refine go_iconst (pc' := 19) (-1) dX6_choiceFor_18 rfl (by decide) ?_
      refine go_iret dX6_choiceFor_19 (pg_narI _) ?_
      exact k1 (fun q => h_15 q.2)

set_option maxHeartbeats 4000000 in
set_option maxRecDepth 20000 in
theorem tX6_kindFor {sc : pg_Sc} {g : pg_S} {K : Int32 → pg_S → Prop} {T : TW} {n : Nat} {y c : Int32} (h : CR g 1 T n) (wf : WF T n) (k1 : ¬ (PP n y ∧ IN c 1 20) → K (-1) g) (k2 : PP n y → IN c 1 20 → ∀ g', FR 10 19 g g' → K (bestF (tryF n (pn c) 2 (pn y) T) 6 0 0 (-1)) g') : pg_Cal sc 6 mX6_kindFor [.ref 0, .int y, .int c] g (pg_ki K) := by
  refine pg_Cal.of rfl (Nat.le_of_ble_eq_true rfl) rfl ?_
  have hn := wf.1
  refine go_aload_n (pc' := 1) dX6_kindFor_0 rfl rfl ?_
  refine go_iload_n (pc' := 2) dX6_kindFor_1 rfl rfl ?_
  refine go_iload_n (pc' := 3) dX6_kindFor_2 rfl rfl ?_
  refine go_iconst (pc' := 4) 0 dX6_kindFor_3 rfl (by decide) ?_
  refine go_bipush (pc' := 6) 6 dX6_kindFor_4 rfl (by decide) ?_
  refine go_cVi4 (pc' := 9) (M' := mX6_choiceFor) (d' := 5) dX6_kindFor_6 rfl cvRX6_194 rfl rfl (by decide) rfl (Nat.le_of_ble_eq_true rfl) ?_
  refine tX6_choice_kind h wf (fun z => ?_) (fun z1 z2 g' f => ?_)
  · refine go_iret dX6_kindFor_9 (pg_narI _) ?_
    exact k1 z
  refine go_iret dX6_kindFor_9 (pg_narI _) ?_
  exact k2 z1 z2 _ f

set_option maxHeartbeats 4000000 in
set_option maxRecDepth 20000 in
theorem lbo_kind {sc : pg_Sc} {K : Int32 → pg_S → Prop} {T : TW} {n p c : Nat} (wf : WF T n) (hp : p < n) (hc : c < 2 ^ 31) : ∀ (m : Nat) (i : Nat) (b x : Int32) (g : pg_S), i + m = 6 → MR g 60 T n → MR g 63 T n → (∀ g', MR g' 60 T n → FM g g' → K (bestF (tryF n c 2 p T) m i b x) g') → pg_Go sc 6 mX7_bestOf 20 [(0, .ref 59), (1, .int (nI p)), (2, .int 0), (3, .int (nI c)), (4, .int 5), (5, .int b), (6, .int x), (7, .int (nI i))] [] g (pg_ki K) := by
  intro m
  induction m with
  | zero =>
    intro i b x g hi h h0 k
    obtain rfl : i = 6 := by omega
    refine go_iload (pc' := 22) dX7_bestOf_20 rfl rfl ?_
    refine go_iload (pc' := 24) dX7_bestOf_22 rfl rfl ?_
    refine go_icmp_gt (pc' := 27) (tgt := 85) dX7_bestOf_24 rfl (by decide) (fun h_24 => ?_) (fun h_24 => absurd (by decide) h_24)
    refine go_iload (pc' := 87) dX7_bestOf_85 rfl rfl ?_
    refine go_iret dX7_bestOf_87 (pg_narI _) ?_
    exact k _ h FM.rf
  | succ m ih =>
    intro i b x g hi h h0 k
    have hn := wf.1
    have hin : i < 6 := by omega
    simp only [bestF] at k
    refine go_iload (pc' := 22) dX7_bestOf_20 rfl rfl ?_
    refine go_iload (pc' := 24) dX7_bestOf_22 rfl rfl ?_
    refine go_icmp_gt (pc' := 27) (tgt := 85) dX7_bestOf_24 rfl (by decide) (fun h_24 => absurd h_24 (nI_nlt (a := 5) (by omega) (by decide))) (fun h_24 => ?_)
    refine go_aload_n (pc' := 28) dX7_bestOf_27 rfl rfl ?_
    refine go_iload_n (pc' := 29) dX7_bestOf_28 rfl rfl ?_
    refine go_iload_n (pc' := 30) dX7_bestOf_29 rfl rfl ?_
    refine go_iload (pc' := 32) dX7_bestOf_30 rfl rfl ?_
    refine go_cVv3 (pc' := 35) (M' := mX7_sets) (d' := 1) dX7_bestOf_32 rfl cvRX7_213 rfl rfl (by decide) rfl (Nat.le_of_ble_eq_true rfl) ?_
    refine tX7_sets (p := p) (q := 0) (by omega) (by decide) ?_
    refine go_gen (fun g2 e2 => ?_)
    have h2 : MR g2 60 (tu T 2 p (nI i)) n := by rw [e2]; exact h.put (a := 0) (by decide)
    have f2 : FR 60 61 g g2 := by rw [e2]; exact FR.ui (by decide)
    have wf2 := wf.tu2 (i := p) (v := i) (by omega)
    refine go_aload_n (pc' := 36) dX7_bestOf_35 rfl rfl ?_
    refine go_iload_n (pc' := 37) dX7_bestOf_36 rfl rfl ?_
    refine go_iload_n (pc' := 38) dX7_bestOf_37 rfl rfl ?_
    refine go_iconst (pc' := 39) 4 dX7_bestOf_38 rfl (by decide) ?_
    refine go_cVi3 (pc' := 42) (M' := mX7_behind) (d' := 5) dX7_bestOf_39 rfl cvRX7_279 rfl rfl (by decide) rfl (Nat.le_of_ble_eq_true rfl) ?_
    refine tX7_behind (q := 4) h2 (h0.fr f2 (by decide)) wf2 hp (by decide) hc (fun g3 h3 h30 f3 => ?_)
    obtain ⟨v, hv, ev⟩ := (WF.hours c wf2).knows' hp
    have ev2 : hoursF n c (tu T 2 p (nI i)) (2 + 4) p = nI v := ev
    rw [ev2]
    refine go_cSi1 (pc' := 45) (M' := mX7_ones) (d' := 1) dX7_bestOf_42 rfl csRX7_248 (by decide) rfl (Nat.le_of_ble_eq_true rfl) ?_
    refine tX7_ones (by omega) ?_
    have et : bcF (nI v) = tryF n c 2 p T i := by unfold tryF; rw [ev]
    rw [et]
    refine go_istore (pc' := 47) dX7_bestOf_45 rfl (by decide) rfl ?_
    refine go_iload (pc' := 49) dX7_bestOf_47 rfl rfl ?_
    refine go_iload (pc' := 51) dX7_bestOf_49 rfl rfl ?_
    refine go_icmp_le (pc' := 54) (tgt := 59) dX7_bestOf_51 rfl (by decide) (fun h_51 => ?_) (fun h_51 => ?_)
    · refine go_iload (pc' := 61) dX7_bestOf_59 rfl rfl ?_
      refine go_istore (pc' := 63) dX7_bestOf_61 rfl (by decide) rfl ?_
      refine go_iload (pc' := 65) dX7_bestOf_63 rfl rfl ?_
      refine go_iload (pc' := 67) dX7_bestOf_65 rfl rfl ?_
      refine go_icmp_le (pc' := 70) (tgt := 75) dX7_bestOf_67 rfl (by decide) (fun h_67 => ?_) (fun h_67 => ?_)
      · refine go_iload (pc' := 77) dX7_bestOf_75 rfl rfl ?_
        refine go_istore (pc' := 79) dX7_bestOf_77 rfl (by decide) rfl ?_
        refine go_iinc (pc' := 82) _ dX7_bestOf_79 rfl rfl (pg_inc _) (by decide) rfl ?_
        refine go_goto (pc' := 20) dX7_bestOf_82 (by decide) ?_
        rw [if_neg (fun z => pg_lt_nle z h_51)] at k
        refine go_sub [0, 1, 2, 3, 4, 5, 6, 7] rfl ?_
        exact ih (i + 1) _ _ _ (by omega) h3 h30 (fun g' z1 z2 => k g' z1 (FM.tr (FM.a (FR.tr f2 f3)) z2))
      · refine go_iload (pc' := 72) dX7_bestOf_70 rfl rfl ?_
        refine go_goto (pc' := 77) dX7_bestOf_72 (by decide) ?_
        refine go_istore (pc' := 79) dX7_bestOf_77 rfl (by decide) rfl ?_
        refine go_iinc (pc' := 82) _ dX7_bestOf_79 rfl rfl (pg_inc _) (by decide) rfl ?_
        refine go_goto (pc' := 20) dX7_bestOf_82 (by decide) ?_
        exact absurd h_51 h_67
    · refine go_iload (pc' := 56) dX7_bestOf_54 rfl rfl ?_
      refine go_goto (pc' := 61) dX7_bestOf_56 (by decide) ?_
      refine go_istore (pc' := 63) dX7_bestOf_61 rfl (by decide) rfl ?_
      refine go_iload (pc' := 65) dX7_bestOf_63 rfl rfl ?_
      refine go_iload (pc' := 67) dX7_bestOf_65 rfl rfl ?_
      refine go_icmp_le (pc' := 70) (tgt := 75) dX7_bestOf_67 rfl (by decide) (fun h_67 => ?_) (fun h_67 => ?_)
      · refine go_iload (pc' := 77) dX7_bestOf_75 rfl rfl ?_
        refine go_istore (pc' := 79) dX7_bestOf_77 rfl (by decide) rfl ?_
        refine go_iinc (pc' := 82) _ dX7_bestOf_79 rfl rfl (pg_inc _) (by decide) rfl ?_
        refine go_goto (pc' := 20) dX7_bestOf_82 (by decide) ?_
        exact absurd h_67 h_51
      · refine go_iload (pc' := 72) dX7_bestOf_70 rfl rfl ?_
        refine go_goto (pc' := 77) dX7_bestOf_72 (by decide) ?_
        refine go_istore (pc' := 79) dX7_bestOf_77 rfl (by decide) rfl ?_
        refine go_iinc (pc' := 82) _ dX7_bestOf_79 rfl rfl (pg_inc _) (by decide) rfl ?_
        refine go_goto (pc' := 20) dX7_bestOf_82 (by decide) ?_
        rw [if_pos (pg_nle_lt h_51)] at k
        refine go_sub [0, 1, 2, 3, 4, 5, 6, 7] rfl ?_
        exact ih (i + 1) _ _ _ (by omega) h3 h30 (fun g' z1 z2 => k g' z1 (FM.tr (FM.a (FR.tr f2 f3)) z2))

set_option maxHeartbeats 4000000 in
set_option maxRecDepth 20000 in
theorem tX7_best_kind {sc : pg_Sc} {g : pg_S} {K : Int32 → pg_S → Prop} {T : TW} {n p c : Nat} (h : MR g 60 T n) (wf : WF T n) (hp : p < n) (hc : c < 2 ^ 31) (k : ∀ g', MR g' 60 T n → FM g g' → K (bestF (tryF n c 2 p T) 6 0 0 (-1)) g') : pg_Cal sc 6 mX7_bestOf [.ref 59, .int (nI p), .int 0, .int (nI c), .int 5] g (pg_ki K) := by
  refine pg_Cal.of rfl (Nat.le_of_ble_eq_true rfl) rfl ?_
  refine go_aload_n (pc' := 1) dX7_bestOf_0 rfl rfl ?_
  refine go_getR (pc' := 4) dX7_bestOf_1 rfl flRX7_7 rfl rfl ?_
  refine go_aload_n (pc' := 5) dX7_bestOf_4 rfl rfl ?_
  refine go_getR (pc' := 8) dX7_bestOf_5 rfl flRX7_19 rfl rfl ?_
  refine go_cSv2 (pc' := 11) (M' := mX7_moveAll) (d' := 1) dX7_bestOf_8 rfl csRX7_193 (by decide) rfl (Nat.le_of_ble_eq_true rfl) ?_
  have hn := wf.1
  refine tX7_mv_60_63 h hn (fun g1 h1 f1 => ?_)
  have h11 := h.fr f1 (by decide)
  refine go_iconst (pc' := 12) 0 dX7_bestOf_11 rfl (by decide) ?_
  refine go_istore (pc' := 14) dX7_bestOf_12 rfl (by decide) rfl ?_
  refine go_iconst (pc' := 15) (-1) dX7_bestOf_14 rfl (by decide) ?_
  refine go_istore (pc' := 17) dX7_bestOf_15 rfl (by decide) rfl ?_
  refine go_iconst (pc' := 18) 0 dX7_bestOf_17 rfl (by decide) ?_
  refine go_istore (pc' := 20) dX7_bestOf_18 rfl (by decide) rfl ?_
  exact lbo_kind wf hp hc 6 0 0 (-1) g1 (by omega) h11 h1 (fun g' z1 z2 => k g' z1 (FM.tr (FM.b f1) z2))

set_option maxHeartbeats 4000000 in
set_option maxRecDepth 20000 in
theorem tX7_kindFor {sc : pg_Sc} {g : pg_S} {K : Int32 → pg_S → Prop} {T : TW} {n : Nat} {y c : Int32} (h : MR g 60 T n) (wf : WF T n) (k1 : ¬ (PP n y ∧ IN c 1 20) → K (-1) g) (k2 : PP n y → IN c 1 20 → ∀ g', MR g' 60 T n → FM g g' → K (bestF (tryF n (pn c) 2 (pn y) T) 6 0 0 (-1)) g') : pg_Cal sc 7 mX7_kindFor [.ref 59, .int y, .int c] g (pg_ki K) := by
  refine pg_Cal.of rfl (Nat.le_of_ble_eq_true rfl) rfl ?_
  have hn := wf.1
  refine go_aload_n (pc' := 1) dX7_kindFor_0 rfl rfl ?_
  refine go_iload_n (pc' := 2) dX7_kindFor_1 rfl rfl ?_
  refine go_cVi1 (pc' := 5) (M' := mX7_isOne) (d' := 2) dX7_kindFor_2 rfl cvRX7_220 rfl rfl (by decide) rfl (Nat.le_of_ble_eq_true rfl) ?_
  refine tX7_isOne h wf ?_
  refine go_if_eq (pc' := 8) (tgt := 29) dX7_kindFor_5 rfl (by decide) (fun h_5 => ?_) (fun h_5 => ?_)
  · have h_5 := pg_b0 h_5
    refine go_iconst (pc' := 30) (-1) dX7_kindFor_29 rfl (by decide) ?_
    refine go_iret dX7_kindFor_30 (pg_narI _) ?_
    exact k1 (fun q => h_5 q.1)
  · have h_5 := pg_b1 h_5
    obtain ⟨p, hp, rfl⟩ := pp_ex h_5
    have ep : pn (nI p) = p := nI_clamp (by omega)
    rw [ep] at k2
    refine go_iload_n (pc' := 9) dX7_kindFor_8 rfl rfl ?_
    refine go_iconst (pc' := 10) 1 dX7_kindFor_9 rfl (by decide) ?_
    refine go_bipush (pc' := 12) 20 dX7_kindFor_10 rfl (by decide) ?_
    refine go_cSi3 (pc' := 15) (M' := mX7_in) (d' := 1) dX7_kindFor_12 rfl csRX7_60 (by decide) rfl (Nat.le_of_ble_eq_true rfl) ?_
    refine tX7_in ?_
    refine go_if_eq (pc' := 18) (tgt := 29) dX7_kindFor_15 rfl (by decide) (fun h_15 => ?_) (fun h_15 => ?_)
    · have h_15 := pg_b0 h_15
      refine go_iconst (pc' := 30) (-1) dX7_kindFor_29 rfl (by decide) ?_
      refine go_iret dX7_kindFor_30 (pg_narI _) ?_
      exact k1 (fun q => h_15 q.2)
    · have h_15 := pg_b1 h_15
      obtain ⟨c, hca, hc, rfl⟩ := in_ex 1 20 rfl rfl (by decide) (by decide) h_15
      have ec : pn (nI c) = c := nI_clamp (by omega)
      rw [ec] at k2
      refine go_aload_n (pc' := 19) dX7_kindFor_18 rfl rfl ?_
      refine go_iload_n (pc' := 20) dX7_kindFor_19 rfl rfl ?_
      refine go_iconst (pc' := 21) 0 dX7_kindFor_20 rfl (by decide) ?_
      refine go_iload_n (pc' := 22) dX7_kindFor_21 rfl rfl ?_
      refine go_iconst (pc' := 23) 5 dX7_kindFor_22 rfl (by decide) ?_
      refine go_cVi4 (pc' := 26) (M' := mX7_bestOf) (d' := 6) dX7_kindFor_23 rfl cvRX7_283 rfl rfl (by decide) rfl (Nat.le_of_ble_eq_true rfl) ?_
      refine tX7_best_kind h wf hp (by omega) (fun g2 h2 f2 => ?_)
      refine go_goto (pc' := 30) dX7_kindFor_26 (by decide) ?_
      refine go_iret dX7_kindFor_30 (pg_narI _) ?_
      exact k2 h_5 h_15 _ h2 f2

set_option maxHeartbeats 4000000 in
set_option maxRecDepth 20000 in
theorem lch_place {sc : pg_Sc} {K : Int32 → pg_S → Prop} {T : TW} {n p c : Nat} (wf : WF T n) (hp : p < n) (hc : c < 2 ^ 31) : ∀ (m : Nat) (i : Nat) (b x : Int32) (g : pg_S), i + m = 12 → CR g 1 T n → (∀ g', FR 10 19 g g' → K (bestF (tryF n c 5 p T) m i b x) g') → pg_Go sc 5 mX6_choiceFor 29 [(0, .ref 0), (1, .int (nI p)), (2, .int (nI c)), (3, .int 2), (4, .int 12), (5, .int b), (6, .int x), (7, .int (nI i))] [] g (pg_ki K) := by
  intro m
  induction m with
  | zero =>
    intro i b x g hi h k
    obtain rfl : i = 12 := by omega
    refine go_iload (pc' := 31) dX6_choiceFor_29 rfl rfl ?_
    refine go_iload (pc' := 33) dX6_choiceFor_31 rfl rfl ?_
    refine go_icmp_ge (pc' := 36) (tgt := 97) dX6_choiceFor_33 rfl (by decide) (fun h_33 => ?_) (fun h_33 => absurd (Int32.le_refl _) h_33)
    refine go_iload (pc' := 99) dX6_choiceFor_97 rfl rfl ?_
    refine go_iret dX6_choiceFor_99 (pg_narI _) ?_
    exact k _ FR.rf
  | succ m ih =>
    intro i b x g hi h k
    have hn := wf.1
    have hin : i < 12 := by omega
    simp only [bestF] at k
    refine go_iload (pc' := 31) dX6_choiceFor_29 rfl rfl ?_
    refine go_iload (pc' := 33) dX6_choiceFor_31 rfl rfl ?_
    refine go_icmp_ge (pc' := 36) (tgt := 97) dX6_choiceFor_33 rfl (by decide) (fun h_33 => absurd h_33 (nI_ge (b := 12) hin (by decide))) (fun h_33 => ?_)
    refine go_aload_n (pc' := 37) dX6_choiceFor_36 rfl rfl ?_
    refine go_getR (pc' := 40) dX6_choiceFor_37 rfl flRX6_16 rfl rfl ?_
    refine go_aload_n (pc' := 41) dX6_choiceFor_40 rfl rfl ?_
    refine go_getR (pc' := 44) dX6_choiceFor_41 rfl flRX6_10 rfl rfl ?_
    refine go_cVv1 (pc' := 47) (M' := mX5_become) (d' := 1) dX6_choiceFor_44 rfl cvRX6_87 rfl rfl (by decide) rfl (Nat.le_of_ble_eq_true rfl) ?_
    refine tX5_become_10_1 h hn (fun g1 h1 f1 => ?_)
    refine go_aload_n (pc' := 48) dX6_choiceFor_47 rfl rfl ?_
    refine go_getR (pc' := 51) dX6_choiceFor_48 rfl flRX6_16 rfl rfl ?_
    refine go_iload_n (pc' := 52) dX6_choiceFor_51 rfl rfl ?_
    refine go_iload_n (pc' := 53) dX6_choiceFor_52 rfl rfl ?_
    refine go_iload (pc' := 55) dX6_choiceFor_53 rfl rfl ?_
    refine go_cVv3 (pc' := 58) (M' := mX5_alter) (d' := 1) dX6_choiceFor_55 rfl cvRX6_314 rfl rfl (by decide) rfl (Nat.le_of_ble_eq_true rfl) ?_
    refine tX5_alter_2 h1 hn hp (fun g2 h2 f2 => ?_)
    refine go_aload_n (pc' := 59) dX6_choiceFor_58 rfl rfl ?_
    refine go_getR (pc' := 62) dX6_choiceFor_59 rfl flRX6_16 rfl rfl ?_
    refine go_iload_n (pc' := 63) dX6_choiceFor_62 rfl rfl ?_
    refine go_cVv1 (pc' := 66) (M' := mX5_spendHours) (d' := 4) dX6_choiceFor_63 rfl cvRX6_160 rfl rfl (by decide) rfl (Nat.le_of_ble_eq_true rfl) ?_
    have wf2 := wf.tu5 (i := p) (v := i) (by omega)
    refine tX5_spendHours_10 h2 wf2 hc (fun g3 h3 f3 => ?_)
    refine go_aload_n (pc' := 67) dX6_choiceFor_66 rfl rfl ?_
    refine go_getR (pc' := 70) dX6_choiceFor_67 rfl flRX6_16 rfl rfl ?_
    refine go_iload_n (pc' := 71) dX6_choiceFor_70 rfl rfl ?_
    refine go_cVi1 (pc' := 74) (M' := mX5_knownBy) (d' := 2) dX6_choiceFor_71 rfl cvRX6_317 rfl rfl (by decide) rfl (Nat.le_of_ble_eq_true rfl) ?_
    refine tX5_knownBy_10 h3 (WF.hours c wf2) hp ?_
    have f13 := FR.tr (FR.tr f1 f2) f3
    refine go_istore (pc' := 76) dX6_choiceFor_74 rfl (by decide) rfl ?_
    refine go_iload (pc' := 78) dX6_choiceFor_76 rfl rfl ?_
    refine go_iload (pc' := 80) dX6_choiceFor_78 rfl rfl ?_
    refine go_icmp_le (pc' := 83) (tgt := 91) dX6_choiceFor_80 rfl (by decide) (fun h_80 => ?_) (fun h_80 => ?_)
    · refine go_iinc (pc' := 94) _ dX6_choiceFor_91 rfl rfl (pg_inc _) (by decide) rfl ?_
      refine go_goto (pc' := 29) dX6_choiceFor_94 (by decide) ?_
      have h_80 : ¬ x < tryF n c 5 p T i := fun z => pg_lt_nle z h_80
      rw [if_neg h_80] at k
      refine go_sub [0, 1, 2, 3, 4, 5, 6, 7] rfl ?_
      exact ih (i + 1) _ _ _ (by omega) (h.fr f13 (by decide)) (fun g' z => k g' (FR.tr f13 z))
    · refine go_iload (pc' := 85) dX6_choiceFor_83 rfl rfl ?_
      refine go_istore (pc' := 87) dX6_choiceFor_85 rfl (by decide) rfl ?_
      refine go_iload (pc' := 89) dX6_choiceFor_87 rfl rfl ?_
      refine go_istore (pc' := 91) dX6_choiceFor_89 rfl (by decide) rfl ?_
      refine go_iinc (pc' := 94) _ dX6_choiceFor_91 rfl rfl (pg_inc _) (by decide) rfl ?_
      refine go_goto (pc' := 29) dX6_choiceFor_94 (by decide) ?_
      have h_80 : x < tryF n c 5 p T i := pg_nle_lt h_80
      rw [if_pos h_80] at k
      refine go_sub [0, 1, 2, 3, 4, 5, 6, 7] rfl ?_
      exact ih (i + 1) _ _ _ (by omega) (h.fr f13 (by decide)) (fun g' z => k g' (FR.tr f13 z))

set_option maxHeartbeats 4000000 in
set_option maxRecDepth 20000 in
theorem tX6_choice_place {sc : pg_Sc} {g : pg_S} {K : Int32 → pg_S → Prop} {T : TW} {n : Nat} {y c : Int32} (h : CR g 1 T n) (wf : WF T n) (k1 : ¬ (PP n y ∧ IN c 1 20) → K (-1) g) (k2 : PP n y → IN c 1 20 → ∀ g', FR 10 19 g g' → K (bestF (tryF n (pn c) 5 (pn y) T) 12 0 0 (-1)) g') : pg_Cal sc 5 mX6_choiceFor [.ref 0, .int y, .int c, .int 2, .int 12] g (pg_ki K) := by
  refine pg_Cal.of rfl (Nat.le_of_ble_eq_true rfl) rfl ?_
  have hn := wf.1
  refine go_aload_n (pc' := 1) dX6_choiceFor_0 rfl rfl ?_
  refine go_iload_n (pc' := 2) dX6_choiceFor_1 rfl rfl ?_
  refine go_cVi1 (pc' := 5) (M' := mX6_isPerson) (d' := 1) dX6_choiceFor_2 rfl cvRX6_111 rfl rfl (by decide) rfl (Nat.le_of_ble_eq_true rfl) ?_
  refine tX6_isPerson h ?_
  refine go_if_eq (pc' := 8) (tgt := 18) dX6_choiceFor_5 rfl (by decide) (fun h_5 => ?_) (fun h_5 => ?_)
  · have h_5 := pg_b0 h_5
    refine go_iconst (pc' := 19) (-1) dX6_choiceFor_18 rfl (by decide) ?_
    refine go_iret dX6_choiceFor_19 (pg_narI _) ?_
    exact k1 (fun q => h_5 q.1)
  · have h_5 := pg_b1 h_5
    obtain ⟨p, hp, rfl⟩ := pp_ex h_5
    have ep : pn (nI p) = p := nI_clamp (by omega)
    rw [ep] at k2
    refine go_iload_n (pc' := 9) dX6_choiceFor_8 rfl rfl ?_
    refine go_iconst (pc' := 10) 1 dX6_choiceFor_9 rfl (by decide) ?_
    refine go_bipush (pc' := 12) 20 dX6_choiceFor_10 rfl (by decide) ?_
    refine go_cSi3 (pc' := 15) (M' := mX6_between) (d' := 1) dX6_choiceFor_12 rfl csRX6_65 (by decide) rfl (Nat.le_of_ble_eq_true rfl) ?_
    refine tX6_between ?_
    refine go_if_ne (pc' := 18) (tgt := 20) dX6_choiceFor_15 rfl (by decide) (fun h_15 => ?_) (fun h_15 => ?_)
    · have h_15 := pg_b1 h_15
      obtain ⟨c, hca, hc, rfl⟩ := in_ex 1 20 rfl rfl (by decide) (by decide) h_15
      have ec : pn (nI c) = c := nI_clamp (by omega)
      rw [ec] at k2
      refine go_iconst (pc' := 21) 0 dX6_choiceFor_20 rfl (by decide) ?_
      refine go_istore (pc' := 23) dX6_choiceFor_21 rfl (by decide) rfl ?_
      refine go_iconst (pc' := 24) (-1) dX6_choiceFor_23 rfl (by decide) ?_
      refine go_istore (pc' := 26) dX6_choiceFor_24 rfl (by decide) rfl ?_
      refine go_iconst (pc' := 27) 0 dX6_choiceFor_26 rfl (by decide) ?_
      refine go_istore (pc' := 29) dX6_choiceFor_27 rfl (by decide) rfl ?_
      exact lch_place wf hp (by omega) 12 0 0 (-1) g (by omega) h (fun g' z => k2 h_5 h_15 g' z)
    · have h_15 := pg_b0 h_15
      refine go_iconst (pc' := 19) (-1) dX6_choiceFor_18 rfl (by decide) ?_
      refine go_iret dX6_choiceFor_19 (pg_narI _) ?_
      exact k1 (fun q => h_15 q.2)

set_option maxHeartbeats 4000000 in
set_option maxRecDepth 20000 in
theorem tX6_placeFor {sc : pg_Sc} {g : pg_S} {K : Int32 → pg_S → Prop} {T : TW} {n : Nat} {y c : Int32} (h : CR g 1 T n) (wf : WF T n) (k1 : ¬ (PP n y ∧ IN c 1 20) → K (-1) g) (k2 : PP n y → IN c 1 20 → ∀ g', FR 10 19 g g' → K (bestF (tryF n (pn c) 5 (pn y) T) 12 0 0 (-1)) g') : pg_Cal sc 6 mX6_placeFor [.ref 0, .int y, .int c] g (pg_ki K) := by
  refine pg_Cal.of rfl (Nat.le_of_ble_eq_true rfl) rfl ?_
  have hn := wf.1
  refine go_aload_n (pc' := 1) dX6_placeFor_0 rfl rfl ?_
  refine go_iload_n (pc' := 2) dX6_placeFor_1 rfl rfl ?_
  refine go_iload_n (pc' := 3) dX6_placeFor_2 rfl rfl ?_
  refine go_iconst (pc' := 4) 2 dX6_placeFor_3 rfl (by decide) ?_
  refine go_bipush (pc' := 6) 12 dX6_placeFor_4 rfl (by decide) ?_
  refine go_cVi4 (pc' := 9) (M' := mX6_choiceFor) (d' := 5) dX6_placeFor_6 rfl cvRX6_194 rfl rfl (by decide) rfl (Nat.le_of_ble_eq_true rfl) ?_
  refine tX6_choice_place h wf (fun z => ?_) (fun z1 z2 g' f => ?_)
  · refine go_iret dX6_placeFor_9 (pg_narI _) ?_
    exact k1 z
  refine go_iret dX6_placeFor_9 (pg_narI _) ?_
  exact k2 z1 z2 _ f

set_option maxHeartbeats 4000000 in
set_option maxRecDepth 20000 in
theorem lbo_place {sc : pg_Sc} {K : Int32 → pg_S → Prop} {T : TW} {n p c : Nat} (wf : WF T n) (hp : p < n) (hc : c < 2 ^ 31) : ∀ (m : Nat) (i : Nat) (b x : Int32) (g : pg_S), i + m = 12 → MR g 60 T n → MR g 63 T n → (∀ g', MR g' 60 T n → FM g g' → K (bestF (tryF n c 5 p T) m i b x) g') → pg_Go sc 6 mX7_bestOf 20 [(0, .ref 59), (1, .int (nI p)), (2, .int 3), (3, .int (nI c)), (4, .int 11), (5, .int b), (6, .int x), (7, .int (nI i))] [] g (pg_ki K) := by
  intro m
  induction m with
  | zero =>
    intro i b x g hi h h0 k
    obtain rfl : i = 12 := by omega
    refine go_iload (pc' := 22) dX7_bestOf_20 rfl rfl ?_
    refine go_iload (pc' := 24) dX7_bestOf_22 rfl rfl ?_
    refine go_icmp_gt (pc' := 27) (tgt := 85) dX7_bestOf_24 rfl (by decide) (fun h_24 => ?_) (fun h_24 => absurd (by decide) h_24)
    refine go_iload (pc' := 87) dX7_bestOf_85 rfl rfl ?_
    refine go_iret dX7_bestOf_87 (pg_narI _) ?_
    exact k _ h FM.rf
  | succ m ih =>
    intro i b x g hi h h0 k
    have hn := wf.1
    have hin : i < 12 := by omega
    simp only [bestF] at k
    refine go_iload (pc' := 22) dX7_bestOf_20 rfl rfl ?_
    refine go_iload (pc' := 24) dX7_bestOf_22 rfl rfl ?_
    refine go_icmp_gt (pc' := 27) (tgt := 85) dX7_bestOf_24 rfl (by decide) (fun h_24 => absurd h_24 (nI_nlt (a := 11) (by omega) (by decide))) (fun h_24 => ?_)
    refine go_aload_n (pc' := 28) dX7_bestOf_27 rfl rfl ?_
    refine go_iload_n (pc' := 29) dX7_bestOf_28 rfl rfl ?_
    refine go_iload_n (pc' := 30) dX7_bestOf_29 rfl rfl ?_
    refine go_iload (pc' := 32) dX7_bestOf_30 rfl rfl ?_
    refine go_cVv3 (pc' := 35) (M' := mX7_sets) (d' := 1) dX7_bestOf_32 rfl cvRX7_213 rfl rfl (by decide) rfl (Nat.le_of_ble_eq_true rfl) ?_
    refine tX7_sets (p := p) (q := 3) (by omega) (by decide) ?_
    refine go_gen (fun g2 e2 => ?_)
    have h2 : MR g2 60 (tu T 5 p (nI i)) n := by rw [e2]; exact h.put (a := 3) (by decide)
    have f2 : FR 60 61 g g2 := by rw [e2]; exact FR.ui (by decide)
    have wf2 := wf.tu5 (i := p) (v := i) (by omega)
    refine go_aload_n (pc' := 36) dX7_bestOf_35 rfl rfl ?_
    refine go_iload_n (pc' := 37) dX7_bestOf_36 rfl rfl ?_
    refine go_iload_n (pc' := 38) dX7_bestOf_37 rfl rfl ?_
    refine go_iconst (pc' := 39) 4 dX7_bestOf_38 rfl (by decide) ?_
    refine go_cVi3 (pc' := 42) (M' := mX7_behind) (d' := 5) dX7_bestOf_39 rfl cvRX7_279 rfl rfl (by decide) rfl (Nat.le_of_ble_eq_true rfl) ?_
    refine tX7_behind (q := 4) h2 (h0.fr f2 (by decide)) wf2 hp (by decide) hc (fun g3 h3 h30 f3 => ?_)
    obtain ⟨v, hv, ev⟩ := (WF.hours c wf2).knows' hp
    have ev2 : hoursF n c (tu T 5 p (nI i)) (2 + 4) p = nI v := ev
    rw [ev2]
    refine go_cSi1 (pc' := 45) (M' := mX7_ones) (d' := 1) dX7_bestOf_42 rfl csRX7_248 (by decide) rfl (Nat.le_of_ble_eq_true rfl) ?_
    refine tX7_ones (by omega) ?_
    have et : bcF (nI v) = tryF n c 5 p T i := by unfold tryF; rw [ev]
    rw [et]
    refine go_istore (pc' := 47) dX7_bestOf_45 rfl (by decide) rfl ?_
    refine go_iload (pc' := 49) dX7_bestOf_47 rfl rfl ?_
    refine go_iload (pc' := 51) dX7_bestOf_49 rfl rfl ?_
    refine go_icmp_le (pc' := 54) (tgt := 59) dX7_bestOf_51 rfl (by decide) (fun h_51 => ?_) (fun h_51 => ?_)
    · refine go_iload (pc' := 61) dX7_bestOf_59 rfl rfl ?_
      refine go_istore (pc' := 63) dX7_bestOf_61 rfl (by decide) rfl ?_
      refine go_iload (pc' := 65) dX7_bestOf_63 rfl rfl ?_
      refine go_iload (pc' := 67) dX7_bestOf_65 rfl rfl ?_
      refine go_icmp_le (pc' := 70) (tgt := 75) dX7_bestOf_67 rfl (by decide) (fun h_67 => ?_) (fun h_67 => ?_)
      · refine go_iload (pc' := 77) dX7_bestOf_75 rfl rfl ?_
        refine go_istore (pc' := 79) dX7_bestOf_77 rfl (by decide) rfl ?_
        refine go_iinc (pc' := 82) _ dX7_bestOf_79 rfl rfl (pg_inc _) (by decide) rfl ?_
        refine go_goto (pc' := 20) dX7_bestOf_82 (by decide) ?_
        rw [if_neg (fun z => pg_lt_nle z h_51)] at k
        refine go_sub [0, 1, 2, 3, 4, 5, 6, 7] rfl ?_
        exact ih (i + 1) _ _ _ (by omega) h3 h30 (fun g' z1 z2 => k g' z1 (FM.tr (FM.a (FR.tr f2 f3)) z2))
      · refine go_iload (pc' := 72) dX7_bestOf_70 rfl rfl ?_
        refine go_goto (pc' := 77) dX7_bestOf_72 (by decide) ?_
        refine go_istore (pc' := 79) dX7_bestOf_77 rfl (by decide) rfl ?_
        refine go_iinc (pc' := 82) _ dX7_bestOf_79 rfl rfl (pg_inc _) (by decide) rfl ?_
        refine go_goto (pc' := 20) dX7_bestOf_82 (by decide) ?_
        exact absurd h_51 h_67
    · refine go_iload (pc' := 56) dX7_bestOf_54 rfl rfl ?_
      refine go_goto (pc' := 61) dX7_bestOf_56 (by decide) ?_
      refine go_istore (pc' := 63) dX7_bestOf_61 rfl (by decide) rfl ?_
      refine go_iload (pc' := 65) dX7_bestOf_63 rfl rfl ?_
      refine go_iload (pc' := 67) dX7_bestOf_65 rfl rfl ?_
      refine go_icmp_le (pc' := 70) (tgt := 75) dX7_bestOf_67 rfl (by decide) (fun h_67 => ?_) (fun h_67 => ?_)
      · refine go_iload (pc' := 77) dX7_bestOf_75 rfl rfl ?_
        refine go_istore (pc' := 79) dX7_bestOf_77 rfl (by decide) rfl ?_
        refine go_iinc (pc' := 82) _ dX7_bestOf_79 rfl rfl (pg_inc _) (by decide) rfl ?_
        refine go_goto (pc' := 20) dX7_bestOf_82 (by decide) ?_
        exact absurd h_67 h_51
      · refine go_iload (pc' := 72) dX7_bestOf_70 rfl rfl ?_
        refine go_goto (pc' := 77) dX7_bestOf_72 (by decide) ?_
        refine go_istore (pc' := 79) dX7_bestOf_77 rfl (by decide) rfl ?_
        refine go_iinc (pc' := 82) _ dX7_bestOf_79 rfl rfl (pg_inc _) (by decide) rfl ?_
        refine go_goto (pc' := 20) dX7_bestOf_82 (by decide) ?_
        rw [if_pos (pg_nle_lt h_51)] at k
        refine go_sub [0, 1, 2, 3, 4, 5, 6, 7] rfl ?_
        exact ih (i + 1) _ _ _ (by omega) h3 h30 (fun g' z1 z2 => k g' z1 (FM.tr (FM.a (FR.tr f2 f3)) z2))

set_option maxHeartbeats 4000000 in
set_option maxRecDepth 20000 in
theorem tX7_best_place {sc : pg_Sc} {g : pg_S} {K : Int32 → pg_S → Prop} {T : TW} {n p c : Nat} (h : MR g 60 T n) (wf : WF T n) (hp : p < n) (hc : c < 2 ^ 31) (k : ∀ g', MR g' 60 T n → FM g g' → K (bestF (tryF n c 5 p T) 12 0 0 (-1)) g') : pg_Cal sc 6 mX7_bestOf [.ref 59, .int (nI p), .int 3, .int (nI c), .int 11] g (pg_ki K) := by
  refine pg_Cal.of rfl (Nat.le_of_ble_eq_true rfl) rfl ?_
  refine go_aload_n (pc' := 1) dX7_bestOf_0 rfl rfl ?_
  refine go_getR (pc' := 4) dX7_bestOf_1 rfl flRX7_7 rfl rfl ?_
  refine go_aload_n (pc' := 5) dX7_bestOf_4 rfl rfl ?_
  refine go_getR (pc' := 8) dX7_bestOf_5 rfl flRX7_19 rfl rfl ?_
  refine go_cSv2 (pc' := 11) (M' := mX7_moveAll) (d' := 1) dX7_bestOf_8 rfl csRX7_193 (by decide) rfl (Nat.le_of_ble_eq_true rfl) ?_
  have hn := wf.1
  refine tX7_mv_60_63 h hn (fun g1 h1 f1 => ?_)
  have h11 := h.fr f1 (by decide)
  refine go_iconst (pc' := 12) 0 dX7_bestOf_11 rfl (by decide) ?_
  refine go_istore (pc' := 14) dX7_bestOf_12 rfl (by decide) rfl ?_
  refine go_iconst (pc' := 15) (-1) dX7_bestOf_14 rfl (by decide) ?_
  refine go_istore (pc' := 17) dX7_bestOf_15 rfl (by decide) rfl ?_
  refine go_iconst (pc' := 18) 0 dX7_bestOf_17 rfl (by decide) ?_
  refine go_istore (pc' := 20) dX7_bestOf_18 rfl (by decide) rfl ?_
  exact lbo_place wf hp hc 12 0 0 (-1) g1 (by omega) h11 h1 (fun g' z1 z2 => k g' z1 (FM.tr (FM.b f1) z2))

set_option maxHeartbeats 4000000 in
set_option maxRecDepth 20000 in
theorem tX7_placeFor {sc : pg_Sc} {g : pg_S} {K : Int32 → pg_S → Prop} {T : TW} {n : Nat} {y c : Int32} (h : MR g 60 T n) (wf : WF T n) (k1 : ¬ (PP n y ∧ IN c 1 20) → K (-1) g) (k2 : PP n y → IN c 1 20 → ∀ g', MR g' 60 T n → FM g g' → K (bestF (tryF n (pn c) 5 (pn y) T) 12 0 0 (-1)) g') : pg_Cal sc 7 mX7_placeFor [.ref 59, .int y, .int c] g (pg_ki K) := by
  refine pg_Cal.of rfl (Nat.le_of_ble_eq_true rfl) rfl ?_
  have hn := wf.1
  refine go_aload_n (pc' := 1) dX7_placeFor_0 rfl rfl ?_
  refine go_iload_n (pc' := 2) dX7_placeFor_1 rfl rfl ?_
  refine go_cVi1 (pc' := 5) (M' := mX7_isOne) (d' := 2) dX7_placeFor_2 rfl cvRX7_220 rfl rfl (by decide) rfl (Nat.le_of_ble_eq_true rfl) ?_
  refine tX7_isOne h wf ?_
  refine go_if_eq (pc' := 8) (tgt := 30) dX7_placeFor_5 rfl (by decide) (fun h_5 => ?_) (fun h_5 => ?_)
  · have h_5 := pg_b0 h_5
    refine go_iconst (pc' := 31) (-1) dX7_placeFor_30 rfl (by decide) ?_
    refine go_iret dX7_placeFor_31 (pg_narI _) ?_
    exact k1 (fun q => h_5 q.1)
  · have h_5 := pg_b1 h_5
    obtain ⟨p, hp, rfl⟩ := pp_ex h_5
    have ep : pn (nI p) = p := nI_clamp (by omega)
    rw [ep] at k2
    refine go_iload_n (pc' := 9) dX7_placeFor_8 rfl rfl ?_
    refine go_iconst (pc' := 10) 1 dX7_placeFor_9 rfl (by decide) ?_
    refine go_bipush (pc' := 12) 20 dX7_placeFor_10 rfl (by decide) ?_
    refine go_cSi3 (pc' := 15) (M' := mX7_in) (d' := 1) dX7_placeFor_12 rfl csRX7_60 (by decide) rfl (Nat.le_of_ble_eq_true rfl) ?_
    refine tX7_in ?_
    refine go_if_eq (pc' := 18) (tgt := 30) dX7_placeFor_15 rfl (by decide) (fun h_15 => ?_) (fun h_15 => ?_)
    · have h_15 := pg_b0 h_15
      refine go_iconst (pc' := 31) (-1) dX7_placeFor_30 rfl (by decide) ?_
      refine go_iret dX7_placeFor_31 (pg_narI _) ?_
      exact k1 (fun q => h_15 q.2)
    · have h_15 := pg_b1 h_15
      obtain ⟨c, hca, hc, rfl⟩ := in_ex 1 20 rfl rfl (by decide) (by decide) h_15
      have ec : pn (nI c) = c := nI_clamp (by omega)
      rw [ec] at k2
      refine go_aload_n (pc' := 19) dX7_placeFor_18 rfl rfl ?_
      refine go_iload_n (pc' := 20) dX7_placeFor_19 rfl rfl ?_
      refine go_iconst (pc' := 21) 3 dX7_placeFor_20 rfl (by decide) ?_
      refine go_iload_n (pc' := 22) dX7_placeFor_21 rfl rfl ?_
      refine go_bipush (pc' := 24) 11 dX7_placeFor_22 rfl (by decide) ?_
      refine go_cVi4 (pc' := 27) (M' := mX7_bestOf) (d' := 6) dX7_placeFor_24 rfl cvRX7_283 rfl rfl (by decide) rfl (Nat.le_of_ble_eq_true rfl) ?_
      refine tX7_best_place h wf hp (by omega) (fun g2 h2 f2 => ?_)
      refine go_goto (pc' := 31) dX7_placeFor_27 (by decide) ?_
      refine go_iret dX7_placeFor_31 (pg_narI _) ?_
      exact k2 h_5 h_15 _ h2 f2

