set_option maxHeartbeats 4000000 in
set_option maxRecDepth 20000 in
theorem tX5_areAlike_1 {sc : pg_Sc} {g : pg_S} {K : Int32 → pg_S → Prop} {T : TW} {n p q : Nat} (h : CR g 1 T n) (wf : WF T n) (hp : p < n) (hq : q < n) (k : K (if T 3 p = T 3 q ∨ T 3 p = 5 ∨ T 3 q = 5 then 1 else 0) g) : pg_Cal sc 1 mX5_areAlike [.ref 1, .int (nI p), .int (nI q)] g (pg_ki K) := by
  refine pg_Cal.of rfl (Nat.le_of_ble_eq_true rfl) rfl ?_
  have hn := wf.1
  refine go_aload_n (pc' := 1) dX5_areAlike_0 rfl rfl ?_
  refine go_getR (pc' := 4) dX5_areAlike_1 rfl flRX5_21 rfl rfl ?_
  refine go_iload_n (pc' := 5) dX5_areAlike_4 rfl rfl ?_
  refine go_iald (pc' := 6) _ dX5_areAlike_5 rfl rfl rfl (by omega) (by decide) ?_
  rw [c1_peg h (by omega)]
  refine go_aload_n (pc' := 7) dX5_areAlike_6 rfl rfl ?_
  refine go_getR (pc' := 10) dX5_areAlike_7 rfl flRX5_21 rfl rfl ?_
  refine go_iload_n (pc' := 11) dX5_areAlike_10 rfl rfl ?_
  refine go_iald (pc' := 12) _ dX5_areAlike_11 rfl rfl rfl (by omega) (by decide) ?_
  rw [c1_peg h (by omega)]
  refine go_icmp_eq (pc' := 15) (tgt := 35) dX5_areAlike_12 rfl (by decide) (fun h_12 => ?_) (fun h_12 => ?_)
  · refine go_iconst (pc' := 36) 1 dX5_areAlike_35 rfl (by decide) ?_
    refine go_goto (pc' := 40) dX5_areAlike_36 (by decide) ?_
    refine go_iret dX5_areAlike_40 (by first | exact pg_nar1 | exact pg_nar0 | exact pg_narB) ?_
    first | (rw [if_pos (by first | exact Or.inl h_12 | exact Or.inr (Or.inl h_22) | exact Or.inr (Or.inr h_32))] at k; exact k) | (rw [if_neg (fun q => by rcases q with q | q | q <;> contradiction)] at k; exact k)
  · refine go_aload_n (pc' := 16) dX5_areAlike_15 rfl rfl ?_
    refine go_getR (pc' := 19) dX5_areAlike_16 rfl flRX5_21 rfl rfl ?_
    refine go_iload_n (pc' := 20) dX5_areAlike_19 rfl rfl ?_
    refine go_iald (pc' := 21) _ dX5_areAlike_20 rfl rfl rfl (by omega) (by decide) ?_
    rw [c1_peg h (by omega)]
    refine go_iconst (pc' := 22) 5 dX5_areAlike_21 rfl (by decide) ?_
    refine go_icmp_eq (pc' := 25) (tgt := 35) dX5_areAlike_22 rfl (by decide) (fun h_22 => ?_) (fun h_22 => ?_)
    · refine go_iconst (pc' := 36) 1 dX5_areAlike_35 rfl (by decide) ?_
      refine go_goto (pc' := 40) dX5_areAlike_36 (by decide) ?_
      refine go_iret dX5_areAlike_40 (by first | exact pg_nar1 | exact pg_nar0 | exact pg_narB) ?_
      first | (rw [if_pos (by first | exact Or.inl h_12 | exact Or.inr (Or.inl h_22) | exact Or.inr (Or.inr h_32))] at k; exact k) | (rw [if_neg (fun q => by rcases q with q | q | q <;> contradiction)] at k; exact k)
    · refine go_aload_n (pc' := 26) dX5_areAlike_25 rfl rfl ?_
      refine go_getR (pc' := 29) dX5_areAlike_26 rfl flRX5_21 rfl rfl ?_
      refine go_iload_n (pc' := 30) dX5_areAlike_29 rfl rfl ?_
      refine go_iald (pc' := 31) _ dX5_areAlike_30 rfl rfl rfl (by omega) (by decide) ?_
      rw [c1_peg h (by omega)]
      refine go_iconst (pc' := 32) 5 dX5_areAlike_31 rfl (by decide) ?_
      refine go_icmp_ne (pc' := 35) (tgt := 39) dX5_areAlike_32 rfl (by decide) (fun h_32 => ?_) (fun h_32 => ?_)
      · refine go_iconst (pc' := 40) 0 dX5_areAlike_39 rfl (by decide) ?_
        refine go_iret dX5_areAlike_40 (by first | exact pg_nar1 | exact pg_nar0 | exact pg_narB) ?_
        first | (rw [if_pos (by first | exact Or.inl h_12 | exact Or.inr (Or.inl h_22) | exact Or.inr (Or.inr h_32))] at k; exact k) | (rw [if_neg (fun q => by rcases q with q | q | q <;> contradiction)] at k; exact k)
      · refine go_iconst (pc' := 36) 1 dX5_areAlike_35 rfl (by decide) ?_
        refine go_goto (pc' := 40) dX5_areAlike_36 (by decide) ?_
        refine go_iret dX5_areAlike_40 (by first | exact pg_nar1 | exact pg_nar0 | exact pg_narB) ?_
        first | (rw [if_pos (by first | exact Or.inl h_12 | exact Or.inr (Or.inl h_22) | exact Or.inr (Or.inr h_32))] at k; exact k) | (rw [if_neg (fun q => by rcases q with q | q | q <;> contradiction)] at k; exact k)

set_option maxHeartbeats 4000000 in
set_option maxRecDepth 20000 in
theorem tX5_acquaint_1 {sc : pg_Sc} {g : pg_S} {K : pg_S → Prop} {T : TW} {n p q : Nat} (h : CR g 1 T n) (wf : WF T n) (hp : p < n) (hq : q < n) (k : ∀ g', CR g' 1 (acqF T p q) n → FR 8 9 g g' → K g') : pg_Cal sc 1 mX5_acquaint [.ref 1, .int (nI p), .int (nI q)] g (pg_kv K) := by
  refine pg_Cal.of rfl (Nat.le_of_ble_eq_true rfl) rfl ?_
  have hn := wf.1
  refine go_aload_n (pc' := 1) dX5_acquaint_0 rfl rfl ?_
  refine go_getR (pc' := 4) dX5_acquaint_1 rfl flRX5_30 rfl rfl ?_
  refine go_iload_n (pc' := 5) dX5_acquaint_4 rfl rfl ?_
  refine go_dup2 (pc' := 6) dX5_acquaint_5 rfl rfl rfl ?_
  refine go_iald (pc' := 7) _ dX5_acquaint_6 rfl rfl rfl (by omega) (by decide) ?_
  rw [c1_know h hp]
  refine go_iconst (pc' := 8) 1 dX5_acquaint_7 rfl (by decide) ?_
  refine go_iload_n (pc' := 9) dX5_acquaint_8 rfl rfl ?_
  refine go_ishl (pc' := 10) dX5_acquaint_9 rfl ?_
  refine go_ior (pc' := 11) dX5_acquaint_10 rfl ?_
  refine go_iast (pc' := 12) _ dX5_acquaint_11 rfl rfl rfl (by omega) (by decide) ?_
  have h2 := h.put (a := 6) (i := p) (v := T 6 p ||| (1 : Int32) <<< (nI q &&& 31)) (by decide) (by decide)
  refine go_aload_n (pc' := 13) dX5_acquaint_12 rfl rfl ?_
  refine go_getR (pc' := 16) dX5_acquaint_13 rfl flRX5_30 rfl rfl ?_
  refine go_iload_n (pc' := 17) dX5_acquaint_16 rfl rfl ?_
  refine go_dup2 (pc' := 18) dX5_acquaint_17 rfl rfl rfl ?_
  refine go_iald (pc' := 19) _ dX5_acquaint_18 rfl rfl rfl (by omega) (by decide) ?_
  rw [c1_know h2 hq]
  refine go_iconst (pc' := 20) 1 dX5_acquaint_19 rfl (by decide) ?_
  refine go_iload_n (pc' := 21) dX5_acquaint_20 rfl rfl ?_
  refine go_ishl (pc' := 22) dX5_acquaint_21 rfl ?_
  refine go_ior (pc' := 23) dX5_acquaint_22 rfl ?_
  refine go_iast (pc' := 24) _ dX5_acquaint_23 rfl rfl rfl (by omega) (by decide) ?_
  refine go_vret dX5_acquaint_24 rfl ?_
  exact k _ (h2.put (a := 6) (i := q) (by decide) (by decide)) (FR.tr (FR.ui (by decide)) (FR.ui (by decide)))

set_option maxHeartbeats 4000000 in
set_option maxRecDepth 20000 in
theorem tX5_findEachOther_1 {sc : pg_Sc} {g : pg_S} {K : Int32 → pg_S → Prop} {T : TW} {n p q : Nat} (h : CR g 1 T n) (wf : WF T n) (hp : p < n) (hq : q < n) (hl : ∀ p, p < n → g.1 9 p = leanF T p (T 8 1)) (k : K (if metF T p q = true then 1 else 0) g) : pg_Cal sc 2 mX5_findEachOther [.ref 1, .int (nI p), .int (nI q)] g (pg_ki K) := by
  refine pg_Cal.of rfl (Nat.le_of_ble_eq_true rfl) rfl ?_
  have hn := wf.1
  refine go_aload_n (pc' := 1) dX5_findEachOther_0 rfl rfl ?_
  refine go_getR (pc' := 4) dX5_findEachOther_1 rfl flRX5_27 rfl rfl ?_
  refine go_iload_n (pc' := 5) dX5_findEachOther_4 rfl rfl ?_
  refine go_iald (pc' := 6) _ dX5_findEachOther_5 rfl rfl rfl (by omega) (by decide) ?_
  rw [c1_place h (by omega)]
  refine go_aload_n (pc' := 7) dX5_findEachOther_6 rfl rfl ?_
  refine go_getR (pc' := 10) dX5_findEachOther_7 rfl flRX5_27 rfl rfl ?_
  refine go_iload_n (pc' := 11) dX5_findEachOther_10 rfl rfl ?_
  refine go_iald (pc' := 12) _ dX5_findEachOther_11 rfl rfl rfl (by omega) (by decide) ?_
  rw [c1_place h (by omega)]
  refine go_icmp_ne (pc' := 15) (tgt := 71) dX5_findEachOther_12 rfl (by decide) (fun h_12 => ?_) (fun h_12 => ?_)
  · refine go_iconst (pc' := 72) 0 dX5_findEachOther_71 rfl (by decide) ?_
    refine go_iret dX5_findEachOther_72 (by first | exact pg_nar1 | exact pg_nar0 | exact pg_narB) ?_
    first
      | (rw [if_neg (fun e => h_12 (metF_iff.mp e).1)] at k; exact k)
      | (rw [if_neg (fun e => h_21 (metF_iff.mp e).2.1)] at k; exact k)
      | (rw [if_neg (fun e => (metF_iff.mp e).2.2.1 h_30)] at k; exact k)
      | (rw [if_neg (fun e => (metF_iff.mp e).2.2.2.1 h_39)] at k; exact k)
      | (rw [if_neg (fun e => pg_lt_nle h_64 (metF_iff.mp e).2.2.2.2)] at k; exact k)
      | (rw [if_pos (metF_iff.mpr ⟨h_12, h_21, h_30, h_39, pg_nlt_le h_64⟩)] at k; exact k)
  · refine go_aload_n (pc' := 16) dX5_findEachOther_15 rfl rfl ?_
    refine go_iload_n (pc' := 17) dX5_findEachOther_16 rfl rfl ?_
    refine go_iload_n (pc' := 18) dX5_findEachOther_17 rfl rfl ?_
    refine go_cVi2 (pc' := 21) (M' := mX5_areAlike) (d' := 1) dX5_findEachOther_18 rfl cvRX5_82 rfl rfl (by decide) rfl (Nat.le_of_ble_eq_true rfl) ?_
    refine tX5_areAlike_1 h wf hp hq ?_
    refine go_if_eq (pc' := 24) (tgt := 71) dX5_findEachOther_21 rfl (by decide) (fun h_21 => ?_) (fun h_21 => ?_)
    · have h_21 := pg_b0 h_21
      refine go_iconst (pc' := 72) 0 dX5_findEachOther_71 rfl (by decide) ?_
      refine go_iret dX5_findEachOther_72 (by first | exact pg_nar1 | exact pg_nar0 | exact pg_narB) ?_
      first
        | (rw [if_neg (fun e => h_12 (metF_iff.mp e).1)] at k; exact k)
        | (rw [if_neg (fun e => h_21 (metF_iff.mp e).2.1)] at k; exact k)
        | (rw [if_neg (fun e => (metF_iff.mp e).2.2.1 h_30)] at k; exact k)
        | (rw [if_neg (fun e => (metF_iff.mp e).2.2.2.1 h_39)] at k; exact k)
        | (rw [if_neg (fun e => pg_lt_nle h_64 (metF_iff.mp e).2.2.2.2)] at k; exact k)
        | (rw [if_pos (metF_iff.mpr ⟨h_12, h_21, h_30, h_39, pg_nlt_le h_64⟩)] at k; exact k)
    · have h_21 := pg_b1 h_21
      refine go_aload_n (pc' := 25) dX5_findEachOther_24 rfl rfl ?_
      refine go_getR (pc' := 28) dX5_findEachOther_25 rfl flRX5_33 rfl rfl ?_
      refine go_iload_n (pc' := 29) dX5_findEachOther_28 rfl rfl ?_
      refine go_iald (pc' := 30) _ dX5_findEachOther_29 rfl rfl rfl (by omega) (by decide) ?_
      rw [hl _ (by omega)]
      refine go_if_eq (pc' := 33) (tgt := 71) dX5_findEachOther_30 rfl (by decide) (fun h_30 => ?_) (fun h_30 => ?_)
      · refine go_iconst (pc' := 72) 0 dX5_findEachOther_71 rfl (by decide) ?_
        refine go_iret dX5_findEachOther_72 (by first | exact pg_nar1 | exact pg_nar0 | exact pg_narB) ?_
        first
          | (rw [if_neg (fun e => h_12 (metF_iff.mp e).1)] at k; exact k)
          | (rw [if_neg (fun e => h_21 (metF_iff.mp e).2.1)] at k; exact k)
          | (rw [if_neg (fun e => (metF_iff.mp e).2.2.1 h_30)] at k; exact k)
          | (rw [if_neg (fun e => (metF_iff.mp e).2.2.2.1 h_39)] at k; exact k)
          | (rw [if_neg (fun e => pg_lt_nle h_64 (metF_iff.mp e).2.2.2.2)] at k; exact k)
          | (rw [if_pos (metF_iff.mpr ⟨h_12, h_21, h_30, h_39, pg_nlt_le h_64⟩)] at k; exact k)
      · refine go_aload_n (pc' := 34) dX5_findEachOther_33 rfl rfl ?_
        refine go_getR (pc' := 37) dX5_findEachOther_34 rfl flRX5_33 rfl rfl ?_
        refine go_iload_n (pc' := 38) dX5_findEachOther_37 rfl rfl ?_
        refine go_iald (pc' := 39) _ dX5_findEachOther_38 rfl rfl rfl (by omega) (by decide) ?_
        rw [hl _ (by omega)]
        refine go_if_eq (pc' := 42) (tgt := 71) dX5_findEachOther_39 rfl (by decide) (fun h_39 => ?_) (fun h_39 => ?_)
        · refine go_iconst (pc' := 72) 0 dX5_findEachOther_71 rfl (by decide) ?_
          refine go_iret dX5_findEachOther_72 (by first | exact pg_nar1 | exact pg_nar0 | exact pg_narB) ?_
          first
            | (rw [if_neg (fun e => h_12 (metF_iff.mp e).1)] at k; exact k)
            | (rw [if_neg (fun e => h_21 (metF_iff.mp e).2.1)] at k; exact k)
            | (rw [if_neg (fun e => (metF_iff.mp e).2.2.1 h_30)] at k; exact k)
            | (rw [if_neg (fun e => (metF_iff.mp e).2.2.2.1 h_39)] at k; exact k)
            | (rw [if_neg (fun e => pg_lt_nle h_64 (metF_iff.mp e).2.2.2.2)] at k; exact k)
            | (rw [if_pos (metF_iff.mpr ⟨h_12, h_21, h_30, h_39, pg_nlt_le h_64⟩)] at k; exact k)
        · refine go_aload_n (pc' := 43) dX5_findEachOther_42 rfl rfl ?_
          refine go_getR (pc' := 46) dX5_findEachOther_43 rfl flRX5_33 rfl rfl ?_
          refine go_iload_n (pc' := 47) dX5_findEachOther_46 rfl rfl ?_
          refine go_iald (pc' := 48) _ dX5_findEachOther_47 rfl rfl rfl (by omega) (by decide) ?_
          rw [hl _ (by omega)]
          refine go_aload_n (pc' := 49) dX5_findEachOther_48 rfl rfl ?_
          refine go_getR (pc' := 52) dX5_findEachOther_49 rfl flRX5_33 rfl rfl ?_
          refine go_iload_n (pc' := 53) dX5_findEachOther_52 rfl rfl ?_
          refine go_iald (pc' := 54) _ dX5_findEachOther_53 rfl rfl rfl (by omega) (by decide) ?_
          rw [hl _ (by omega)]
          refine go_isub (pc' := 55) dX5_findEachOther_54 rfl ?_
          refine go_mabs (pc' := 58) dX5_findEachOther_55 rfl mw_abs1 mw_abs2 mw_ini mw_abs4 (by decide) (Nat.le_of_ble_eq_true rfl) ?_
          refine go_aload_n (pc' := 59) dX5_findEachOther_58 rfl rfl ?_
          refine go_getR (pc' := 62) dX5_findEachOther_59 rfl flRX5_9 rfl rfl ?_
          refine go_iconst (pc' := 63) 2 dX5_findEachOther_62 rfl (by decide) ?_
          refine go_iald (pc' := 64) 2 dX5_findEachOther_63 rfl rfl rfl (by decide) (by decide) ?_
          rw [c1_law h (by first | decide | omega)]
          refine go_icmp_gt (pc' := 67) (tgt := 71) dX5_findEachOther_64 rfl (by decide) (fun h_64 => ?_) (fun h_64 => ?_)
          · refine go_iconst (pc' := 72) 0 dX5_findEachOther_71 rfl (by decide) ?_
            refine go_iret dX5_findEachOther_72 (by first | exact pg_nar1 | exact pg_nar0 | exact pg_narB) ?_
            first
              | (rw [if_neg (fun e => h_12 (metF_iff.mp e).1)] at k; exact k)
              | (rw [if_neg (fun e => h_21 (metF_iff.mp e).2.1)] at k; exact k)
              | (rw [if_neg (fun e => (metF_iff.mp e).2.2.1 h_30)] at k; exact k)
              | (rw [if_neg (fun e => (metF_iff.mp e).2.2.2.1 h_39)] at k; exact k)
              | (rw [if_neg (fun e => pg_lt_nle h_64 (metF_iff.mp e).2.2.2.2)] at k; exact k)
              | (rw [if_pos (metF_iff.mpr ⟨h_12, h_21, h_30, h_39, pg_nlt_le h_64⟩)] at k; exact k)
          · refine go_iconst (pc' := 68) 1 dX5_findEachOther_67 rfl (by decide) ?_
            refine go_goto (pc' := 72) dX5_findEachOther_68 (by decide) ?_
            refine go_iret dX5_findEachOther_72 (by first | exact pg_nar1 | exact pg_nar0 | exact pg_narB) ?_
            first
              | (rw [if_neg (fun e => h_12 (metF_iff.mp e).1)] at k; exact k)
              | (rw [if_neg (fun e => h_21 (metF_iff.mp e).2.1)] at k; exact k)
              | (rw [if_neg (fun e => (metF_iff.mp e).2.2.1 h_30)] at k; exact k)
              | (rw [if_neg (fun e => (metF_iff.mp e).2.2.2.1 h_39)] at k; exact k)
              | (rw [if_neg (fun e => pg_lt_nle h_64 (metF_iff.mp e).2.2.2.2)] at k; exact k)
              | (rw [if_pos (metF_iff.mpr ⟨h_12, h_21, h_30, h_39, pg_nlt_le h_64⟩)] at k; exact k)

set_option maxHeartbeats 4000000 in
set_option maxRecDepth 20000 in
theorem l1_1 {sc : pg_Sc} {Q : pg_Q} {T : TW} {n : Nat} (wf : WF T n) : ∀ (m : Nat) (i : Nat) (g : pg_S), i + m = n → CR g 1 (T1F T i) n → (∀ j, j < i → g.1 9 j = leanF T j (T 8 1)) → (∀ g', CR g' 1 (T1F T n) n → (∀ j, j < n → g'.1 9 j = leanF T j (T 8 1)) → FR 1 10 g g' → pg_Go sc 3 mX5_spendHour 54 [(0, .ref 1), (1, .int (nI n))] [] g' Q) → pg_Go sc 3 mX5_spendHour 2 [(0, .ref 1), (1, .int (nI i))] [] g Q := by
  intro m
  induction m with
  | zero =>
    intro i g hi h hl k
    obtain rfl : i = n := by omega
    refine go_iload_n (pc' := 3) dX5_spendHour_2 rfl rfl ?_
    refine go_aload_n (pc' := 4) dX5_spendHour_3 rfl rfl ?_
    refine go_getI (pc' := 7) dX5_spendHour_4 rfl flRX5_36 rfl rfl ?_
    rw [c1_people h]
    refine go_icmp_ge (pc' := 10) (tgt := 54) dX5_spendHour_7 rfl (by decide) (fun h_7 => ?_) (fun h_7 => absurd (Int32.le_refl _) h_7)
    exact k _ h hl FR.rf
  | succ m ih =>
    intro i g hi h hl k
    have hn := wf.1
    have hin : i < n := by omega
    refine go_iload_n (pc' := 3) dX5_spendHour_2 rfl rfl ?_
    refine go_aload_n (pc' := 4) dX5_spendHour_3 rfl rfl ?_
    refine go_getI (pc' := 7) dX5_spendHour_4 rfl flRX5_36 rfl rfl ?_
    rw [c1_people h]
    refine go_icmp_ge (pc' := 10) (tgt := 54) dX5_spendHour_7 rfl (by decide) (fun h_7 => absurd h_7 (nI_ge hin (by omega))) (fun h_7 => ?_)
    refine go_aload_n (pc' := 11) dX5_spendHour_10 rfl rfl ?_
    refine go_getR (pc' := 14) dX5_spendHour_11 rfl flRX5_27 rfl rfl ?_
    refine go_iload_n (pc' := 15) dX5_spendHour_14 rfl rfl ?_
    refine go_aload_n (pc' := 16) dX5_spendHour_15 rfl rfl ?_
    refine go_getR (pc' := 19) dX5_spendHour_16 rfl flRX5_27 rfl rfl ?_
    refine go_iload_n (pc' := 20) dX5_spendHour_19 rfl rfl ?_
    refine go_iald (pc' := 21) _ dX5_spendHour_20 rfl rfl rfl (by omega) (by decide) ?_
    rw [c1_place h hin, T1F_ge (Nat.le_refl _)]
    refine go_aload_n (pc' := 22) dX5_spendHour_21 rfl rfl ?_
    refine go_iload_n (pc' := 23) dX5_spendHour_22 rfl rfl ?_
    refine go_cVi1 (pc' := 26) (M' := mX5_strideOf) (d' := 1) dX5_spendHour_23 rfl cvRX5_61 rfl rfl (by decide) rfl (Nat.le_of_ble_eq_true rfl) ?_
    refine tX5_strideOf_1 h (T1F_wf wf) hin ?_
    rw [T1F_stride]
    refine go_iadd (pc' := 27) dX5_spendHour_26 rfl ?_
    refine go_bipush (pc' := 29) 12 dX5_spendHour_27 rfl (by decide) ?_
    refine go_fm (pc' := 32) dX5_spendHour_29 rfl mw_fm1 mw_fm2 mw_ini mw_fm4 (by decide) (Nat.le_of_ble_eq_true rfl) (by decide) ?_
    rw [(wf.fm hin).1]
    refine go_iast (pc' := 33) _ dX5_spendHour_32 rfl rfl rfl (by omega) (by decide) ?_
    have h1 := h.put (a := 5) (i := i) (v := placeF T i) (by decide) (by decide)
    rw [← T1F_s] at h1
    refine go_aload_n (pc' := 34) dX5_spendHour_33 rfl rfl ?_
    refine go_getR (pc' := 37) dX5_spendHour_34 rfl flRX5_33 rfl rfl ?_
    refine go_iload_n (pc' := 38) dX5_spendHour_37 rfl rfl ?_
    refine go_aload_n (pc' := 39) dX5_spendHour_38 rfl rfl ?_
    refine go_iload_n (pc' := 40) dX5_spendHour_39 rfl rfl ?_
    refine go_aload_n (pc' := 41) dX5_spendHour_40 rfl rfl ?_
    refine go_getI (pc' := 44) dX5_spendHour_41 rfl flRX5_40 rfl rfl ?_
    rw [c1_hour h1, T1F_ne (by decide)]
    refine go_cVi2 (pc' := 47) (M' := mX5_leanAt) (d' := 1) dX5_spendHour_44 rfl cvRX5_71 rfl rfl (by decide) rfl (Nat.le_of_ble_eq_true rfl) ?_
    refine tX5_leanAt_1 h1 (T1F_wf wf) hin ?_
    rw [T1F_lean]
    refine go_iast (pc' := 48) _ dX5_spendHour_47 rfl rfl rfl (by omega) (by decide) ?_
    have h2 := h1.lean (i := i) (v := leanF T i (T 8 1))
    refine go_iinc (pc' := 51) _ dX5_spendHour_48 rfl rfl (pg_inc _) (by decide) rfl ?_
    refine go_goto (pc' := 2) dX5_spendHour_51 (by decide) ?_
    refine ih (i + 1) _ (by omega) h2 (fun j hj => ?_) (fun g' a b c => k g' a b (FR.tr (FR.tr (FR.ui (by decide)) (FR.ui (by decide))) c))
    show pg_ui (pg_ui g.1 7 i (placeF T i)) 9 i (leanF T i (T 8 1)) 9 j = _
    rw [pg_ui_at]
    by_cases e : j = i
    · subst e; rw [if_pos ⟨rfl, rfl⟩]
    · rw [if_neg (fun q => e q.2), pg_ui_at, if_neg (by omega)]; exact hl j (by omega)

set_option maxHeartbeats 4000000 in
set_option maxRecDepth 20000 in
theorem l2_1 {sc : pg_Sc} {Q : pg_Q} {n i : Nat} : ∀ (m : Nat) (j : Nat) (T : TW) (g : pg_S), j + m = n → i < j → WF T n → CR g 1 T n → (∀ x, x < n → g.1 9 x = leanF (T) x (T 8 1)) → (∀ g', CR g' 1 (pairJ i m j T) n → (∀ x, x < n → g'.1 9 x = leanF (pairJ i m j T) x (pairJ i m j T 8 1)) → FR 1 10 g g' → pg_Go sc 3 mX5_spendHour 97 [(0, .ref 1), (1, .int (nI i)), (2, .int (nI n))] [] g' Q) → pg_Go sc 3 mX5_spendHour 68 [(0, .ref 1), (1, .int (nI i)), (2, .int (nI j))] [] g Q := by
  intro m
  induction m with
  | zero =>
    intro j T g hi hij wf h hl k
    obtain rfl : j = n := by omega
    refine go_iload_n (pc' := 69) dX5_spendHour_68 rfl rfl ?_
    refine go_aload_n (pc' := 70) dX5_spendHour_69 rfl rfl ?_
    refine go_getI (pc' := 73) dX5_spendHour_70 rfl flRX5_36 rfl rfl ?_
    rw [c1_people h]
    refine go_icmp_ge (pc' := 76) (tgt := 97) dX5_spendHour_73 rfl (by decide) (fun h_73 => ?_) (fun h_73 => absurd (Int32.le_refl _) h_73)
    exact k _ h hl FR.rf
  | succ m ih =>
    intro j T g hi hij wf h hl k
    have hn := wf.1
    have hin : j < n := by omega
    simp only [pairJ] at k
    refine go_iload_n (pc' := 69) dX5_spendHour_68 rfl rfl ?_
    refine go_aload_n (pc' := 70) dX5_spendHour_69 rfl rfl ?_
    refine go_getI (pc' := 73) dX5_spendHour_70 rfl flRX5_36 rfl rfl ?_
    rw [c1_people h]
    refine go_icmp_ge (pc' := 76) (tgt := 97) dX5_spendHour_73 rfl (by decide) (fun h_73 => absurd h_73 (nI_ge hin (by omega))) (fun h_73 => ?_)
    refine go_aload_n (pc' := 77) dX5_spendHour_76 rfl rfl ?_
    refine go_iload_n (pc' := 78) dX5_spendHour_77 rfl rfl ?_
    refine go_iload_n (pc' := 79) dX5_spendHour_78 rfl rfl ?_
    refine go_cVi2 (pc' := 82) (M' := mX5_findEachOther) (d' := 2) dX5_spendHour_79 rfl cvRX5_74 rfl rfl (by decide) rfl (Nat.le_of_ble_eq_true rfl) ?_
    refine tX5_findEachOther_1 h wf (by omega) hin hl ?_
    refine go_if_eq (pc' := 85) (tgt := 91) dX5_spendHour_82 rfl (by decide) (fun h_82 => ?_) (fun h_82 => ?_)
    · have h_82 := pg_b0 h_82
      first | (rw [if_neg h_82] at k) | skip
      refine go_iinc (pc' := 94) _ dX5_spendHour_91 rfl rfl (pg_inc _) (by decide) rfl ?_
      refine go_goto (pc' := 68) dX5_spendHour_94 (by decide) ?_
      first
        | exact ih (j + 1) _ _ (by omega) (by omega) (wf.acq (by omega) hin) h1 (fun p hp => by rw [f1.1 9 (by omega), acqF_lean, acqF_lo (by decide)]; exact hl p hp) (fun g' a b c => k g' a b (FR.tr (f1.wd (by decide) (by decide)) c))
        | exact ih (j + 1) _ _ (by omega) (by omega) wf h hl k
    · have h_82 := pg_b1 h_82
      refine go_aload_n (pc' := 86) dX5_spendHour_85 rfl rfl ?_
      refine go_iload_n (pc' := 87) dX5_spendHour_86 rfl rfl ?_
      refine go_iload_n (pc' := 88) dX5_spendHour_87 rfl rfl ?_
      refine go_cVv2 (pc' := 91) (M' := mX5_acquaint) (d' := 1) dX5_spendHour_88 rfl cvRX5_78 rfl rfl (by decide) rfl (Nat.le_of_ble_eq_true rfl) ?_
      rw [if_pos h_82] at k
      refine tX5_acquaint_1 h wf (by omega) hin (fun g1 h1 f1 => ?_)
      first | (rw [if_neg h_82] at k) | skip
      refine go_iinc (pc' := 94) _ dX5_spendHour_91 rfl rfl (pg_inc _) (by decide) rfl ?_
      refine go_goto (pc' := 68) dX5_spendHour_94 (by decide) ?_
      first
        | exact ih (j + 1) _ _ (by omega) (by omega) (wf.acq (by omega) hin) h1 (fun p hp => by rw [f1.1 9 (by omega), acqF_lean, acqF_lo (by decide)]; exact hl p hp) (fun g' a b c => k g' a b (FR.tr (f1.wd (by decide) (by decide)) c))
        | exact ih (j + 1) _ _ (by omega) (by omega) wf h hl k

set_option maxHeartbeats 4000000 in
set_option maxRecDepth 20000 in
theorem l3_1 {sc : pg_Sc} {Q : pg_Q} {n : Nat} : ∀ (m : Nat) (i : Nat) (T : TW) (g : pg_S), i + m = n → WF T n → CR g 1 T n → (∀ x, x < n → g.1 9 x = leanF (T) x (T 8 1)) → (∀ g', CR g' 1 (pairI n m i T) n → FR 1 10 g g' → pg_Go sc 3 mX5_spendHour 103 [(0, .ref 1), (1, .int (nI n))] [] g' Q) → pg_Go sc 3 mX5_spendHour 56 [(0, .ref 1), (1, .int (nI i))] [] g Q := by
  intro m
  induction m with
  | zero =>
    intro i T g hi wf h hl k
    obtain rfl : i = n := by omega
    refine go_iload_n (pc' := 57) dX5_spendHour_56 rfl rfl ?_
    refine go_aload_n (pc' := 58) dX5_spendHour_57 rfl rfl ?_
    refine go_getI (pc' := 61) dX5_spendHour_58 rfl flRX5_36 rfl rfl ?_
    rw [c1_people h]
    refine go_icmp_ge (pc' := 64) (tgt := 103) dX5_spendHour_61 rfl (by decide) (fun h_61 => ?_) (fun h_61 => absurd (Int32.le_refl _) h_61)
    exact k _ h FR.rf
  | succ m ih =>
    intro i T g hi wf h hl k
    have hn := wf.1
    have hin : i < n := by omega
    simp only [pairI] at k
    refine go_iload_n (pc' := 57) dX5_spendHour_56 rfl rfl ?_
    refine go_aload_n (pc' := 58) dX5_spendHour_57 rfl rfl ?_
    refine go_getI (pc' := 61) dX5_spendHour_58 rfl flRX5_36 rfl rfl ?_
    rw [c1_people h]
    refine go_icmp_ge (pc' := 64) (tgt := 103) dX5_spendHour_61 rfl (by decide) (fun h_61 => absurd h_61 (nI_ge hin (by omega))) (fun h_61 => ?_)
    refine go_iload_n (pc' := 65) dX5_spendHour_64 rfl rfl ?_
    refine go_iconst (pc' := 66) 1 dX5_spendHour_65 rfl (by decide) ?_
    refine go_iadd (pc' := 67) dX5_spendHour_66 rfl ?_
    refine go_istore_n (pc' := 68) dX5_spendHour_67 rfl (by decide) rfl ?_
    rw [nI_1]
    refine l2_1 (n - (i + 1)) (i + 1) T g (by omega) (by omega) wf h hl (fun g1 h1 hl1 f1 => ?_)
    refine go_iinc (pc' := 100) _ dX5_spendHour_97 rfl rfl (pg_inc _) (by decide) rfl ?_
    refine go_goto (pc' := 56) dX5_spendHour_100 (by decide) ?_
    refine go_sub [0, 1] rfl ?_
    exact ih (i + 1) _ _ (by omega) (pairJ_wf hin _ _ _ (by omega) wf) h1 hl1 (fun g' a c => k g' a (FR.tr f1 c))

set_option maxHeartbeats 4000000 in
set_option maxRecDepth 20000 in
theorem tX5_spendHour_1 {sc : pg_Sc} {g : pg_S} {K : pg_S → Prop} {T : TW} {n : Nat} (h : CR g 1 T n) (wf : WF T n) (k : ∀ g', CR g' 1 (hourF n T) n → FR 1 10 g g' → K g') : pg_Cal sc 3 mX5_spendHour [.ref 1] g (pg_kv K) := by
  refine pg_Cal.of rfl (Nat.le_of_ble_eq_true rfl) rfl ?_
  refine go_iconst (pc' := 1) 0 dX5_spendHour_0 rfl (by decide) ?_
  refine go_istore_n (pc' := 2) dX5_spendHour_1 rfl (by decide) rfl ?_
  refine l1_1 wf n 0 g (by omega) (by rw [T1F_0]; exact h) (fun j hj => absurd hj (by omega)) (fun g1 h1 hl1 f1 => ?_)
  refine go_iconst (pc' := 55) 0 dX5_spendHour_54 rfl (by decide) ?_
  refine go_istore_n (pc' := 56) dX5_spendHour_55 rfl (by decide) rfl ?_
  refine l3_1 n 0 (T1F T n) g1 (by omega) (T1F_wf wf) h1 (fun j hj => by rw [T1F_lean, T1F_ne (by decide)]; exact hl1 j hj) (fun g2 h2 f2 => ?_)
  refine go_aload_n (pc' := 104) dX5_spendHour_103 rfl rfl ?_
  refine go_dup (pc' := 105) dX5_spendHour_104 rfl rfl ?_
  refine go_getI (pc' := 108) dX5_spendHour_105 rfl flRX5_40 rfl rfl ?_
  rw [c1_hour h2]
  refine go_iconst (pc' := 109) 1 dX5_spendHour_108 rfl (by decide) ?_
  refine go_iadd (pc' := 110) dX5_spendHour_109 rfl ?_
  refine go_putI (pc' := 113) dX5_spendHour_110 rfl flRX5_40 rfl rfl ft5_9 ?_
  refine go_vret dX5_spendHour_113 rfl ?_
  exact k _ (h2.scal (i := 1) (by decide)) (FR.tr (FR.tr f1 f2) (FR.ui (by decide)))

set_option maxHeartbeats 4000000 in
set_option maxRecDepth 20000 in
theorem tX5_areAlike_10 {sc : pg_Sc} {g : pg_S} {K : Int32 → pg_S → Prop} {T : TW} {n p q : Nat} (h : CR g 10 T n) (wf : WF T n) (hp : p < n) (hq : q < n) (k : K (if T 3 p = T 3 q ∨ T 3 p = 5 ∨ T 3 q = 5 then 1 else 0) g) : pg_Cal sc 1 mX5_areAlike [.ref 10, .int (nI p), .int (nI q)] g (pg_ki K) := by
  refine pg_Cal.of rfl (Nat.le_of_ble_eq_true rfl) rfl ?_
  have hn := wf.1
  refine go_aload_n (pc' := 1) dX5_areAlike_0 rfl rfl ?_
  refine go_getR (pc' := 4) dX5_areAlike_1 rfl flRX5_21 rfl rfl ?_
  refine go_iload_n (pc' := 5) dX5_areAlike_4 rfl rfl ?_
  refine go_iald (pc' := 6) _ dX5_areAlike_5 rfl rfl rfl (by omega) (by decide) ?_
  rw [c10_peg h (by omega)]
  refine go_aload_n (pc' := 7) dX5_areAlike_6 rfl rfl ?_
  refine go_getR (pc' := 10) dX5_areAlike_7 rfl flRX5_21 rfl rfl ?_
  refine go_iload_n (pc' := 11) dX5_areAlike_10 rfl rfl ?_
  refine go_iald (pc' := 12) _ dX5_areAlike_11 rfl rfl rfl (by omega) (by decide) ?_
  rw [c10_peg h (by omega)]
  refine go_icmp_eq (pc' := 15) (tgt := 35) dX5_areAlike_12 rfl (by decide) (fun h_12 => ?_) (fun h_12 => ?_)
  · refine go_iconst (pc' := 36) 1 dX5_areAlike_35 rfl (by decide) ?_
    refine go_goto (pc' := 40) dX5_areAlike_36 (by decide) ?_
    refine go_iret dX5_areAlike_40 (by first | exact pg_nar1 | exact pg_nar0 | exact pg_narB) ?_
    first | (rw [if_pos (by first | exact Or.inl h_12 | exact Or.inr (Or.inl h_22) | exact Or.inr (Or.inr h_32))] at k; exact k) | (rw [if_neg (fun q => by rcases q with q | q | q <;> contradiction)] at k; exact k)
  · refine go_aload_n (pc' := 16) dX5_areAlike_15 rfl rfl ?_
    refine go_getR (pc' := 19) dX5_areAlike_16 rfl flRX5_21 rfl rfl ?_
    refine go_iload_n (pc' := 20) dX5_areAlike_19 rfl rfl ?_
    refine go_iald (pc' := 21) _ dX5_areAlike_20 rfl rfl rfl (by omega) (by decide) ?_
    rw [c10_peg h (by omega)]
    refine go_iconst (pc' := 22) 5 dX5_areAlike_21 rfl (by decide) ?_
    refine go_icmp_eq (pc' := 25) (tgt := 35) dX5_areAlike_22 rfl (by decide) (fun h_22 => ?_) (fun h_22 => ?_)
    · refine go_iconst (pc' := 36) 1 dX5_areAlike_35 rfl (by decide) ?_
      refine go_goto (pc' := 40) dX5_areAlike_36 (by decide) ?_
      refine go_iret dX5_areAlike_40 (by first | exact pg_nar1 | exact pg_nar0 | exact pg_narB) ?_
      first | (rw [if_pos (by first | exact Or.inl h_12 | exact Or.inr (Or.inl h_22) | exact Or.inr (Or.inr h_32))] at k; exact k) | (rw [if_neg (fun q => by rcases q with q | q | q <;> contradiction)] at k; exact k)
    · refine go_aload_n (pc' := 26) dX5_areAlike_25 rfl rfl ?_
      refine go_getR (pc' := 29) dX5_areAlike_26 rfl flRX5_21 rfl rfl ?_
      refine go_iload_n (pc' := 30) dX5_areAlike_29 rfl rfl ?_
      refine go_iald (pc' := 31) _ dX5_areAlike_30 rfl rfl rfl (by omega) (by decide) ?_
      rw [c10_peg h (by omega)]
      refine go_iconst (pc' := 32) 5 dX5_areAlike_31 rfl (by decide) ?_
      refine go_icmp_ne (pc' := 35) (tgt := 39) dX5_areAlike_32 rfl (by decide) (fun h_32 => ?_) (fun h_32 => ?_)
      · refine go_iconst (pc' := 40) 0 dX5_areAlike_39 rfl (by decide) ?_
        refine go_iret dX5_areAlike_40 (by first | exact pg_nar1 | exact pg_nar0 | exact pg_narB) ?_
        first | (rw [if_pos (by first | exact Or.inl h_12 | exact Or.inr (Or.inl h_22) | exact Or.inr (Or.inr h_32))] at k; exact k) | (rw [if_neg (fun q => by rcases q with q | q | q <;> contradiction)] at k; exact k)
      · refine go_iconst (pc' := 36) 1 dX5_areAlike_35 rfl (by decide) ?_
        refine go_goto (pc' := 40) dX5_areAlike_36 (by decide) ?_
        refine go_iret dX5_areAlike_40 (by first | exact pg_nar1 | exact pg_nar0 | exact pg_narB) ?_
        first | (rw [if_pos (by first | exact Or.inl h_12 | exact Or.inr (Or.inl h_22) | exact Or.inr (Or.inr h_32))] at k; exact k) | (rw [if_neg (fun q => by rcases q with q | q | q <;> contradiction)] at k; exact k)

set_option maxHeartbeats 4000000 in
set_option maxRecDepth 20000 in
theorem tX5_acquaint_10 {sc : pg_Sc} {g : pg_S} {K : pg_S → Prop} {T : TW} {n p q : Nat} (h : CR g 10 T n) (wf : WF T n) (hp : p < n) (hq : q < n) (k : ∀ g', CR g' 10 (acqF T p q) n → FR 17 18 g g' → K g') : pg_Cal sc 1 mX5_acquaint [.ref 10, .int (nI p), .int (nI q)] g (pg_kv K) := by
  refine pg_Cal.of rfl (Nat.le_of_ble_eq_true rfl) rfl ?_
  have hn := wf.1
  refine go_aload_n (pc' := 1) dX5_acquaint_0 rfl rfl ?_
  refine go_getR (pc' := 4) dX5_acquaint_1 rfl flRX5_30 rfl rfl ?_
  refine go_iload_n (pc' := 5) dX5_acquaint_4 rfl rfl ?_
  refine go_dup2 (pc' := 6) dX5_acquaint_5 rfl rfl rfl ?_
  refine go_iald (pc' := 7) _ dX5_acquaint_6 rfl rfl rfl (by omega) (by decide) ?_
  rw [c10_know h hp]
  refine go_iconst (pc' := 8) 1 dX5_acquaint_7 rfl (by decide) ?_
  refine go_iload_n (pc' := 9) dX5_acquaint_8 rfl rfl ?_
  refine go_ishl (pc' := 10) dX5_acquaint_9 rfl ?_
  refine go_ior (pc' := 11) dX5_acquaint_10 rfl ?_
  refine go_iast (pc' := 12) _ dX5_acquaint_11 rfl rfl rfl (by omega) (by decide) ?_
  have h2 := h.put (a := 6) (i := p) (v := T 6 p ||| (1 : Int32) <<< (nI q &&& 31)) (by decide) (by decide)
  refine go_aload_n (pc' := 13) dX5_acquaint_12 rfl rfl ?_
  refine go_getR (pc' := 16) dX5_acquaint_13 rfl flRX5_30 rfl rfl ?_
  refine go_iload_n (pc' := 17) dX5_acquaint_16 rfl rfl ?_
  refine go_dup2 (pc' := 18) dX5_acquaint_17 rfl rfl rfl ?_
  refine go_iald (pc' := 19) _ dX5_acquaint_18 rfl rfl rfl (by omega) (by decide) ?_
  rw [c10_know h2 hq]
  refine go_iconst (pc' := 20) 1 dX5_acquaint_19 rfl (by decide) ?_
  refine go_iload_n (pc' := 21) dX5_acquaint_20 rfl rfl ?_
  refine go_ishl (pc' := 22) dX5_acquaint_21 rfl ?_
  refine go_ior (pc' := 23) dX5_acquaint_22 rfl ?_
  refine go_iast (pc' := 24) _ dX5_acquaint_23 rfl rfl rfl (by omega) (by decide) ?_
  refine go_vret dX5_acquaint_24 rfl ?_
  exact k _ (h2.put (a := 6) (i := q) (by decide) (by decide)) (FR.tr (FR.ui (by decide)) (FR.ui (by decide)))

set_option maxHeartbeats 4000000 in
set_option maxRecDepth 20000 in
theorem tX5_findEachOther_10 {sc : pg_Sc} {g : pg_S} {K : Int32 → pg_S → Prop} {T : TW} {n p q : Nat} (h : CR g 10 T n) (wf : WF T n) (hp : p < n) (hq : q < n) (hl : ∀ p, p < n → g.1 18 p = leanF T p (T 8 1)) (k : K (if metF T p q = true then 1 else 0) g) : pg_Cal sc 2 mX5_findEachOther [.ref 10, .int (nI p), .int (nI q)] g (pg_ki K) := by
  refine pg_Cal.of rfl (Nat.le_of_ble_eq_true rfl) rfl ?_
  have hn := wf.1
  refine go_aload_n (pc' := 1) dX5_findEachOther_0 rfl rfl ?_
  refine go_getR (pc' := 4) dX5_findEachOther_1 rfl flRX5_27 rfl rfl ?_
  refine go_iload_n (pc' := 5) dX5_findEachOther_4 rfl rfl ?_
  refine go_iald (pc' := 6) _ dX5_findEachOther_5 rfl rfl rfl (by omega) (by decide) ?_
  rw [c10_place h (by omega)]
  refine go_aload_n (pc' := 7) dX5_findEachOther_6 rfl rfl ?_
  refine go_getR (pc' := 10) dX5_findEachOther_7 rfl flRX5_27 rfl rfl ?_
  refine go_iload_n (pc' := 11) dX5_findEachOther_10 rfl rfl ?_
  refine go_iald (pc' := 12) _ dX5_findEachOther_11 rfl rfl rfl (by omega) (by decide) ?_
  rw [c10_place h (by omega)]
  refine go_icmp_ne (pc' := 15) (tgt := 71) dX5_findEachOther_12 rfl (by decide) (fun h_12 => ?_) (fun h_12 => ?_)
  · refine go_iconst (pc' := 72) 0 dX5_findEachOther_71 rfl (by decide) ?_
    refine go_iret dX5_findEachOther_72 (by first | exact pg_nar1 | exact pg_nar0 | exact pg_narB) ?_
    first
      | (rw [if_neg (fun e => h_12 (metF_iff.mp e).1)] at k; exact k)
      | (rw [if_neg (fun e => h_21 (metF_iff.mp e).2.1)] at k; exact k)
      | (rw [if_neg (fun e => (metF_iff.mp e).2.2.1 h_30)] at k; exact k)
      | (rw [if_neg (fun e => (metF_iff.mp e).2.2.2.1 h_39)] at k; exact k)
      | (rw [if_neg (fun e => pg_lt_nle h_64 (metF_iff.mp e).2.2.2.2)] at k; exact k)
      | (rw [if_pos (metF_iff.mpr ⟨h_12, h_21, h_30, h_39, pg_nlt_le h_64⟩)] at k; exact k)
  · refine go_aload_n (pc' := 16) dX5_findEachOther_15 rfl rfl ?_
    refine go_iload_n (pc' := 17) dX5_findEachOther_16 rfl rfl ?_
    refine go_iload_n (pc' := 18) dX5_findEachOther_17 rfl rfl ?_
    refine go_cVi2 (pc' := 21) (M' := mX5_areAlike) (d' := 1) dX5_findEachOther_18 rfl cvRX5_82 rfl rfl (by decide) rfl (Nat.le_of_ble_eq_true rfl) ?_
    refine tX5_areAlike_10 h wf hp hq ?_
    refine go_if_eq (pc' := 24) (tgt := 71) dX5_findEachOther_21 rfl (by decide) (fun h_21 => ?_) (fun h_21 => ?_)
    · have h_21 := pg_b0 h_21
      refine go_iconst (pc' := 72) 0 dX5_findEachOther_71 rfl (by decide) ?_
      refine go_iret dX5_findEachOther_72 (by first | exact pg_nar1 | exact pg_nar0 | exact pg_narB) ?_
      first
        | (rw [if_neg (fun e => h_12 (metF_iff.mp e).1)] at k; exact k)
        | (rw [if_neg (fun e => h_21 (metF_iff.mp e).2.1)] at k; exact k)
        | (rw [if_neg (fun e => (metF_iff.mp e).2.2.1 h_30)] at k; exact k)
        | (rw [if_neg (fun e => (metF_iff.mp e).2.2.2.1 h_39)] at k; exact k)
        | (rw [if_neg (fun e => pg_lt_nle h_64 (metF_iff.mp e).2.2.2.2)] at k; exact k)
        | (rw [if_pos (metF_iff.mpr ⟨h_12, h_21, h_30, h_39, pg_nlt_le h_64⟩)] at k; exact k)
    · have h_21 := pg_b1 h_21
      refine go_aload_n (pc' := 25) dX5_findEachOther_24 rfl rfl ?_
      refine go_getR (pc' := 28) dX5_findEachOther_25 rfl flRX5_33 rfl rfl ?_
      refine go_iload_n (pc' := 29) dX5_findEachOther_28 rfl rfl ?_
      refine go_iald (pc' := 30) _ dX5_findEachOther_29 rfl rfl rfl (by omega) (by decide) ?_
      rw [hl _ (by omega)]
      refine go_if_eq (pc' := 33) (tgt := 71) dX5_findEachOther_30 rfl (by decide) (fun h_30 => ?_) (fun h_30 => ?_)
      · refine go_iconst (pc' := 72) 0 dX5_findEachOther_71 rfl (by decide) ?_
        refine go_iret dX5_findEachOther_72 (by first | exact pg_nar1 | exact pg_nar0 | exact pg_narB) ?_
        first
          | (rw [if_neg (fun e => h_12 (metF_iff.mp e).1)] at k; exact k)
          | (rw [if_neg (fun e => h_21 (metF_iff.mp e).2.1)] at k; exact k)
          | (rw [if_neg (fun e => (metF_iff.mp e).2.2.1 h_30)] at k; exact k)
          | (rw [if_neg (fun e => (metF_iff.mp e).2.2.2.1 h_39)] at k; exact k)
          | (rw [if_neg (fun e => pg_lt_nle h_64 (metF_iff.mp e).2.2.2.2)] at k; exact k)
          | (rw [if_pos (metF_iff.mpr ⟨h_12, h_21, h_30, h_39, pg_nlt_le h_64⟩)] at k; exact k)
      · refine go_aload_n (pc' := 34) dX5_findEachOther_33 rfl rfl ?_
        refine go_getR (pc' := 37) dX5_findEachOther_34 rfl flRX5_33 rfl rfl ?_
        refine go_iload_n (pc' := 38) dX5_findEachOther_37 rfl rfl ?_
        refine go_iald (pc' := 39) _ dX5_findEachOther_38 rfl rfl rfl (by omega) (by decide) ?_
        rw [hl _ (by omega)]
        refine go_if_eq (pc' := 42) (tgt := 71) dX5_findEachOther_39 rfl (by decide) (fun h_39 => ?_) (fun h_39 => ?_)
        · refine go_iconst (pc' := 72) 0 dX5_findEachOther_71 rfl (by decide) ?_
          refine go_iret dX5_findEachOther_72 (by first | exact pg_nar1 | exact pg_nar0 | exact pg_narB) ?_
          first
            | (rw [if_neg (fun e => h_12 (metF_iff.mp e).1)] at k; exact k)
            | (rw [if_neg (fun e => h_21 (metF_iff.mp e).2.1)] at k; exact k)
            | (rw [if_neg (fun e => (metF_iff.mp e).2.2.1 h_30)] at k; exact k)
            | (rw [if_neg (fun e => (metF_iff.mp e).2.2.2.1 h_39)] at k; exact k)
            | (rw [if_neg (fun e => pg_lt_nle h_64 (metF_iff.mp e).2.2.2.2)] at k; exact k)
            | (rw [if_pos (metF_iff.mpr ⟨h_12, h_21, h_30, h_39, pg_nlt_le h_64⟩)] at k; exact k)
        · refine go_aload_n (pc' := 43) dX5_findEachOther_42 rfl rfl ?_
          refine go_getR (pc' := 46) dX5_findEachOther_43 rfl flRX5_33 rfl rfl ?_
          refine go_iload_n (pc' := 47) dX5_findEachOther_46 rfl rfl ?_
          refine go_iald (pc' := 48) _ dX5_findEachOther_47 rfl rfl rfl (by omega) (by decide) ?_
          rw [hl _ (by omega)]
          refine go_aload_n (pc' := 49) dX5_findEachOther_48 rfl rfl ?_
          refine go_getR (pc' := 52) dX5_findEachOther_49 rfl flRX5_33 rfl rfl ?_
          refine go_iload_n (pc' := 53) dX5_findEachOther_52 rfl rfl ?_
          refine go_iald (pc' := 54) _ dX5_findEachOther_53 rfl rfl rfl (by omega) (by decide) ?_
          rw [hl _ (by omega)]
          refine go_isub (pc' := 55) dX5_findEachOther_54 rfl ?_
          refine go_mabs (pc' := 58) dX5_findEachOther_55 rfl mw_abs1 mw_abs2 mw_ini mw_abs4 (by decide) (Nat.le_of_ble_eq_true rfl) ?_
          refine go_aload_n (pc' := 59) dX5_findEachOther_58 rfl rfl ?_
          refine go_getR (pc' := 62) dX5_findEachOther_59 rfl flRX5_9 rfl rfl ?_
          refine go_iconst (pc' := 63) 2 dX5_findEachOther_62 rfl (by decide) ?_
          refine go_iald (pc' := 64) 2 dX5_findEachOther_63 rfl rfl rfl (by decide) (by decide) ?_
          rw [c10_law h (by first | decide | omega)]
          refine go_icmp_gt (pc' := 67) (tgt := 71) dX5_findEachOther_64 rfl (by decide) (fun h_64 => ?_) (fun h_64 => ?_)
          · refine go_iconst (pc' := 72) 0 dX5_findEachOther_71 rfl (by decide) ?_
            refine go_iret dX5_findEachOther_72 (by first | exact pg_nar1 | exact pg_nar0 | exact pg_narB) ?_
            first
              | (rw [if_neg (fun e => h_12 (metF_iff.mp e).1)] at k; exact k)
              | (rw [if_neg (fun e => h_21 (metF_iff.mp e).2.1)] at k; exact k)
              | (rw [if_neg (fun e => (metF_iff.mp e).2.2.1 h_30)] at k; exact k)
              | (rw [if_neg (fun e => (metF_iff.mp e).2.2.2.1 h_39)] at k; exact k)
              | (rw [if_neg (fun e => pg_lt_nle h_64 (metF_iff.mp e).2.2.2.2)] at k; exact k)
              | (rw [if_pos (metF_iff.mpr ⟨h_12, h_21, h_30, h_39, pg_nlt_le h_64⟩)] at k; exact k)
          · refine go_iconst (pc' := 68) 1 dX5_findEachOther_67 rfl (by decide) ?_
            refine go_goto (pc' := 72) dX5_findEachOther_68 (by decide) ?_
            refine go_iret dX5_findEachOther_72 (by first | exact pg_nar1 | exact pg_nar0 | exact pg_narB) ?_
            first
              | (rw [if_neg (fun e => h_12 (metF_iff.mp e).1)] at k; exact k)
              | (rw [if_neg (fun e => h_21 (metF_iff.mp e).2.1)] at k; exact k)
              | (rw [if_neg (fun e => (metF_iff.mp e).2.2.1 h_30)] at k; exact k)
              | (rw [if_neg (fun e => (metF_iff.mp e).2.2.2.1 h_39)] at k; exact k)
              | (rw [if_neg (fun e => pg_lt_nle h_64 (metF_iff.mp e).2.2.2.2)] at k; exact k)
              | (rw [if_pos (metF_iff.mpr ⟨h_12, h_21, h_30, h_39, pg_nlt_le h_64⟩)] at k; exact k)

set_option maxHeartbeats 4000000 in
set_option maxRecDepth 20000 in
theorem l1_10 {sc : pg_Sc} {Q : pg_Q} {T : TW} {n : Nat} (wf : WF T n) : ∀ (m : Nat) (i : Nat) (g : pg_S), i + m = n → CR g 10 (T1F T i) n → (∀ j, j < i → g.1 18 j = leanF T j (T 8 1)) → (∀ g', CR g' 10 (T1F T n) n → (∀ j, j < n → g'.1 18 j = leanF T j (T 8 1)) → FR 10 19 g g' → pg_Go sc 3 mX5_spendHour 54 [(0, .ref 10), (1, .int (nI n))] [] g' Q) → pg_Go sc 3 mX5_spendHour 2 [(0, .ref 10), (1, .int (nI i))] [] g Q := by
  intro m
  induction m with
  | zero =>
    intro i g hi h hl k
    obtain rfl : i = n := by omega
    refine go_iload_n (pc' := 3) dX5_spendHour_2 rfl rfl ?_
    refine go_aload_n (pc' := 4) dX5_spendHour_3 rfl rfl ?_
    refine go_getI (pc' := 7) dX5_spendHour_4 rfl flRX5_36 rfl rfl ?_
    rw [c10_people h]
    refine go_icmp_ge (pc' := 10) (tgt := 54) dX5_spendHour_7 rfl (by decide) (fun h_7 => ?_) (fun h_7 => absurd (Int32.le_refl _) h_7)
    exact k _ h hl FR.rf
  | succ m ih =>
    intro i g hi h hl k
    have hn := wf.1
    have hin : i < n := by omega
    refine go_iload_n (pc' := 3) dX5_spendHour_2 rfl rfl ?_
    refine go_aload_n (pc' := 4) dX5_spendHour_3 rfl rfl ?_
    refine go_getI (pc' := 7) dX5_spendHour_4 rfl flRX5_36 rfl rfl ?_
    rw [c10_people h]
    refine go_icmp_ge (pc' := 10) (tgt := 54) dX5_spendHour_7 rfl (by decide) (fun h_7 => absurd h_7 (nI_ge hin (by omega))) (fun h_7 => ?_)
    refine go_aload_n (pc' := 11) dX5_spendHour_10 rfl rfl ?_
    refine go_getR (pc' := 14) dX5_spendHour_11 rfl flRX5_27 rfl rfl ?_
    refine go_iload_n (pc' := 15) dX5_spendHour_14 rfl rfl ?_
    refine go_aload_n (pc' := 16) dX5_spendHour_15 rfl rfl ?_
    refine go_getR (pc' := 19) dX5_spendHour_16 rfl flRX5_27 rfl rfl ?_
    refine go_iload_n (pc' := 20) dX5_spendHour_19 rfl rfl ?_
    refine go_iald (pc' := 21) _ dX5_spendHour_20 rfl rfl rfl (by omega) (by decide) ?_
    rw [c10_place h hin, T1F_ge (Nat.le_refl _)]
    refine go_aload_n (pc' := 22) dX5_spendHour_21 rfl rfl ?_
    refine go_iload_n (pc' := 23) dX5_spendHour_22 rfl rfl ?_
    refine go_cVi1 (pc' := 26) (M' := mX5_strideOf) (d' := 1) dX5_spendHour_23 rfl cvRX5_61 rfl rfl (by decide) rfl (Nat.le_of_ble_eq_true rfl) ?_
    refine tX5_strideOf_10 h (T1F_wf wf) hin ?_
    rw [T1F_stride]
    refine go_iadd (pc' := 27) dX5_spendHour_26 rfl ?_
    refine go_bipush (pc' := 29) 12 dX5_spendHour_27 rfl (by decide) ?_
    refine go_fm (pc' := 32) dX5_spendHour_29 rfl mw_fm1 mw_fm2 mw_ini mw_fm4 (by decide) (Nat.le_of_ble_eq_true rfl) (by decide) ?_
    rw [(wf.fm hin).1]
    refine go_iast (pc' := 33) _ dX5_spendHour_32 rfl rfl rfl (by omega) (by decide) ?_
    have h1 := h.put (a := 5) (i := i) (v := placeF T i) (by decide) (by decide)
    rw [← T1F_s] at h1
    refine go_aload_n (pc' := 34) dX5_spendHour_33 rfl rfl ?_
    refine go_getR (pc' := 37) dX5_spendHour_34 rfl flRX5_33 rfl rfl ?_
    refine go_iload_n (pc' := 38) dX5_spendHour_37 rfl rfl ?_
    refine go_aload_n (pc' := 39) dX5_spendHour_38 rfl rfl ?_
    refine go_iload_n (pc' := 40) dX5_spendHour_39 rfl rfl ?_
    refine go_aload_n (pc' := 41) dX5_spendHour_40 rfl rfl ?_
    refine go_getI (pc' := 44) dX5_spendHour_41 rfl flRX5_40 rfl rfl ?_
    rw [c10_hour h1, T1F_ne (by decide)]
    refine go_cVi2 (pc' := 47) (M' := mX5_leanAt) (d' := 1) dX5_spendHour_44 rfl cvRX5_71 rfl rfl (by decide) rfl (Nat.le_of_ble_eq_true rfl) ?_
    refine tX5_leanAt_10 h1 (T1F_wf wf) hin ?_
    rw [T1F_lean]
    refine go_iast (pc' := 48) _ dX5_spendHour_47 rfl rfl rfl (by omega) (by decide) ?_
    have h2 := h1.lean (i := i) (v := leanF T i (T 8 1))
    refine go_iinc (pc' := 51) _ dX5_spendHour_48 rfl rfl (pg_inc _) (by decide) rfl ?_
    refine go_goto (pc' := 2) dX5_spendHour_51 (by decide) ?_
    refine ih (i + 1) _ (by omega) h2 (fun j hj => ?_) (fun g' a b c => k g' a b (FR.tr (FR.tr (FR.ui (by decide)) (FR.ui (by decide))) c))
    show pg_ui (pg_ui g.1 16 i (placeF T i)) 18 i (leanF T i (T 8 1)) 18 j = _
    rw [pg_ui_at]
    by_cases e : j = i
    · subst e; rw [if_pos ⟨rfl, rfl⟩]
    · rw [if_neg (fun q => e q.2), pg_ui_at, if_neg (by omega)]; exact hl j (by omega)

set_option maxHeartbeats 4000000 in
set_option maxRecDepth 20000 in
theorem l2_10 {sc : pg_Sc} {Q : pg_Q} {n i : Nat} : ∀ (m : Nat) (j : Nat) (T : TW) (g : pg_S), j + m = n → i < j → WF T n → CR g 10 T n → (∀ x, x < n → g.1 18 x = leanF (T) x (T 8 1)) → (∀ g', CR g' 10 (pairJ i m j T) n → (∀ x, x < n → g'.1 18 x = leanF (pairJ i m j T) x (pairJ i m j T 8 1)) → FR 10 19 g g' → pg_Go sc 3 mX5_spendHour 97 [(0, .ref 10), (1, .int (nI i)), (2, .int (nI n))] [] g' Q) → pg_Go sc 3 mX5_spendHour 68 [(0, .ref 10), (1, .int (nI i)), (2, .int (nI j))] [] g Q := by
  intro m
  induction m with
  | zero =>
    intro j T g hi hij wf h hl k
    obtain rfl : j = n := by omega
    refine go_iload_n (pc' := 69) dX5_spendHour_68 rfl rfl ?_
    refine go_aload_n (pc' := 70) dX5_spendHour_69 rfl rfl ?_
    refine go_getI (pc' := 73) dX5_spendHour_70 rfl flRX5_36 rfl rfl ?_
    rw [c10_people h]
    refine go_icmp_ge (pc' := 76) (tgt := 97) dX5_spendHour_73 rfl (by decide) (fun h_73 => ?_) (fun h_73 => absurd (Int32.le_refl _) h_73)
    exact k _ h hl FR.rf
  | succ m ih =>
    intro j T g hi hij wf h hl k
    have hn := wf.1
    have hin : j < n := by omega
    simp only [pairJ] at k
    refine go_iload_n (pc' := 69) dX5_spendHour_68 rfl rfl ?_
    refine go_aload_n (pc' := 70) dX5_spendHour_69 rfl rfl ?_
    refine go_getI (pc' := 73) dX5_spendHour_70 rfl flRX5_36 rfl rfl ?_
    rw [c10_people h]
    refine go_icmp_ge (pc' := 76) (tgt := 97) dX5_spendHour_73 rfl (by decide) (fun h_73 => absurd h_73 (nI_ge hin (by omega))) (fun h_73 => ?_)
    refine go_aload_n (pc' := 77) dX5_spendHour_76 rfl rfl ?_
    refine go_iload_n (pc' := 78) dX5_spendHour_77 rfl rfl ?_
    refine go_iload_n (pc' := 79) dX5_spendHour_78 rfl rfl ?_
    refine go_cVi2 (pc' := 82) (M' := mX5_findEachOther) (d' := 2) dX5_spendHour_79 rfl cvRX5_74 rfl rfl (by decide) rfl (Nat.le_of_ble_eq_true rfl) ?_
    refine tX5_findEachOther_10 h wf (by omega) hin hl ?_
    refine go_if_eq (pc' := 85) (tgt := 91) dX5_spendHour_82 rfl (by decide) (fun h_82 => ?_) (fun h_82 => ?_)
    · have h_82 := pg_b0 h_82
      first | (rw [if_neg h_82] at k) | skip
      refine go_iinc (pc' := 94) _ dX5_spendHour_91 rfl rfl (pg_inc _) (by decide) rfl ?_
      refine go_goto (pc' := 68) dX5_spendHour_94 (by decide) ?_
      first
        | exact ih (j + 1) _ _ (by omega) (by omega) (wf.acq (by omega) hin) h1 (fun p hp => by rw [f1.1 18 (by omega), acqF_lean, acqF_lo (by decide)]; exact hl p hp) (fun g' a b c => k g' a b (FR.tr (f1.wd (by decide) (by decide)) c))
        | exact ih (j + 1) _ _ (by omega) (by omega) wf h hl k
    · have h_82 := pg_b1 h_82
      refine go_aload_n (pc' := 86) dX5_spendHour_85 rfl rfl ?_
      refine go_iload_n (pc' := 87) dX5_spendHour_86 rfl rfl ?_
      refine go_iload_n (pc' := 88) dX5_spendHour_87 rfl rfl ?_
      refine go_cVv2 (pc' := 91) (M' := mX5_acquaint) (d' := 1) dX5_spendHour_88 rfl cvRX5_78 rfl rfl (by decide) rfl (Nat.le_of_ble_eq_true rfl) ?_
      rw [if_pos h_82] at k
      refine tX5_acquaint_10 h wf (by omega) hin (fun g1 h1 f1 => ?_)
      first | (rw [if_neg h_82] at k) | skip
      refine go_iinc (pc' := 94) _ dX5_spendHour_91 rfl rfl (pg_inc _) (by decide) rfl ?_
      refine go_goto (pc' := 68) dX5_spendHour_94 (by decide) ?_
      first
        | exact ih (j + 1) _ _ (by omega) (by omega) (wf.acq (by omega) hin) h1 (fun p hp => by rw [f1.1 18 (by omega), acqF_lean, acqF_lo (by decide)]; exact hl p hp) (fun g' a b c => k g' a b (FR.tr (f1.wd (by decide) (by decide)) c))
        | exact ih (j + 1) _ _ (by omega) (by omega) wf h hl k

set_option maxHeartbeats 4000000 in
set_option maxRecDepth 20000 in
theorem l3_10 {sc : pg_Sc} {Q : pg_Q} {n : Nat} : ∀ (m : Nat) (i : Nat) (T : TW) (g : pg_S), i + m = n → WF T n → CR g 10 T n → (∀ x, x < n → g.1 18 x = leanF (T) x (T 8 1)) → (∀ g', CR g' 10 (pairI n m i T) n → FR 10 19 g g' → pg_Go sc 3 mX5_spendHour 103 [(0, .ref 10), (1, .int (nI n))] [] g' Q) → pg_Go sc 3 mX5_spendHour 56 [(0, .ref 10), (1, .int (nI i))] [] g Q := by
  intro m
  induction m with
  | zero =>
    intro i T g hi wf h hl k
    obtain rfl : i = n := by omega
    refine go_iload_n (pc' := 57) dX5_spendHour_56 rfl rfl ?_
    refine go_aload_n (pc' := 58) dX5_spendHour_57 rfl rfl ?_
    refine go_getI (pc' := 61) dX5_spendHour_58 rfl flRX5_36 rfl rfl ?_
    rw [c10_people h]
    refine go_icmp_ge (pc' := 64) (tgt := 103) dX5_spendHour_61 rfl (by decide) (fun h_61 => ?_) (fun h_61 => absurd (Int32.le_refl _) h_61)
    exact k _ h FR.rf
  | succ m ih =>
    intro i T g hi wf h hl k
    have hn := wf.1
    have hin : i < n := by omega
    simp only [pairI] at k
    refine go_iload_n (pc' := 57) dX5_spendHour_56 rfl rfl ?_
    refine go_aload_n (pc' := 58) dX5_spendHour_57 rfl rfl ?_
    refine go_getI (pc' := 61) dX5_spendHour_58 rfl flRX5_36 rfl rfl ?_
    rw [c10_people h]
    refine go_icmp_ge (pc' := 64) (tgt := 103) dX5_spendHour_61 rfl (by decide) (fun h_61 => absurd h_61 (nI_ge hin (by omega))) (fun h_61 => ?_)
    refine go_iload_n (pc' := 65) dX5_spendHour_64 rfl rfl ?_
    refine go_iconst (pc' := 66) 1 dX5_spendHour_65 rfl (by decide) ?_
    refine go_iadd (pc' := 67) dX5_spendHour_66 rfl ?_
    refine go_istore_n (pc' := 68) dX5_spendHour_67 rfl (by decide) rfl ?_
    rw [nI_1]
    refine l2_10 (n - (i + 1)) (i + 1) T g (by omega) (by omega) wf h hl (fun g1 h1 hl1 f1 => ?_)
    refine go_iinc (pc' := 100) _ dX5_spendHour_97 rfl rfl (pg_inc _) (by decide) rfl ?_
    refine go_goto (pc' := 56) dX5_spendHour_100 (by decide) ?_
    refine go_sub [0, 1] rfl ?_
    exact ih (i + 1) _ _ (by omega) (pairJ_wf hin _ _ _ (by omega) wf) h1 hl1 (fun g' a c => k g' a (FR.tr f1 c))

set_option maxHeartbeats 4000000 in
set_option maxRecDepth 20000 in
theorem tX5_spendHour_10 {sc : pg_Sc} {g : pg_S} {K : pg_S → Prop} {T : TW} {n : Nat} (h : CR g 10 T n) (wf : WF T n) (k : ∀ g', CR g' 10 (hourF n T) n → FR 10 19 g g' → K g') : pg_Cal sc 3 mX5_spendHour [.ref 10] g (pg_kv K) := by
  refine pg_Cal.of rfl (Nat.le_of_ble_eq_true rfl) rfl ?_
  refine go_iconst (pc' := 1) 0 dX5_spendHour_0 rfl (by decide) ?_
  refine go_istore_n (pc' := 2) dX5_spendHour_1 rfl (by decide) rfl ?_
  refine l1_10 wf n 0 g (by omega) (by rw [T1F_0]; exact h) (fun j hj => absurd hj (by omega)) (fun g1 h1 hl1 f1 => ?_)
  refine go_iconst (pc' := 55) 0 dX5_spendHour_54 rfl (by decide) ?_
  refine go_istore_n (pc' := 56) dX5_spendHour_55 rfl (by decide) rfl ?_
  refine l3_10 n 0 (T1F T n) g1 (by omega) (T1F_wf wf) h1 (fun j hj => by rw [T1F_lean, T1F_ne (by decide)]; exact hl1 j hj) (fun g2 h2 f2 => ?_)
  refine go_aload_n (pc' := 104) dX5_spendHour_103 rfl rfl ?_
  refine go_dup (pc' := 105) dX5_spendHour_104 rfl rfl ?_
  refine go_getI (pc' := 108) dX5_spendHour_105 rfl flRX5_40 rfl rfl ?_
  rw [c10_hour h2]
  refine go_iconst (pc' := 109) 1 dX5_spendHour_108 rfl (by decide) ?_
  refine go_iadd (pc' := 110) dX5_spendHour_109 rfl ?_
  refine go_putI (pc' := 113) dX5_spendHour_110 rfl flRX5_40 rfl rfl ft5_9 ?_
  refine go_vret dX5_spendHour_113 rfl ?_
  exact k _ (h2.scal (i := 1) (by decide)) (FR.tr (FR.tr f1 f2) (FR.ui (by decide)))

