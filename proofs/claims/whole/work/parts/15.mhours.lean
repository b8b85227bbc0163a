set_option maxHeartbeats 4000000 in
set_option maxRecDepth 20000 in
theorem tX7_areAlike {sc : pg_Sc} {g : pg_S} {K : Int32 → pg_S → Prop} {T : TW} {n p q : Nat} (h : MR g 60 T n) (wf : WF T n) (hp : p < n) (hq : q < n) (k : K (if T 3 p = T 3 q ∨ T 3 p = 5 ∨ T 3 q = 5 then 1 else 0) g) : pg_Cal sc 2 mX7_areAlike [.ref 59, .int (nI p), .int (nI q)] g (pg_ki K) := by
  refine pg_Cal.of rfl (Nat.le_of_ble_eq_true rfl) rfl ?_
  have hn := wf.1
  refine go_aload_n (pc' := 1) dX7_areAlike_0 rfl rfl ?_
  refine go_iload_n (pc' := 2) dX7_areAlike_1 rfl rfl ?_
  refine go_iconst (pc' := 3) 1 dX7_areAlike_2 rfl (by decide) ?_
  refine go_cVi2 (pc' := 6) (M' := mX7_its) (d' := 1) dX7_areAlike_3 rfl cvRX7_217 rfl rfl (by decide) rfl (Nat.le_of_ble_eq_true rfl) ?_
  refine tX7_its1 h wf hp ?_
  refine go_aload_n (pc' := 7) dX7_areAlike_6 rfl rfl ?_
  refine go_iload_n (pc' := 8) dX7_areAlike_7 rfl rfl ?_
  refine go_iconst (pc' := 9) 1 dX7_areAlike_8 rfl (by decide) ?_
  refine go_cVi2 (pc' := 12) (M' := mX7_its) (d' := 1) dX7_areAlike_9 rfl cvRX7_217 rfl rfl (by decide) rfl (Nat.le_of_ble_eq_true rfl) ?_
  refine tX7_its1 h wf hq ?_
  refine go_icmp_eq (pc' := 15) (tgt := 35) dX7_areAlike_12 rfl (by decide) (fun h_12 => ?_) (fun h_12 => ?_)
  · refine go_iconst (pc' := 36) 1 dX7_areAlike_35 rfl (by decide) ?_
    refine go_goto (pc' := 40) dX7_areAlike_36 (by decide) ?_
    refine go_iret dX7_areAlike_40 (by first | exact pg_nar1 | exact pg_nar0 | exact pg_narB) ?_
    first | (rw [if_pos (by first | exact Or.inl h_12 | exact Or.inr (Or.inl h_22) | exact Or.inr (Or.inr h_32))] at k; exact k) | (rw [if_neg (fun q => by rcases q with q | q | q <;> contradiction)] at k; exact k)
  · refine go_aload_n (pc' := 16) dX7_areAlike_15 rfl rfl ?_
    refine go_iload_n (pc' := 17) dX7_areAlike_16 rfl rfl ?_
    refine go_iconst (pc' := 18) 1 dX7_areAlike_17 rfl (by decide) ?_
    refine go_cVi2 (pc' := 21) (M' := mX7_its) (d' := 1) dX7_areAlike_18 rfl cvRX7_217 rfl rfl (by decide) rfl (Nat.le_of_ble_eq_true rfl) ?_
    refine tX7_its1 h wf hp ?_
    refine go_iconst (pc' := 22) 5 dX7_areAlike_21 rfl (by decide) ?_
    refine go_icmp_eq (pc' := 25) (tgt := 35) dX7_areAlike_22 rfl (by decide) (fun h_22 => ?_) (fun h_22 => ?_)
    · refine go_iconst (pc' := 36) 1 dX7_areAlike_35 rfl (by decide) ?_
      refine go_goto (pc' := 40) dX7_areAlike_36 (by decide) ?_
      refine go_iret dX7_areAlike_40 (by first | exact pg_nar1 | exact pg_nar0 | exact pg_narB) ?_
      first | (rw [if_pos (by first | exact Or.inl h_12 | exact Or.inr (Or.inl h_22) | exact Or.inr (Or.inr h_32))] at k; exact k) | (rw [if_neg (fun q => by rcases q with q | q | q <;> contradiction)] at k; exact k)
    · refine go_aload_n (pc' := 26) dX7_areAlike_25 rfl rfl ?_
      refine go_iload_n (pc' := 27) dX7_areAlike_26 rfl rfl ?_
      refine go_iconst (pc' := 28) 1 dX7_areAlike_27 rfl (by decide) ?_
      refine go_cVi2 (pc' := 31) (M' := mX7_its) (d' := 1) dX7_areAlike_28 rfl cvRX7_217 rfl rfl (by decide) rfl (Nat.le_of_ble_eq_true rfl) ?_
      refine tX7_its1 h wf hq ?_
      refine go_iconst (pc' := 32) 5 dX7_areAlike_31 rfl (by decide) ?_
      refine go_icmp_ne (pc' := 35) (tgt := 39) dX7_areAlike_32 rfl (by decide) (fun h_32 => ?_) (fun h_32 => ?_)
      · refine go_iconst (pc' := 40) 0 dX7_areAlike_39 rfl (by decide) ?_
        refine go_iret dX7_areAlike_40 (by first | exact pg_nar1 | exact pg_nar0 | exact pg_narB) ?_
        first | (rw [if_pos (by first | exact Or.inl h_12 | exact Or.inr (Or.inl h_22) | exact Or.inr (Or.inr h_32))] at k; exact k) | (rw [if_neg (fun q => by rcases q with q | q | q <;> contradiction)] at k; exact k)
      · refine go_iconst (pc' := 36) 1 dX7_areAlike_35 rfl (by decide) ?_
        refine go_goto (pc' := 40) dX7_areAlike_36 (by decide) ?_
        refine go_iret dX7_areAlike_40 (by first | exact pg_nar1 | exact pg_nar0 | exact pg_narB) ?_
        first | (rw [if_pos (by first | exact Or.inl h_12 | exact Or.inr (Or.inl h_22) | exact Or.inr (Or.inr h_32))] at k; exact k) | (rw [if_neg (fun q => by rcases q with q | q | q <;> contradiction)] at k; exact k)

set_option maxHeartbeats 4000000 in
set_option maxRecDepth 20000 in
theorem tX7_feelEachOther {sc : pg_Sc} {g : pg_S} {K : Int32 → pg_S → Prop} {T : TW} {n p q : Nat} (h : MR g 60 T n) (wf : WF T n) (hp : p < n) (hq : q < n) (k : K (if leanF T p (T 8 1) ≠ 0 ∧ leanF T q (T 8 1) ≠ 0 ∧ absF (leanF T p (T 8 1) - leanF T q (T 8 1)) ≤ T 0 2 then 1 else 0) g) : pg_Cal sc 3 mX7_feelEachOther [.ref 59, .int (nI p), .int (nI q)] g (pg_ki K) := by
  refine pg_Cal.of rfl (Nat.le_of_ble_eq_true rfl) rfl ?_
  have hn := wf.1
  obtain ⟨u, hu, eu⟩ := wf.lean (hr := T 8 1) hp
  obtain ⟨x, hx, ex⟩ := wf.lean (hr := T 8 1) hq
  obtain ⟨v, hv, ev⟩ := wf.room
  have hroom : absF (leanF T p (T 8 1) - leanF T q (T 8 1)) ≤ T 0 2 ↔ -T 0 2 ≤ leanF T p (T 8 1) - leanF T q (T 8 1) ∧ leanF T p (T 8 1) - leanF T q (T 8 1) ≤ T 0 2 := by
    rw [eu, ex, ev]; exact room_eq u hu x hx v hv
  refine go_aload_n (pc' := 1) dX7_feelEachOther_0 rfl rfl ?_
  refine go_iload_n (pc' := 2) dX7_feelEachOther_1 rfl rfl ?_
  refine go_aload_n (pc' := 3) dX7_feelEachOther_2 rfl rfl ?_
  refine go_getR (pc' := 6) dX7_feelEachOther_3 rfl flRX7_7 rfl rfl ?_
  refine go_iconst (pc' := 7) 4 dX7_feelEachOther_6 rfl (by decide) ?_
  refine go_iald (pc' := 8) 4 dX7_feelEachOther_7 rfl rfl rfl (by decide) (by decide) ?_
  rw [m60_hour h]
  refine go_cVi2 (pc' := 11) (M' := mX7_leaning) (d' := 2) dX7_feelEachOther_8 rfl cvRX7_226 rfl rfl (by decide) rfl (Nat.le_of_ble_eq_true rfl) ?_
  refine tX7_leaning h wf hp ?_
  refine go_istore_n (pc' := 12) dX7_feelEachOther_11 rfl (by decide) rfl ?_
  refine go_aload_n (pc' := 13) dX7_feelEachOther_12 rfl rfl ?_
  refine go_iload_n (pc' := 14) dX7_feelEachOther_13 rfl rfl ?_
  refine go_aload_n (pc' := 15) dX7_feelEachOther_14 rfl rfl ?_
  refine go_getR (pc' := 18) dX7_feelEachOther_15 rfl flRX7_7 rfl rfl ?_
  refine go_iconst (pc' := 19) 4 dX7_feelEachOther_18 rfl (by decide) ?_
  refine go_iald (pc' := 20) 4 dX7_feelEachOther_19 rfl rfl rfl (by decide) (by decide) ?_
  rw [m60_hour h]
  refine go_cVi2 (pc' := 23) (M' := mX7_leaning) (d' := 2) dX7_feelEachOther_20 rfl cvRX7_226 rfl rfl (by decide) rfl (Nat.le_of_ble_eq_true rfl) ?_
  refine tX7_leaning h wf hq ?_
  refine go_istore (pc' := 25) dX7_feelEachOther_23 rfl (by decide) rfl ?_
  refine go_iload_n (pc' := 26) dX7_feelEachOther_25 rfl rfl ?_
  refine go_if_eq (pc' := 29) (tgt := 61) dX7_feelEachOther_26 rfl (by decide) (fun h_26 => ?_) (fun h_26 => ?_)
  · refine go_iconst (pc' := 62) 0 dX7_feelEachOther_61 rfl (by decide) ?_
    refine go_iret dX7_feelEachOther_62 (by first | exact pg_nar1 | exact pg_nar0 | exact pg_narB) ?_
    rw [if_neg (fun e => e.1 h_26)] at k
    exact k
  · refine go_iload (pc' := 31) dX7_feelEachOther_29 rfl rfl ?_
    refine go_if_eq (pc' := 34) (tgt := 61) dX7_feelEachOther_31 rfl (by decide) (fun h_31 => ?_) (fun h_31 => ?_)
    · refine go_iconst (pc' := 62) 0 dX7_feelEachOther_61 rfl (by decide) ?_
      refine go_iret dX7_feelEachOther_62 (by first | exact pg_nar1 | exact pg_nar0 | exact pg_narB) ?_
      rw [if_neg (fun e => e.2.1 h_31)] at k
      exact k
    · refine go_iload_n (pc' := 35) dX7_feelEachOther_34 rfl rfl ?_
      refine go_iload (pc' := 37) dX7_feelEachOther_35 rfl rfl ?_
      refine go_isub (pc' := 38) dX7_feelEachOther_37 rfl ?_
      refine go_aload_n (pc' := 39) dX7_feelEachOther_38 rfl rfl ?_
      refine go_getR (pc' := 42) dX7_feelEachOther_39 rfl flRX7_7 rfl rfl ?_
      refine go_iconst (pc' := 43) 2 dX7_feelEachOther_42 rfl (by decide) ?_
      refine go_iald (pc' := 44) 2 dX7_feelEachOther_43 rfl rfl rfl (by decide) (by decide) ?_
      rw [m60_law h (by decide)]
      refine go_ineg (pc' := 45) dX7_feelEachOther_44 rfl ?_
      refine go_aload_n (pc' := 46) dX7_feelEachOther_45 rfl rfl ?_
      refine go_getR (pc' := 49) dX7_feelEachOther_46 rfl flRX7_7 rfl rfl ?_
      refine go_iconst (pc' := 50) 2 dX7_feelEachOther_49 rfl (by decide) ?_
      refine go_iald (pc' := 51) 2 dX7_feelEachOther_50 rfl rfl rfl (by decide) (by decide) ?_
      rw [m60_law h (by decide)]
      refine go_cSi3 (pc' := 54) (M' := mX7_in) (d' := 1) dX7_feelEachOther_51 rfl csRX7_60 (by decide) rfl (Nat.le_of_ble_eq_true rfl) ?_
      refine tX7_in ?_
      refine go_if_eq (pc' := 57) (tgt := 61) dX7_feelEachOther_54 rfl (by decide) (fun h_54 => ?_) (fun h_54 => ?_)
      · have h_54 := pg_b0 h_54
        refine go_iconst (pc' := 62) 0 dX7_feelEachOther_61 rfl (by decide) ?_
        refine go_iret dX7_feelEachOther_62 (by first | exact pg_nar1 | exact pg_nar0 | exact pg_narB) ?_
        rw [if_neg (fun e => h_54 (hroom.mp e.2.2))] at k
        exact k
      · have h_54 := pg_b1 h_54
        refine go_iconst (pc' := 58) 1 dX7_feelEachOther_57 rfl (by decide) ?_
        refine go_goto (pc' := 62) dX7_feelEachOther_58 (by decide) ?_
        refine go_iret dX7_feelEachOther_62 (by first | exact pg_nar1 | exact pg_nar0 | exact pg_narB) ?_
        rw [if_pos ⟨h_26, h_31, hroom.mpr h_54⟩] at k
        exact k

set_option maxHeartbeats 4000000 in
set_option maxRecDepth 20000 in
theorem tX7_meets1 {sc : pg_Sc} {g : pg_S} {K : pg_S → Prop} {T : TW} {n p q : Nat} (h : MR g 60 T n) (wf : WF T n) (hp : p < n) (hq : q < n) (k : ∀ g', MR g' 60 (acqF T p q) n → FR 60 61 g g' → K g') : pg_Cal sc 2 mX7_meets [.ref 59, .int (nI p), .int (nI q), .int 1] g (pg_kv K) := by
  refine pg_Cal.of rfl (Nat.le_of_ble_eq_true rfl) rfl ?_
  have hn := wf.1
  refine go_aload_n (pc' := 1) dX7_meets_0 rfl rfl ?_
  refine go_iload_n (pc' := 2) dX7_meets_1 rfl rfl ?_
  refine go_iconst (pc' := 3) 4 dX7_meets_2 rfl (by decide) ?_
  refine go_iload_n (pc' := 4) dX7_meets_3 rfl rfl ?_
  refine go_if_eq (pc' := 7) (tgt := 20) dX7_meets_4 rfl (by decide) (fun h_4 => absurd h_4 (by decide)) (fun h_4 => ?_)
  refine go_aload_n (pc' := 8) dX7_meets_7 rfl rfl ?_
  refine go_iload_n (pc' := 9) dX7_meets_8 rfl rfl ?_
  refine go_iconst (pc' := 10) 4 dX7_meets_9 rfl (by decide) ?_
  refine go_cVi2 (pc' := 13) (M' := mX7_its) (d' := 1) dX7_meets_10 rfl cvRX7_217 rfl rfl (by decide) rfl (Nat.le_of_ble_eq_true rfl) ?_
  refine tX7_its4 h wf hp ?_
  refine go_iconst (pc' := 14) 1 dX7_meets_13 rfl (by decide) ?_
  refine go_iload_n (pc' := 15) dX7_meets_14 rfl rfl ?_
  refine go_ishl (pc' := 16) dX7_meets_15 rfl ?_
  refine go_ior (pc' := 17) dX7_meets_16 rfl ?_
  refine go_goto (pc' := 32) dX7_meets_17 (by decide) ?_
  refine go_cVv3 (pc' := 35) (M' := mX7_sets) (d' := 1) dX7_meets_32 rfl cvRX7_213 rfl rfl (by decide) rfl (Nat.le_of_ble_eq_true rfl) ?_
  refine tX7_sets (p := p) (q := 4) (by omega) (by decide) ?_
  have h2 := h.put (a := 4) (i := p) (v := T 6 p ||| (1 : Int32) <<< (nI q &&& 31)) (by decide)
  have wf2 := wf.acq1 hp hq
  refine go_aload_n (pc' := 36) dX7_meets_35 rfl rfl ?_
  refine go_iload_n (pc' := 37) dX7_meets_36 rfl rfl ?_
  refine go_iconst (pc' := 38) 4 dX7_meets_37 rfl (by decide) ?_
  refine go_iload_n (pc' := 39) dX7_meets_38 rfl rfl ?_
  refine go_if_eq (pc' := 42) (tgt := 55) dX7_meets_39 rfl (by decide) (fun h_39 => absurd h_39 (by decide)) (fun h_39 => ?_)
  refine go_aload_n (pc' := 43) dX7_meets_42 rfl rfl ?_
  refine go_iload_n (pc' := 44) dX7_meets_43 rfl rfl ?_
  refine go_iconst (pc' := 45) 4 dX7_meets_44 rfl (by decide) ?_
  refine go_cVi2 (pc' := 48) (M' := mX7_its) (d' := 1) dX7_meets_45 rfl cvRX7_217 rfl rfl (by decide) rfl (Nat.le_of_ble_eq_true rfl) ?_
  refine tX7_its4 h2 wf2 hq ?_
  refine go_iconst (pc' := 49) 1 dX7_meets_48 rfl (by decide) ?_
  refine go_iload_n (pc' := 50) dX7_meets_49 rfl rfl ?_
  refine go_ishl (pc' := 51) dX7_meets_50 rfl ?_
  refine go_ior (pc' := 52) dX7_meets_51 rfl ?_
  refine go_goto (pc' := 67) dX7_meets_52 (by decide) ?_
  refine go_cVv3 (pc' := 70) (M' := mX7_sets) (d' := 1) dX7_meets_67 rfl cvRX7_213 rfl rfl (by decide) rfl (Nat.le_of_ble_eq_true rfl) ?_
  refine tX7_sets (p := q) (q := 4) (by omega) (by decide) ?_
  refine go_vret dX7_meets_70 rfl ?_
  exact k _ (h2.put (a := 4) (i := q) (by decide)) (FR.tr (FR.ui (by decide)) (FR.ui (by decide)))

set_option maxHeartbeats 4000000 in
set_option maxRecDepth 20000 in
theorem ml1 {sc : pg_Sc} {Q : pg_Q} {T : TW} {n : Nat} (wf : WF T n) : ∀ (m : Nat) (i : Nat) (g : pg_S), i + m = n → MR g 60 (T1F T i) n → (∀ g', MR g' 60 (T1F T n) n → FR 60 61 g g' → pg_Go sc 4 mX7_hourGoes 42 [(0, .ref 59), (1, .int (nI n))] [] g' Q) → pg_Go sc 4 mX7_hourGoes 2 [(0, .ref 59), (1, .int (nI i))] [] g Q := by
  intro m
  induction m with
  | zero =>
    intro i g hi h k
    obtain rfl : i = n := by omega
    refine go_iload_n (pc' := 3) dX7_hourGoes_2 rfl rfl ?_
    refine go_aload_n (pc' := 4) dX7_hourGoes_3 rfl rfl ?_
    refine go_getR (pc' := 7) dX7_hourGoes_4 rfl flRX7_7 rfl rfl ?_
    refine go_iconst (pc' := 8) 5 dX7_hourGoes_7 rfl (by decide) ?_
    refine go_iald (pc' := 9) 5 dX7_hourGoes_8 rfl rfl rfl (by decide) (by decide) ?_
    rw [m60_people h]
    refine go_icmp_ge (pc' := 12) (tgt := 42) dX7_hourGoes_9 rfl (by decide) (fun h_9 => ?_) (fun h_9 => absurd (Int32.le_refl _) h_9)
    exact k _ h FR.rf
  | succ m ih =>
    intro i g hi h k
    have hn := wf.1
    have hin : i < n := by omega
    have wf1 := T1F_wf (i := i) wf
    refine go_iload_n (pc' := 3) dX7_hourGoes_2 rfl rfl ?_
    refine go_aload_n (pc' := 4) dX7_hourGoes_3 rfl rfl ?_
    refine go_getR (pc' := 7) dX7_hourGoes_4 rfl flRX7_7 rfl rfl ?_
    refine go_iconst (pc' := 8) 5 dX7_hourGoes_7 rfl (by decide) ?_
    refine go_iald (pc' := 9) 5 dX7_hourGoes_8 rfl rfl rfl (by decide) (by decide) ?_
    rw [m60_people h]
    refine go_icmp_ge (pc' := 12) (tgt := 42) dX7_hourGoes_9 rfl (by decide) (fun h_9 => absurd h_9 (nI_ge hin (by omega))) (fun h_9 => ?_)
    refine go_aload_n (pc' := 13) dX7_hourGoes_12 rfl rfl ?_
    refine go_iload_n (pc' := 14) dX7_hourGoes_13 rfl rfl ?_
    refine go_iconst (pc' := 15) 3 dX7_hourGoes_14 rfl (by decide) ?_
    refine go_aload_n (pc' := 16) dX7_hourGoes_15 rfl rfl ?_
    refine go_iload_n (pc' := 17) dX7_hourGoes_16 rfl rfl ?_
    refine go_iconst (pc' := 18) 3 dX7_hourGoes_17 rfl (by decide) ?_
    refine go_cVi2 (pc' := 21) (M' := mX7_its) (d' := 1) dX7_hourGoes_18 rfl cvRX7_217 rfl rfl (by decide) rfl (Nat.le_of_ble_eq_true rfl) ?_
    refine tX7_its3 h wf1 hin ?_
    rw [T1F_ge (Nat.le_refl _)]
    refine go_aload_n (pc' := 22) dX7_hourGoes_21 rfl rfl ?_
    refine go_iload_n (pc' := 23) dX7_hourGoes_22 rfl rfl ?_
    refine go_cVi1 (pc' := 26) (M' := mX7_striding) (d' := 2) dX7_hourGoes_23 rfl cvRX7_229 rfl rfl (by decide) rfl (Nat.le_of_ble_eq_true rfl) ?_
    refine tX7_striding h wf1 hin ?_
    rw [T1F_stride]
    refine go_iadd (pc' := 27) dX7_hourGoes_26 rfl ?_
    refine go_bipush (pc' := 29) 24 dX7_hourGoes_27 rfl (by decide) ?_
    refine go_iadd (pc' := 30) dX7_hourGoes_29 rfl ?_
    refine go_bipush (pc' := 32) 12 dX7_hourGoes_30 rfl (by decide) ?_
    refine go_irem (pc' := 33) dX7_hourGoes_32 rfl (by decide) ?_
    refine go_cVv3 (pc' := 36) (M' := mX7_sets) (d' := 1) dX7_hourGoes_33 rfl cvRX7_213 rfl rfl (by decide) rfl (Nat.le_of_ble_eq_true rfl) ?_
    refine tX7_sets (p := i) (q := 3) (by omega) (by decide) ?_
    have h1 := h.put (a := 3) (i := i) (v := placeF T i) (by decide)
    rw [← T1F_s] at h1
    refine go_iinc (pc' := 39) _ dX7_hourGoes_36 rfl rfl (pg_inc _) (by decide) rfl ?_
    refine go_goto (pc' := 2) dX7_hourGoes_39 (by decide) ?_
    exact ih (i + 1) _ (by omega) h1 (fun g' a c => k g' a (FR.tr (FR.ui (by decide)) c))

set_option maxHeartbeats 4000000 in
set_option maxRecDepth 20000 in
theorem ml2 {sc : pg_Sc} {Q : pg_Q} {n i : Nat} : ∀ (m : Nat) (j : Nat) (T : TW) (g : pg_S), j + m = n → i < j → WF T n → MR g 60 T n → (∀ g', MR g' 60 (pairJ i m j T) n → FR 60 61 g g' → pg_Go sc 4 mX7_hourGoes 114 [(0, .ref 59), (1, .int (nI i)), (2, .int (nI n))] [] g' Q) → pg_Go sc 4 mX7_hourGoes 58 [(0, .ref 59), (1, .int (nI i)), (2, .int (nI j))] [] g Q := by
  intro m
  induction m with
  | zero =>
    intro j T g hi hij wf h k
    obtain rfl : j = n := by omega
    refine go_iload_n (pc' := 59) dX7_hourGoes_58 rfl rfl ?_
    refine go_aload_n (pc' := 60) dX7_hourGoes_59 rfl rfl ?_
    refine go_getR (pc' := 63) dX7_hourGoes_60 rfl flRX7_7 rfl rfl ?_
    refine go_iconst (pc' := 64) 5 dX7_hourGoes_63 rfl (by decide) ?_
    refine go_iald (pc' := 65) 5 dX7_hourGoes_64 rfl rfl rfl (by decide) (by decide) ?_
    rw [m60_people h]
    refine go_icmp_ge (pc' := 68) (tgt := 114) dX7_hourGoes_65 rfl (by decide) (fun h_65 => ?_) (fun h_65 => absurd (Int32.le_refl _) h_65)
    exact k _ h FR.rf
  | succ m ih =>
    intro j T g hi hij wf h k
    have hn := wf.1
    have hin : j < n := by omega
    have hip : i < n := by omega
    simp only [pairJ] at k
    refine go_iload_n (pc' := 59) dX7_hourGoes_58 rfl rfl ?_
    refine go_aload_n (pc' := 60) dX7_hourGoes_59 rfl rfl ?_
    refine go_getR (pc' := 63) dX7_hourGoes_60 rfl flRX7_7 rfl rfl ?_
    refine go_iconst (pc' := 64) 5 dX7_hourGoes_63 rfl (by decide) ?_
    refine go_iald (pc' := 65) 5 dX7_hourGoes_64 rfl rfl rfl (by decide) (by decide) ?_
    rw [m60_people h]
    refine go_icmp_ge (pc' := 68) (tgt := 114) dX7_hourGoes_65 rfl (by decide) (fun h_65 => absurd h_65 (nI_ge hin (by omega))) (fun h_65 => ?_)
    refine go_aload_n (pc' := 69) dX7_hourGoes_68 rfl rfl ?_
    refine go_iload_n (pc' := 70) dX7_hourGoes_69 rfl rfl ?_
    refine go_iconst (pc' := 71) 3 dX7_hourGoes_70 rfl (by decide) ?_
    refine go_cVi2 (pc' := 74) (M' := mX7_its) (d' := 1) dX7_hourGoes_71 rfl cvRX7_217 rfl rfl (by decide) rfl (Nat.le_of_ble_eq_true rfl) ?_
    refine tX7_its3 h wf hip ?_
    refine go_aload_n (pc' := 75) dX7_hourGoes_74 rfl rfl ?_
    refine go_iload_n (pc' := 76) dX7_hourGoes_75 rfl rfl ?_
    refine go_iconst (pc' := 77) 3 dX7_hourGoes_76 rfl (by decide) ?_
    refine go_cVi2 (pc' := 80) (M' := mX7_its) (d' := 1) dX7_hourGoes_77 rfl cvRX7_217 rfl rfl (by decide) rfl (Nat.le_of_ble_eq_true rfl) ?_
    refine tX7_its3 h wf hin ?_
    refine go_icmp_ne (pc' := 83) (tgt := 108) dX7_hourGoes_80 rfl (by decide) (fun h_80 => ?_) (fun h_80 => ?_)
    · refine go_iinc (pc' := 111) _ dX7_hourGoes_108 rfl rfl (pg_inc _) (by decide) rfl ?_
      refine go_goto (pc' := 58) dX7_hourGoes_111 (by decide) ?_
      rw [if_neg (fun e => h_80 (metF_iff.mp e).1)] at k
      exact ih (j + 1) _ _ (by omega) (by omega) wf h k
    · refine go_aload_n (pc' := 84) dX7_hourGoes_83 rfl rfl ?_
      refine go_iload_n (pc' := 85) dX7_hourGoes_84 rfl rfl ?_
      refine go_iload_n (pc' := 86) dX7_hourGoes_85 rfl rfl ?_
      refine go_cVi2 (pc' := 89) (M' := mX7_areAlike) (d' := 2) dX7_hourGoes_86 rfl cvRX7_242 rfl rfl (by decide) rfl (Nat.le_of_ble_eq_true rfl) ?_
      refine tX7_areAlike h wf hip hin ?_
      refine go_if_eq (pc' := 92) (tgt := 108) dX7_hourGoes_89 rfl (by decide) (fun h_89 => ?_) (fun h_89 => ?_)
      · have h_89 := pg_b0 h_89
        refine go_iinc (pc' := 111) _ dX7_hourGoes_108 rfl rfl (pg_inc _) (by decide) rfl ?_
        refine go_goto (pc' := 58) dX7_hourGoes_111 (by decide) ?_
        rw [if_neg (fun e => h_89 (metF_iff.mp e).2.1)] at k
        exact ih (j + 1) _ _ (by omega) (by omega) wf h k
      · have h_89 := pg_b1 h_89
        refine go_aload_n (pc' := 93) dX7_hourGoes_92 rfl rfl ?_
        refine go_iload_n (pc' := 94) dX7_hourGoes_93 rfl rfl ?_
        refine go_iload_n (pc' := 95) dX7_hourGoes_94 rfl rfl ?_
        refine go_cVi2 (pc' := 98) (M' := mX7_feelEachOther) (d' := 3) dX7_hourGoes_95 rfl cvRX7_245 rfl rfl (by decide) rfl (Nat.le_of_ble_eq_true rfl) ?_
        refine tX7_feelEachOther h wf hip hin ?_
        refine go_if_eq (pc' := 101) (tgt := 108) dX7_hourGoes_98 rfl (by decide) (fun h_98 => ?_) (fun h_98 => ?_)
        · have h_98 := pg_b0 h_98
          refine go_iinc (pc' := 111) _ dX7_hourGoes_108 rfl rfl (pg_inc _) (by decide) rfl ?_
          refine go_goto (pc' := 58) dX7_hourGoes_111 (by decide) ?_
          rw [if_neg (fun e => h_98 (metF_iff.mp e).2.2)] at k
          exact ih (j + 1) _ _ (by omega) (by omega) wf h k
        · have h_98 := pg_b1 h_98
          refine go_aload_n (pc' := 102) dX7_hourGoes_101 rfl rfl ?_
          refine go_iload_n (pc' := 103) dX7_hourGoes_102 rfl rfl ?_
          refine go_iload_n (pc' := 104) dX7_hourGoes_103 rfl rfl ?_
          refine go_iconst (pc' := 105) 1 dX7_hourGoes_104 rfl (by decide) ?_
          refine go_cVv3 (pc' := 108) (M' := mX7_meets) (d' := 2) dX7_hourGoes_105 rfl cvRX7_235 rfl rfl (by decide) rfl (Nat.le_of_ble_eq_true rfl) ?_
          refine tX7_meets1 h wf hip hin (fun g1 h1 f1 => ?_)
          rw [if_pos (metF_iff.mpr ⟨h_80, h_89, h_98⟩)] at k
          refine go_iinc (pc' := 111) _ dX7_hourGoes_108 rfl rfl (pg_inc _) (by decide) rfl ?_
          refine go_goto (pc' := 58) dX7_hourGoes_111 (by decide) ?_
          exact ih (j + 1) _ _ (by omega) (by omega) (wf.acq hip hin) h1 (fun g' a c => k g' a (FR.tr f1 c))

set_option maxHeartbeats 4000000 in
set_option maxRecDepth 20000 in
theorem ml3 {sc : pg_Sc} {Q : pg_Q} {n : Nat} : ∀ (m : Nat) (i : Nat) (T : TW) (g : pg_S), i + m = n → WF T n → MR g 60 T n → (∀ g', MR g' 60 (pairI n m i T) n → FR 60 61 g g' → pg_Go sc 4 mX7_hourGoes 120 [(0, .ref 59), (1, .int (nI n))] [] g' Q) → pg_Go sc 4 mX7_hourGoes 44 [(0, .ref 59), (1, .int (nI i))] [] g Q := by
  intro m
  induction m with
  | zero =>
    intro i T g hi wf h k
    obtain rfl : i = n := by omega
    refine go_iload_n (pc' := 45) dX7_hourGoes_44 rfl rfl ?_
    refine go_aload_n (pc' := 46) dX7_hourGoes_45 rfl rfl ?_
    refine go_getR (pc' := 49) dX7_hourGoes_46 rfl flRX7_7 rfl rfl ?_
    refine go_iconst (pc' := 50) 5 dX7_hourGoes_49 rfl (by decide) ?_
    refine go_iald (pc' := 51) 5 dX7_hourGoes_50 rfl rfl rfl (by decide) (by decide) ?_
    rw [m60_people h]
    refine go_icmp_ge (pc' := 54) (tgt := 120) dX7_hourGoes_51 rfl (by decide) (fun h_51 => ?_) (fun h_51 => absurd (Int32.le_refl _) h_51)
    exact k _ h FR.rf
  | succ m ih =>
    intro i T g hi wf h k
    have hn := wf.1
    have hin : i < n := by omega
    simp only [pairI] at k
    refine go_iload_n (pc' := 45) dX7_hourGoes_44 rfl rfl ?_
    refine go_aload_n (pc' := 46) dX7_hourGoes_45 rfl rfl ?_
    refine go_getR (pc' := 49) dX7_hourGoes_46 rfl flRX7_7 rfl rfl ?_
    refine go_iconst (pc' := 50) 5 dX7_hourGoes_49 rfl (by decide) ?_
    refine go_iald (pc' := 51) 5 dX7_hourGoes_50 rfl rfl rfl (by decide) (by decide) ?_
    rw [m60_people h]
    refine go_icmp_ge (pc' := 54) (tgt := 120) dX7_hourGoes_51 rfl (by decide) (fun h_51 => absurd h_51 (nI_ge hin (by omega))) (fun h_51 => ?_)
    refine go_iload_n (pc' := 55) dX7_hourGoes_54 rfl rfl ?_
    refine go_iconst (pc' := 56) 1 dX7_hourGoes_55 rfl (by decide) ?_
    refine go_iadd (pc' := 57) dX7_hourGoes_56 rfl ?_
    refine go_istore_n (pc' := 58) dX7_hourGoes_57 rfl (by decide) rfl ?_
    rw [nI_1]
    refine ml2 (n - (i + 1)) (i + 1) T g (by omega) (by omega) wf h (fun g1 h1 f1 => ?_)
    refine go_iinc (pc' := 117) _ dX7_hourGoes_114 rfl rfl (pg_inc _) (by decide) rfl ?_
    refine go_goto (pc' := 44) dX7_hourGoes_117 (by decide) ?_
    refine go_sub [0, 1] rfl ?_
    exact ih (i + 1) _ _ (by omega) (pairJ_wf hin _ _ _ (by omega) wf) h1 (fun g' a c => k g' a (FR.tr f1 c))

set_option maxHeartbeats 4000000 in
set_option maxRecDepth 20000 in
theorem tX7_hourGoes {sc : pg_Sc} {g : pg_S} {K : pg_S → Prop} {T : TW} {n : Nat} (h : MR g 60 T n) (wf : WF T n) (k : ∀ g', MR g' 60 (hourF n T) n → FR 60 61 g g' → K g') : pg_Cal sc 4 mX7_hourGoes [.ref 59] g (pg_kv K) := by
  refine pg_Cal.of rfl (Nat.le_of_ble_eq_true rfl) rfl ?_
  refine go_iconst (pc' := 1) 0 dX7_hourGoes_0 rfl (by decide) ?_
  refine go_istore_n (pc' := 2) dX7_hourGoes_1 rfl (by decide) rfl ?_
  refine ml1 wf n 0 g (by omega) (by rw [T1F_0]; exact h) (fun g1 h1 f1 => ?_)
  refine go_iconst (pc' := 43) 0 dX7_hourGoes_42 rfl (by decide) ?_
  refine go_istore_n (pc' := 44) dX7_hourGoes_43 rfl (by decide) rfl ?_
  refine ml3 n 0 (T1F T n) g1 (by omega) (T1F_wf wf) h1 (fun g2 h2 f2 => ?_)
  refine go_aload_n (pc' := 121) dX7_hourGoes_120 rfl rfl ?_
  refine go_getR (pc' := 124) dX7_hourGoes_121 rfl flRX7_7 rfl rfl ?_
  refine go_iconst (pc' := 125) 4 dX7_hourGoes_124 rfl (by decide) ?_
  refine go_dup2 (pc' := 126) dX7_hourGoes_125 rfl rfl rfl ?_
  refine go_iald (pc' := 127) 4 dX7_hourGoes_126 rfl rfl rfl (by omega) (by decide) ?_
  rw [m60_hour h2]
  refine go_iconst (pc' := 128) 1 dX7_hourGoes_127 rfl (by decide) ?_
  refine go_iadd (pc' := 129) dX7_hourGoes_128 rfl ?_
  refine go_iast (pc' := 130) 4 dX7_hourGoes_129 rfl rfl rfl (by omega) (by decide) ?_
  refine go_vret dX7_hourGoes_130 rfl ?_
  exact k _ h2.hour (FR.tr (FR.tr f1 f2) (FR.ui (by decide)))

def krF : Nat → Nat → Nat
  | 0, _ => 0
  | m + 1, v => if v = 0 then 0 else 1 + krF m (v &&& (v - 1))
theorem krF_lt {v : Nat} (h : v ≠ 0) : v &&& (v - 1) < v := Nat.lt_of_le_of_lt Nat.and_le_right (by omega)
set_option maxRecDepth 100000 in
theorem krF_bc : ∀ v, v < 4096 → nI (krF 4096 v) = bcF (nI v) := by decide +kernel
set_option maxHeartbeats 4000000 in
set_option maxRecDepth 20000 in
theorem lones {sc : pg_Sc} {K : Int32 → pg_S → Prop} {x : Int32} {g : pg_S} : ∀ (m : Nat) (v c : Nat), v ≤ m → v < 4096 → K (nI (c + krF m v)) g → pg_Go sc 1 mX7_ones 4 [(0, .int x), (1, .int (nI c)), (2, .int (nI v))] [] g (pg_ki K) := by
  intro m
  induction m with
  | zero =>
    intro v c hv hb k
    obtain rfl : v = 0 := by omega
    refine go_iload_n (pc' := 5) dX7_ones_4 rfl rfl ?_
    refine go_if_eq (pc' := 8) (tgt := 20) dX7_ones_5 rfl (by decide) (fun h_5 => ?_) (fun h_5 => absurd (rfl) h_5)
    refine go_iload_n (pc' := 21) dX7_ones_20 rfl rfl ?_
    refine go_iret dX7_ones_21 (pg_narI _) ?_
    exact k
  | succ m ih =>
    intro v c hv hb k
    by_cases e : v = 0
    · subst e
      refine go_iload_n (pc' := 5) dX7_ones_4 rfl rfl ?_
      refine go_if_eq (pc' := 8) (tgt := 20) dX7_ones_5 rfl (by decide) (fun h_5 => ?_) (fun h_5 => absurd (rfl) h_5)
      refine go_iload_n (pc' := 21) dX7_ones_20 rfl rfl ?_
      refine go_iret dX7_ones_21 (pg_narI _) ?_
      exact k
    · simp only [krF, if_neg e] at k
      have hlt := krF_lt e
      refine go_iload_n (pc' := 5) dX7_ones_4 rfl rfl ?_
      refine go_if_eq (pc' := 8) (tgt := 20) dX7_ones_5 rfl (by decide) (fun h_5 => absurd h_5 (nI_ne0 (by omega) (by omega))) (fun h_5 => ?_)
      refine go_iinc (pc' := 11) _ dX7_ones_8 rfl rfl (pg_inc _) (by decide) rfl ?_
      refine go_iload_n (pc' := 12) dX7_ones_11 rfl rfl ?_
      refine go_iload_n (pc' := 13) dX7_ones_12 rfl rfl ?_
      refine go_iconst (pc' := 14) 1 dX7_ones_13 rfl (by decide) ?_
      refine go_isub (pc' := 15) dX7_ones_14 rfl ?_
      rw [show nI v - 1 = nI (v - 1) from pk_sub (b := 1) (by omega)]
      refine go_iand (pc' := 16) dX7_ones_15 rfl ?_
      rw [fa_and]
      refine go_istore_n (pc' := 17) dX7_ones_16 rfl (by decide) rfl ?_
      refine go_goto (pc' := 4) dX7_ones_17 (by decide) ?_
      exact ih (v &&& (v - 1)) (c + 1) (by omega) (by omega) (by rw [show c + 1 + krF m (v &&& (v - 1)) = c + (1 + krF m (v &&& (v - 1))) by omega]; exact k)

set_option maxHeartbeats 4000000 in
set_option maxRecDepth 20000 in
theorem tX7_ones {sc : pg_Sc} {g : pg_S} {K : Int32 → pg_S → Prop} {v : Nat} (hv : v < 4096) (k : K (bcF (nI v)) g) : pg_Cal sc 1 mX7_ones [.int (nI v)] g (pg_ki K) := by
  refine pg_Cal.of rfl (Nat.le_of_ble_eq_true rfl) rfl ?_
  refine go_iconst (pc' := 1) 0 dX7_ones_0 rfl (by decide) ?_
  refine go_istore_n (pc' := 2) dX7_ones_1 rfl (by decide) rfl ?_
  refine go_iload_n (pc' := 3) dX7_ones_2 rfl rfl ?_
  refine go_istore_n (pc' := 4) dX7_ones_3 rfl (by decide) rfl ?_
  exact lones 4096 v 0 (by omega) hv (by rw [Nat.zero_add, krF_bc v hv]; exact k)

set_option maxHeartbeats 4000000 in
set_option maxRecDepth 20000 in
theorem tX5_knownBy_1 {sc : pg_Sc} {g : pg_S} {K : Int32 → pg_S → Prop} {T : TW} {n p : Nat} (h : CR g 1 T n) (wf : WF T n) (hp : p < n) (k : K (bcF (T 6 p)) g) : pg_Cal sc 2 mX5_knownBy [.ref 1, .int (nI p)] g (pg_ki K) := by
  refine pg_Cal.of rfl (Nat.le_of_ble_eq_true rfl) rfl ?_
  have hn := wf.1
  refine go_aload_n (pc' := 1) dX5_knownBy_0 rfl rfl ?_
  refine go_getR (pc' := 4) dX5_knownBy_1 rfl flRX5_30 rfl rfl ?_
  refine go_iload_n (pc' := 5) dX5_knownBy_4 rfl rfl ?_
  refine go_iald (pc' := 6) _ dX5_knownBy_5 rfl rfl rfl (by omega) (by decide) ?_
  rw [c1_know h (by omega)]
  refine go_cSi1 (pc' := 9) (M' := mJ6_bitCount_0f7a4) (d' := 1) dX5_knownBy_6 rfl csRX5_93 (by decide) rfl (Nat.le_of_ble_eq_true rfl) ?_
  refine tJ6_bitCount_0f7a4 ?_
  refine go_iret dX5_knownBy_9 (pg_narI _) ?_
  exact k

set_option maxHeartbeats 4000000 in
set_option maxRecDepth 20000 in
theorem tX5_knownBy_10 {sc : pg_Sc} {g : pg_S} {K : Int32 → pg_S → Prop} {T : TW} {n p : Nat} (h : CR g 10 T n) (wf : WF T n) (hp : p < n) (k : K (bcF (T 6 p)) g) : pg_Cal sc 2 mX5_knownBy [.ref 10, .int (nI p)] g (pg_ki K) := by
  refine pg_Cal.of rfl (Nat.le_of_ble_eq_true rfl) rfl ?_
  have hn := wf.1
  refine go_aload_n (pc' := 1) dX5_knownBy_0 rfl rfl ?_
  refine go_getR (pc' := 4) dX5_knownBy_1 rfl flRX5_30 rfl rfl ?_
  refine go_iload_n (pc' := 5) dX5_knownBy_4 rfl rfl ?_
  refine go_iald (pc' := 6) _ dX5_knownBy_5 rfl rfl rfl (by omega) (by decide) ?_
  rw [c10_know h (by omega)]
  refine go_cSi1 (pc' := 9) (M' := mJ6_bitCount_0f7a4) (d' := 1) dX5_knownBy_6 rfl csRX5_93 (by decide) rfl (Nat.le_of_ble_eq_true rfl) ?_
  refine tJ6_bitCount_0f7a4 ?_
  refine go_iret dX5_knownBy_9 (pg_narI _) ?_
  exact k

def sumF (T : TW) : Nat → Nat → Int32 → Int32
  | 0, _, s => s
  | m + 1, i, s => sumF T m (i + 1) (s + bcF (T 6 i))
def pairsF (n : Nat) (T : TW) : Int32 := sumF T n 0 0 / 2
set_option maxHeartbeats 4000000 in
set_option maxRecDepth 20000 in
theorem lpairs_1 {sc : pg_Sc} {K : Int32 → pg_S → Prop} {T : TW} {n : Nat} {g : pg_S} (h : CR g 1 T n) (wf : WF T n) : ∀ (m : Nat) (i : Nat) (s : Int32), i + m = n → K (sumF T m i s / 2) g → pg_Go sc 3 mX5_pairs 4 [(0, .ref 1), (1, .int s), (2, .int (nI i))] [] g (pg_ki K) := by
  intro m
  induction m with
  | zero =>
    intro i s hi k
    obtain rfl : i = n := by omega
    refine go_iload_n (pc' := 5) dX5_pairs_4 rfl rfl ?_
    refine go_aload_n (pc' := 6) dX5_pairs_5 rfl rfl ?_
    refine go_getI (pc' := 9) dX5_pairs_6 rfl flRX5_36 rfl rfl ?_
    rw [c1_people h]
    refine go_icmp_ge (pc' := 12) (tgt := 26) dX5_pairs_9 rfl (by decide) (fun h_9 => ?_) (fun h_9 => absurd (Int32.le_refl _) h_9)
    refine go_iload_n (pc' := 27) dX5_pairs_26 rfl rfl ?_
    refine go_iconst (pc' := 28) 2 dX5_pairs_27 rfl (by decide) ?_
    refine go_idiv (pc' := 29) dX5_pairs_28 rfl (by decide) ?_
    refine go_iret dX5_pairs_29 (pg_narI _) ?_
    exact k
  | succ m ih =>
    intro i s hi k
    have hn := wf.1
    have hin : i < n := by omega
    simp only [sumF] at k
    refine go_iload_n (pc' := 5) dX5_pairs_4 rfl rfl ?_
    refine go_aload_n (pc' := 6) dX5_pairs_5 rfl rfl ?_
    refine go_getI (pc' := 9) dX5_pairs_6 rfl flRX5_36 rfl rfl ?_
    rw [c1_people h]
    refine go_icmp_ge (pc' := 12) (tgt := 26) dX5_pairs_9 rfl (by decide) (fun h_9 => absurd h_9 (nI_ge hin (by omega))) (fun h_9 => ?_)
    refine go_iload_n (pc' := 13) dX5_pairs_12 rfl rfl ?_
    refine go_aload_n (pc' := 14) dX5_pairs_13 rfl rfl ?_
    refine go_iload_n (pc' := 15) dX5_pairs_14 rfl rfl ?_
    refine go_cVi1 (pc' := 18) (M' := mX5_knownBy) (d' := 2) dX5_pairs_15 rfl cvRX5_98 rfl rfl (by decide) rfl (Nat.le_of_ble_eq_true rfl) ?_
    refine tX5_knownBy_1 h wf hin ?_
    refine go_iadd (pc' := 19) dX5_pairs_18 rfl ?_
    refine go_istore_n (pc' := 20) dX5_pairs_19 rfl (by decide) rfl ?_
    refine go_iinc (pc' := 23) _ dX5_pairs_20 rfl rfl (pg_inc _) (by decide) rfl ?_
    refine go_goto (pc' := 4) dX5_pairs_23 (by decide) ?_
    exact ih (i + 1) _ (by omega) k

set_option maxHeartbeats 4000000 in
set_option maxRecDepth 20000 in
theorem tX5_pairs_1 {sc : pg_Sc} {g : pg_S} {K : Int32 → pg_S → Prop} {T : TW} {n : Nat} (h : CR g 1 T n) (wf : WF T n) (k : K (pairsF n T) g) : pg_Cal sc 3 mX5_pairs [.ref 1] g (pg_ki K) := by
  refine pg_Cal.of rfl (Nat.le_of_ble_eq_true rfl) rfl ?_
  refine go_iconst (pc' := 1) 0 dX5_pairs_0 rfl (by decide) ?_
  refine go_istore_n (pc' := 2) dX5_pairs_1 rfl (by decide) rfl ?_
  refine go_iconst (pc' := 3) 0 dX5_pairs_2 rfl (by decide) ?_
  refine go_istore_n (pc' := 4) dX5_pairs_3 rfl (by decide) rfl ?_
  exact lpairs_1 h wf n 0 0 (by omega) k

set_option maxHeartbeats 4000000 in
set_option maxRecDepth 20000 in
theorem lpairs_10 {sc : pg_Sc} {K : Int32 → pg_S → Prop} {T : TW} {n : Nat} {g : pg_S} (h : CR g 10 T n) (wf : WF T n) : ∀ (m : Nat) (i : Nat) (s : Int32), i + m = n → K (sumF T m i s / 2) g → pg_Go sc 3 mX5_pairs 4 [(0, .ref 10), (1, .int s), (2, .int (nI i))] [] g (pg_ki K) := by
  intro m
  induction m with
  | zero =>
    intro i s hi k
    obtain rfl : i = n := by omega
    refine go_iload_n (pc' := 5) dX5_pairs_4 rfl rfl ?_
    refine go_aload_n (pc' := 6) dX5_pairs_5 rfl rfl ?_
    refine go_getI (pc' := 9) dX5_pairs_6 rfl flRX5_36 rfl rfl ?_
    rw [c10_people h]
    refine go_icmp_ge (pc' := 12) (tgt := 26) dX5_pairs_9 rfl (by decide) (fun h_9 => ?_) (fun h_9 => absurd (Int32.le_refl _) h_9)
    refine go_iload_n (pc' := 27) dX5_pairs_26 rfl rfl ?_
    refine go_iconst (pc' := 28) 2 dX5_pairs_27 rfl (by decide) ?_
    refine go_idiv (pc' := 29) dX5_pairs_28 rfl (by decide) ?_
    refine go_iret dX5_pairs_29 (pg_narI _) ?_
    exact k
  | succ m ih =>
    intro i s hi k
    have hn := wf.1
    have hin : i < n := by omega
    simp only [sumF] at k
    refine go_iload_n (pc' := 5) dX5_pairs_4 rfl rfl ?_
    refine go_aload_n (pc' := 6) dX5_pairs_5 rfl rfl ?_
    refine go_getI (pc' := 9) dX5_pairs_6 rfl flRX5_36 rfl rfl ?_
    rw [c10_people h]
    refine go_icmp_ge (pc' := 12) (tgt := 26) dX5_pairs_9 rfl (by decide) (fun h_9 => absurd h_9 (nI_ge hin (by omega))) (fun h_9 => ?_)
    refine go_iload_n (pc' := 13) dX5_pairs_12 rfl rfl ?_
    refine go_aload_n (pc' := 14) dX5_pairs_13 rfl rfl ?_
    refine go_iload_n (pc' := 15) dX5_pairs_14 rfl rfl ?_
    refine go_cVi1 (pc' := 18) (M' := mX5_knownBy) (d' := 2) dX5_pairs_15 rfl cvRX5_98 rfl rfl (by decide) rfl (Nat.le_of_ble_eq_true rfl) ?_
    refine tX5_knownBy_10 h wf hin ?_
    refine go_iadd (pc' := 19) dX5_pairs_18 rfl ?_
    refine go_istore_n (pc' := 20) dX5_pairs_19 rfl (by decide) rfl ?_
    refine go_iinc (pc' := 23) _ dX5_pairs_20 rfl rfl (pg_inc _) (by decide) rfl ?_
    refine go_goto (pc' := 4) dX5_pairs_23 (by decide) ?_
    exact ih (i + 1) _ (by omega) k

set_option maxHeartbeats 4000000 in
set_option maxRecDepth 20000 in
theorem tX5_pairs_10 {sc : pg_Sc} {g : pg_S} {K : Int32 → pg_S → Prop} {T : TW} {n : Nat} (h : CR g 10 T n) (wf : WF T n) (k : K (pairsF n T) g) : pg_Cal sc 3 mX5_pairs [.ref 10] g (pg_ki K) := by
  refine pg_Cal.of rfl (Nat.le_of_ble_eq_true rfl) rfl ?_
  refine go_iconst (pc' := 1) 0 dX5_pairs_0 rfl (by decide) ?_
  refine go_istore_n (pc' := 2) dX5_pairs_1 rfl (by decide) rfl ?_
  refine go_iconst (pc' := 3) 0 dX5_pairs_2 rfl (by decide) ?_
  refine go_istore_n (pc' := 4) dX5_pairs_3 rfl (by decide) rfl ?_
  exact lpairs_10 h wf n 0 0 (by omega) k

set_option maxHeartbeats 4000000 in
set_option maxRecDepth 20000 in
theorem mlpairs {sc : pg_Sc} {K : Int32 → pg_S → Prop} {T : TW} {n : Nat} {g : pg_S} (h : MR g 60 T n) (wf : WF T n) : ∀ (m : Nat) (i : Nat) (s : Int32), i + m = n → K (sumF T m i s / 2) g → pg_Go sc 2 mX7_pairs 4 [(0, .ref 59), (1, .int s), (2, .int (nI i))] [] g (pg_ki K) := by
  intro m
  induction m with
  | zero =>
    intro i s hi k
    obtain rfl : i = n := by omega
    refine go_iload_n (pc' := 5) dX7_pairs_4 rfl rfl ?_
    refine go_aload_n (pc' := 6) dX7_pairs_5 rfl rfl ?_
    refine go_getR (pc' := 9) dX7_pairs_6 rfl flRX7_7 rfl rfl ?_
    refine go_iconst (pc' := 10) 5 dX7_pairs_9 rfl (by decide) ?_
    refine go_iald (pc' := 11) 5 dX7_pairs_10 rfl rfl rfl (by decide) (by decide) ?_
    rw [m60_people h]
    refine go_icmp_ge (pc' := 14) (tgt := 32) dX7_pairs_11 rfl (by decide) (fun h_11 => ?_) (fun h_11 => absurd (Int32.le_refl _) h_11)
    refine go_iload_n (pc' := 33) dX7_pairs_32 rfl rfl ?_
    refine go_iconst (pc' := 34) 2 dX7_pairs_33 rfl (by decide) ?_
    refine go_idiv (pc' := 35) dX7_pairs_34 rfl (by decide) ?_
    refine go_iret dX7_pairs_35 (pg_narI _) ?_
    exact k
  | succ m ih =>
    intro i s hi k
    have hn := wf.1
    have hin : i < n := by omega
    simp only [sumF] at k
    obtain ⟨v, hv, ev⟩ := wf.knows' hin
    refine go_iload_n (pc' := 5) dX7_pairs_4 rfl rfl ?_
    refine go_aload_n (pc' := 6) dX7_pairs_5 rfl rfl ?_
    refine go_getR (pc' := 9) dX7_pairs_6 rfl flRX7_7 rfl rfl ?_
    refine go_iconst (pc' := 10) 5 dX7_pairs_9 rfl (by decide) ?_
    refine go_iald (pc' := 11) 5 dX7_pairs_10 rfl rfl rfl (by decide) (by decide) ?_
    rw [m60_people h]
    refine go_icmp_ge (pc' := 14) (tgt := 32) dX7_pairs_11 rfl (by decide) (fun h_11 => absurd h_11 (nI_ge hin (by omega))) (fun h_11 => ?_)
    refine go_iload_n (pc' := 15) dX7_pairs_14 rfl rfl ?_
    refine go_aload_n (pc' := 16) dX7_pairs_15 rfl rfl ?_
    refine go_iload_n (pc' := 17) dX7_pairs_16 rfl rfl ?_
    refine go_iconst (pc' := 18) 4 dX7_pairs_17 rfl (by decide) ?_
    refine go_cVi2 (pc' := 21) (M' := mX7_its) (d' := 1) dX7_pairs_18 rfl cvRX7_217 rfl rfl (by decide) rfl (Nat.le_of_ble_eq_true rfl) ?_
    refine tX7_its4 h wf hin ?_
    rw [ev]
    refine go_cSi1 (pc' := 24) (M' := mX7_ones) (d' := 1) dX7_pairs_21 rfl csRX7_248 (by decide) rfl (Nat.le_of_ble_eq_true rfl) ?_
    refine tX7_ones (by omega) ?_
    rw [← ev]
    refine go_iadd (pc' := 25) dX7_pairs_24 rfl ?_
    refine go_istore_n (pc' := 26) dX7_pairs_25 rfl (by decide) rfl ?_
    refine go_iinc (pc' := 29) _ dX7_pairs_26 rfl rfl (pg_inc _) (by decide) rfl ?_
    refine go_goto (pc' := 4) dX7_pairs_29 (by decide) ?_
    exact ih (i + 1) _ (by omega) k

set_option maxHeartbeats 4000000 in
set_option maxRecDepth 20000 in
theorem tX7_pairs {sc : pg_Sc} {g : pg_S} {K : Int32 → pg_S → Prop} {T : TW} {n : Nat} (h : MR g 60 T n) (wf : WF T n) (k : K (pairsF n T) g) : pg_Cal sc 2 mX7_pairs [.ref 59] g (pg_ki K) := by
  refine pg_Cal.of rfl (Nat.le_of_ble_eq_true rfl) rfl ?_
  refine go_iconst (pc' := 1) 0 dX7_pairs_0 rfl (by decide) ?_
  refine go_istore_n (pc' := 2) dX7_pairs_1 rfl (by decide) rfl ?_
  refine go_iconst (pc' := 3) 0 dX7_pairs_2 rfl (by decide) ?_
  refine go_istore_n (pc' := 4) dX7_pairs_3 rfl (by decide) rfl ?_
  exact mlpairs h wf n 0 0 (by omega) k

