abbrev UP (x m : Int32) : Prop := 0 ≤ x ∧ x ≤ m
abbrev IN (x a b : Int32) : Prop := a ≤ x ∧ x ≤ b
abbrev PP (n : Nat) (x : Int32) : Prop := 0 ≤ x ∧ x < nI n
def pn (x : Int32) : Nat := x.toNatClampNeg
theorem nI_pn {x : Int32} (h : 0 ≤ x) : x = nI (pn x) := by
  obtain ⟨j, hj, e⟩ := nI_of (fun q => pg_lt_nle q h)
  rw [e]
  unfold pn
  rw [nI_clamp hj]
theorem pp_ex {n : Nat} {x : Int32} (h : PP n x) : ∃ p, p < n ∧ x = nI p := by
  obtain ⟨h1, h2⟩ := h
  obtain ⟨j, hj, e⟩ := nI_of (fun q => pg_lt_nle q h1)
  refine ⟨j, ?_, e⟩
  by_cases hn : n < 2 ^ 31
  · rw [e] at h2
    exact (nI_ltI hj hn).mp h2
  · omega
theorem up_ex {x m : Int32} (M : Nat) (hm : m = nI M) (hM : M < 2 ^ 31) (h : UP x m) : ∃ p, p ≤ M ∧ x = nI p := by
  obtain ⟨h1, h2⟩ := h
  obtain ⟨j, hj, e⟩ := nI_of (fun q => pg_lt_nle q h1)
  refine ⟨j, ?_, e⟩
  rw [e, hm] at h2
  exact (nI_leI hj hM).mp h2
theorem in_ex {x m a : Int32} (A M : Nat) (ha : a = nI A) (hm : m = nI M) (hA : A < 2 ^ 31) (hM : M < 2 ^ 31) (h : IN x a m) : ∃ p, A ≤ p ∧ p ≤ M ∧ x = nI p := by
  obtain ⟨h1, h2⟩ := h
  have h0 : 0 ≤ x := by
    rw [ha] at h1
    rw [Int32.le_iff_toInt_le] at h1 ⊢
    rw [nI_toInt hA] at h1
    rw [Int32.toInt_zero]
    omega
  obtain ⟨j, hj, e⟩ := nI_of (fun q => pg_lt_nle q h0)
  rw [e, hm] at h2
  rw [e, ha] at h1
  exact ⟨j, (nI_leI hA hj).mp h1, (nI_leI hj hM).mp h2, e⟩
theorem one_iff {n : Nat} (hn : n ≤ 8) (x : Int32) : (0 ≤ x ∧ x ≤ nI n - 1) ↔ PP n x := by
  have d : ∀ n, n ≤ 8 → (nI n - 1).toInt = (n : Int) - 1 := by decide +kernel
  unfold PP
  simp only [Int32.le_iff_toInt_le, Int32.lt_iff_toInt_lt, d n hn, nI_toInt (show n < 2 ^ 31 by omega)]
  omega
set_option maxHeartbeats 4000000 in
set_option maxRecDepth 20000 in
theorem tX6_upTo {sc : pg_Sc} {g : pg_S} {K : Int32 → pg_S → Prop} {x y : Int32}  (k : K (if UP x y then 1 else 0) g) : pg_Cal sc 1 mX6_upTo [.int x, .int y] g (pg_ki K) := by
  refine pg_Cal.of rfl (Nat.le_of_ble_eq_true rfl) rfl ?_
  refine go_iload_n (pc' := 1) dX6_upTo_0 rfl rfl ?_
  refine go_if_lt (pc' := 4) (tgt := 13) dX6_upTo_1 rfl (by decide) (fun h_1 => ?_) (fun h_1 => ?_)
  · refine go_iconst (pc' := 14) 0 dX6_upTo_13 rfl (by decide) ?_
    refine go_iret dX6_upTo_14 (by first | exact pg_nar1 | exact pg_nar0 | exact pg_narB) ?_
    rw [if_neg (fun q => pg_lt_nle h_1 q.1)] at k
    exact k
  · refine go_iload_n (pc' := 5) dX6_upTo_4 rfl rfl ?_
    refine go_iload_n (pc' := 6) dX6_upTo_5 rfl rfl ?_
    refine go_icmp_gt (pc' := 9) (tgt := 13) dX6_upTo_6 rfl (by decide) (fun h_6 => ?_) (fun h_6 => ?_)
    · refine go_iconst (pc' := 14) 0 dX6_upTo_13 rfl (by decide) ?_
      refine go_iret dX6_upTo_14 (by first | exact pg_nar1 | exact pg_nar0 | exact pg_narB) ?_
      rw [if_neg (fun q => pg_lt_nle h_6 q.2)] at k
      exact k
    · refine go_iconst (pc' := 10) 1 dX6_upTo_9 rfl (by decide) ?_
      refine go_goto (pc' := 14) dX6_upTo_10 (by decide) ?_
      refine go_iret dX6_upTo_14 (by first | exact pg_nar1 | exact pg_nar0 | exact pg_narB) ?_
      rw [if_pos ⟨pg_nlt_le h_1, pg_nlt_le h_6⟩] at k
      exact k

set_option maxHeartbeats 4000000 in
set_option maxRecDepth 20000 in
theorem tX6_between {sc : pg_Sc} {g : pg_S} {K : Int32 → pg_S → Prop} {x a b : Int32}  (k : K (if IN x a b then 1 else 0) g) : pg_Cal sc 1 mX6_between [.int x, .int a, .int b] g (pg_ki K) := by
  refine pg_Cal.of rfl (Nat.le_of_ble_eq_true rfl) rfl ?_
  refine go_iload_n (pc' := 1) dX6_between_0 rfl rfl ?_
  refine go_iload_n (pc' := 2) dX6_between_1 rfl rfl ?_
  refine go_icmp_lt (pc' := 5) (tgt := 14) dX6_between_2 rfl (by decide) (fun h_2 => ?_) (fun h_2 => ?_)
  · refine go_iconst (pc' := 15) 0 dX6_between_14 rfl (by decide) ?_
    refine go_iret dX6_between_15 (by first | exact pg_nar1 | exact pg_nar0 | exact pg_narB) ?_
    rw [if_neg (fun q => pg_lt_nle h_2 q.1)] at k
    exact k
  · refine go_iload_n (pc' := 6) dX6_between_5 rfl rfl ?_
    refine go_iload_n (pc' := 7) dX6_between_6 rfl rfl ?_
    refine go_icmp_gt (pc' := 10) (tgt := 14) dX6_between_7 rfl (by decide) (fun h_7 => ?_) (fun h_7 => ?_)
    · refine go_iconst (pc' := 15) 0 dX6_between_14 rfl (by decide) ?_
      refine go_iret dX6_between_15 (by first | exact pg_nar1 | exact pg_nar0 | exact pg_narB) ?_
      rw [if_neg (fun q => pg_lt_nle h_7 q.2)] at k
      exact k
    · refine go_iconst (pc' := 11) 1 dX6_between_10 rfl (by decide) ?_
      refine go_goto (pc' := 15) dX6_between_11 (by decide) ?_
      refine go_iret dX6_between_15 (by first | exact pg_nar1 | exact pg_nar0 | exact pg_narB) ?_
      rw [if_pos ⟨pg_nlt_le h_2, pg_nlt_le h_7⟩] at k
      exact k

set_option maxHeartbeats 4000000 in
set_option maxRecDepth 20000 in
theorem tX6_isPerson {sc : pg_Sc} {g : pg_S} {K : Int32 → pg_S → Prop} {T : TW} {n : Nat} {x : Int32} (h : CR g 1 T n) (k : K (if PP n x then 1 else 0) g) : pg_Cal sc 1 mX6_isPerson [.ref 0, .int x] g (pg_ki K) := by
  refine pg_Cal.of rfl (Nat.le_of_ble_eq_true rfl) rfl ?_
  refine go_iload_n (pc' := 1) dX6_isPerson_0 rfl rfl ?_
  refine go_if_lt (pc' := 4) (tgt := 19) dX6_isPerson_1 rfl (by decide) (fun h_1 => ?_) (fun h_1 => ?_)
  · refine go_iconst (pc' := 20) 0 dX6_isPerson_19 rfl (by decide) ?_
    refine go_iret dX6_isPerson_20 (by first | exact pg_nar1 | exact pg_nar0 | exact pg_narB) ?_
    rw [if_neg (fun q => pg_lt_nle h_1 q.1)] at k
    exact k
  · refine go_iload_n (pc' := 5) dX6_isPerson_4 rfl rfl ?_
    refine go_aload_n (pc' := 6) dX6_isPerson_5 rfl rfl ?_
    refine go_getR (pc' := 9) dX6_isPerson_6 rfl flRX6_10 rfl rfl ?_
    refine go_getI (pc' := 12) dX6_isPerson_9 rfl flRX6_94 rfl rfl ?_
    rw [c1_people h]
    refine go_icmp_ge (pc' := 15) (tgt := 19) dX6_isPerson_12 rfl (by decide) (fun h_12 => ?_) (fun h_12 => ?_)
    · refine go_iconst (pc' := 20) 0 dX6_isPerson_19 rfl (by decide) ?_
      refine go_iret dX6_isPerson_20 (by first | exact pg_nar1 | exact pg_nar0 | exact pg_narB) ?_
      rw [if_neg (fun q => pg_lt_nle q.2 h_12)] at k
      exact k
    · refine go_iconst (pc' := 16) 1 dX6_isPerson_15 rfl (by decide) ?_
      refine go_goto (pc' := 20) dX6_isPerson_16 (by decide) ?_
      refine go_iret dX6_isPerson_20 (by first | exact pg_nar1 | exact pg_nar0 | exact pg_narB) ?_
      rw [if_pos ⟨pg_nlt_le h_1, pg_nle_lt h_12⟩] at k
      exact k

set_option maxHeartbeats 4000000 in
set_option maxRecDepth 20000 in
theorem tX6_areTwo {sc : pg_Sc} {g : pg_S} {K : Int32 → pg_S → Prop} {T : TW} {n : Nat} {x y : Int32} (h : CR g 1 T n) (k : K (if PP n x ∧ PP n y ∧ ¬ x = y then 1 else 0) g) : pg_Cal sc 2 mX6_areTwo [.ref 0, .int x, .int y] g (pg_ki K) := by
  refine pg_Cal.of rfl (Nat.le_of_ble_eq_true rfl) rfl ?_
  refine go_aload_n (pc' := 1) dX6_areTwo_0 rfl rfl ?_
  refine go_iload_n (pc' := 2) dX6_areTwo_1 rfl rfl ?_
  refine go_cVi1 (pc' := 5) (M' := mX6_isPerson) (d' := 1) dX6_areTwo_2 rfl cvRX6_111 rfl rfl (by decide) rfl (Nat.le_of_ble_eq_true rfl) ?_
  refine tX6_isPerson h ?_
  refine go_if_eq (pc' := 8) (tgt := 25) dX6_areTwo_5 rfl (by decide) (fun h_5 => ?_) (fun h_5 => ?_)
  · have h_5 := pg_b0 h_5
    refine go_iconst (pc' := 26) 0 dX6_areTwo_25 rfl (by decide) ?_
    refine go_iret dX6_areTwo_26 (by first | exact pg_nar1 | exact pg_nar0 | exact pg_narB) ?_
    rw [if_neg (fun q => h_5 q.1)] at k
    exact k
  · have h_5 := pg_b1 h_5
    refine go_aload_n (pc' := 9) dX6_areTwo_8 rfl rfl ?_
    refine go_iload_n (pc' := 10) dX6_areTwo_9 rfl rfl ?_
    refine go_cVi1 (pc' := 13) (M' := mX6_isPerson) (d' := 1) dX6_areTwo_10 rfl cvRX6_111 rfl rfl (by decide) rfl (Nat.le_of_ble_eq_true rfl) ?_
    refine tX6_isPerson h ?_
    refine go_if_eq (pc' := 16) (tgt := 25) dX6_areTwo_13 rfl (by decide) (fun h_13 => ?_) (fun h_13 => ?_)
    · have h_13 := pg_b0 h_13
      refine go_iconst (pc' := 26) 0 dX6_areTwo_25 rfl (by decide) ?_
      refine go_iret dX6_areTwo_26 (by first | exact pg_nar1 | exact pg_nar0 | exact pg_narB) ?_
      rw [if_neg (fun q => h_13 q.2.1)] at k
      exact k
    · have h_13 := pg_b1 h_13
      refine go_iload_n (pc' := 17) dX6_areTwo_16 rfl rfl ?_
      refine go_iload_n (pc' := 18) dX6_areTwo_17 rfl rfl ?_
      refine go_icmp_eq (pc' := 21) (tgt := 25) dX6_areTwo_18 rfl (by decide) (fun h_18 => ?_) (fun h_18 => ?_)
      · refine go_iconst (pc' := 26) 0 dX6_areTwo_25 rfl (by decide) ?_
        refine go_iret dX6_areTwo_26 (by first | exact pg_nar1 | exact pg_nar0 | exact pg_narB) ?_
        rw [if_neg (fun q => q.2.2 h_18)] at k
        exact k
      · refine go_iconst (pc' := 22) 1 dX6_areTwo_21 rfl (by decide) ?_
        refine go_goto (pc' := 26) dX6_areTwo_22 (by decide) ?_
        refine go_iret dX6_areTwo_26 (by first | exact pg_nar1 | exact pg_nar0 | exact pg_narB) ?_
        rw [if_pos ⟨h_5, h_13, h_18⟩] at k
        exact k

set_option maxHeartbeats 4000000 in
set_option maxRecDepth 20000 in
theorem tX7_isOne {sc : pg_Sc} {g : pg_S} {K : Int32 → pg_S → Prop} {T : TW} {n : Nat} {x : Int32} (h : MR g 60 T n) (wf : WF T n) (k : K (if PP n x then 1 else 0) g) : pg_Cal sc 2 mX7_isOne [.ref 59, .int x] g (pg_ki K) := by
  refine pg_Cal.of rfl (Nat.le_of_ble_eq_true rfl) rfl ?_
  refine go_iload_n (pc' := 1) dX7_isOne_0 rfl rfl ?_
  refine go_iconst (pc' := 2) 0 dX7_isOne_1 rfl (by decide) ?_
  refine go_aload_n (pc' := 3) dX7_isOne_2 rfl rfl ?_
  refine go_getR (pc' := 6) dX7_isOne_3 rfl flRX7_7 rfl rfl ?_
  refine go_iconst (pc' := 7) 5 dX7_isOne_6 rfl (by decide) ?_
  refine go_iald (pc' := 8) 5 dX7_isOne_7 rfl rfl rfl (by decide) (by decide) ?_
  rw [m60_people h]
  refine go_iconst (pc' := 9) 1 dX7_isOne_8 rfl (by decide) ?_
  refine go_isub (pc' := 10) dX7_isOne_9 rfl ?_
  refine go_cSi3 (pc' := 13) (M' := mX7_in) (d' := 1) dX7_isOne_10 rfl csRX7_60 (by decide) rfl (Nat.le_of_ble_eq_true rfl) ?_
  refine tX7_in ?_
  refine go_iret dX7_isOne_13 pg_narB ?_
  by_cases e : PP n x
  · rw [if_pos ((one_iff wf.1 x).mpr e)]
    rw [if_pos e] at k; exact k
  · rw [if_neg (fun q => e ((one_iff wf.1 x).mp q))]
    rw [if_neg e] at k; exact k

set_option maxHeartbeats 4000000 in
set_option maxRecDepth 20000 in
theorem tX7_isPeg {sc : pg_Sc} {g : pg_S} {K : Int32 → pg_S → Prop} {x : Int32}  (k : K (if UP x 5 then 1 else 0) g) : pg_Cal sc 2 mX7_isPeg [.int x] g (pg_ki K) := by
  refine pg_Cal.of rfl (Nat.le_of_ble_eq_true rfl) rfl ?_
  refine go_iload_n (pc' := 1) dX7_isPeg_0 rfl rfl ?_
  refine go_iconst (pc' := 2) 0 dX7_isPeg_1 rfl (by decide) ?_
  refine go_iconst (pc' := 3) 5 dX7_isPeg_2 rfl (by decide) ?_
  refine go_cSi3 (pc' := 6) (M' := mX7_in) (d' := 1) dX7_isPeg_3 rfl csRX7_60 (by decide) rfl (Nat.le_of_ble_eq_true rfl) ?_
  refine tX7_in ?_
  refine go_iret dX7_isPeg_6 pg_narB ?_
  exact k

set_option maxHeartbeats 4000000 in
set_option maxRecDepth 20000 in
theorem tX7_isPlace {sc : pg_Sc} {g : pg_S} {K : Int32 → pg_S → Prop} {x : Int32}  (k : K (if UP x 11 then 1 else 0) g) : pg_Cal sc 2 mX7_isPlace [.int x] g (pg_ki K) := by
  refine pg_Cal.of rfl (Nat.le_of_ble_eq_true rfl) rfl ?_
  refine go_iload_n (pc' := 1) dX7_isPlace_0 rfl rfl ?_
  refine go_iconst (pc' := 2) 0 dX7_isPlace_1 rfl (by decide) ?_
  refine go_bipush (pc' := 4) 11 dX7_isPlace_2 rfl (by decide) ?_
  refine go_cSi3 (pc' := 7) (M' := mX7_in) (d' := 1) dX7_isPlace_4 rfl csRX7_60 (by decide) rfl (Nat.le_of_ble_eq_true rfl) ?_
  refine tX7_in ?_
  refine go_iret dX7_isPlace_7 pg_narB ?_
  exact k

set_option maxHeartbeats 4000000 in
set_option maxRecDepth 20000 in
theorem tX7_isKind {sc : pg_Sc} {g : pg_S} {K : Int32 → pg_S → Prop} {x y : Int32}  (k : K (if UP x 5 ∧ UP y 5 then 1 else 0) g) : pg_Cal sc 3 mX7_isKind [.int x, .int y] g (pg_ki K) := by
  refine pg_Cal.of rfl (Nat.le_of_ble_eq_true rfl) rfl ?_
  refine go_iload_n (pc' := 1) dX7_isKind_0 rfl rfl ?_
  refine go_iconst (pc' := 2) 0 dX7_isKind_1 rfl (by decide) ?_
  refine go_iconst (pc' := 3) 5 dX7_isKind_2 rfl (by decide) ?_
  refine go_cSi3 (pc' := 6) (M' := mX7_in) (d' := 1) dX7_isKind_3 rfl csRX7_60 (by decide) rfl (Nat.le_of_ble_eq_true rfl) ?_
  refine tX7_in ?_
  refine go_if_eq (pc' := 9) (tgt := 20) dX7_isKind_6 rfl (by decide) (fun h_6 => ?_) (fun h_6 => ?_)
  · have h_6 := pg_b0 h_6
    refine go_iconst (pc' := 21) 0 dX7_isKind_20 rfl (by decide) ?_
    refine go_iret dX7_isKind_21 (by first | exact pg_nar1 | exact pg_nar0 | exact pg_narB) ?_
    rw [if_neg (fun q => h_6 q.1)] at k
    exact k
  · have h_6 := pg_b1 h_6
    refine go_iload_n (pc' := 10) dX7_isKind_9 rfl rfl ?_
    refine go_cSi1 (pc' := 13) (M' := mX7_isPeg) (d' := 2) dX7_isKind_10 rfl csRX7_203 (by decide) rfl (Nat.le_of_ble_eq_true rfl) ?_
    refine tX7_isPeg ?_
    refine go_if_eq (pc' := 16) (tgt := 20) dX7_isKind_13 rfl (by decide) (fun h_13 => ?_) (fun h_13 => ?_)
    · have h_13 := pg_b0 h_13
      refine go_iconst (pc' := 21) 0 dX7_isKind_20 rfl (by decide) ?_
      refine go_iret dX7_isKind_21 (by first | exact pg_nar1 | exact pg_nar0 | exact pg_narB) ?_
      rw [if_neg (fun q => h_13 q.2)] at k
      exact k
    · have h_13 := pg_b1 h_13
      refine go_iconst (pc' := 17) 1 dX7_isKind_16 rfl (by decide) ?_
      refine go_goto (pc' := 21) dX7_isKind_17 (by decide) ?_
      refine go_iret dX7_isKind_21 (by first | exact pg_nar1 | exact pg_nar0 | exact pg_narB) ?_
      rw [if_pos ⟨h_6, h_13⟩] at k
      exact k

set_option maxHeartbeats 4000000 in
set_option maxRecDepth 20000 in
theorem tX7_mostOf {sc : pg_Sc} {g : pg_S} {K : Int32 → pg_S → Prop} {x : Int32}  (k : K (if x = 3 then 99 else 9) g) : pg_Cal sc 1 mX7_mostOf [.int x] g (pg_ki K) := by
  refine pg_Cal.of rfl (Nat.le_of_ble_eq_true rfl) rfl ?_
  refine go_iload_n (pc' := 1) dX7_mostOf_0 rfl rfl ?_
  refine go_iconst (pc' := 2) 3 dX7_mostOf_1 rfl (by decide) ?_
  refine go_icmp_ne (pc' := 5) (tgt := 10) dX7_mostOf_2 rfl (by decide) (fun h_2 => ?_) (fun h_2 => ?_)
  · refine go_bipush (pc' := 12) 9 dX7_mostOf_10 rfl (by decide) ?_
    refine go_iret dX7_mostOf_12 (pg_narI _) ?_
    rw [if_neg h_2] at k
    exact k
  · refine go_bipush (pc' := 7) 99 dX7_mostOf_5 rfl (by decide) ?_
    refine go_goto (pc' := 12) dX7_mostOf_7 (by decide) ?_
    refine go_iret dX7_mostOf_12 (pg_narI _) ?_
    rw [if_pos h_2] at k
    exact k

set_option maxHeartbeats 4000000 in
set_option maxRecDepth 20000 in
theorem tX7_becomes {sc : pg_Sc} {g : pg_S} {K : Int32 → pg_S → Prop} {j : Nat} {v : Int32} (hj : j < 53) (k : K (g.1 60 j) (pg_ui g.1 60 j v, g.2)) : pg_Cal sc 1 mX7_becomes [.ref 59, .int (nI j), .int v] g (pg_ki K) := by
  refine pg_Cal.of rfl (Nat.le_of_ble_eq_true rfl) rfl ?_
  refine go_aload_n (pc' := 1) dX7_becomes_0 rfl rfl ?_
  refine go_getR (pc' := 4) dX7_becomes_1 rfl flRX7_7 rfl rfl ?_
  refine go_iload_n (pc' := 5) dX7_becomes_4 rfl rfl ?_
  refine go_iald (pc' := 6) _ dX7_becomes_5 rfl rfl rfl (by omega) (by decide) ?_
  refine go_istore_n (pc' := 7) dX7_becomes_6 rfl (by decide) rfl ?_
  refine go_aload_n (pc' := 8) dX7_becomes_7 rfl rfl ?_
  refine go_getR (pc' := 11) dX7_becomes_8 rfl flRX7_7 rfl rfl ?_
  refine go_iload_n (pc' := 12) dX7_becomes_11 rfl rfl ?_
  refine go_iload_n (pc' := 13) dX7_becomes_12 rfl rfl ?_
  refine go_iast (pc' := 14) _ dX7_becomes_13 rfl rfl rfl (by omega) (by decide) ?_
  refine go_iload_n (pc' := 15) dX7_becomes_14 rfl rfl ?_
  refine go_iret dX7_becomes_15 (pg_narI _) ?_
  exact k

def mstF (x : Int32) : Int32 := if x = 3 then 99 else 9
theorem mst_t1 : ∀ l, l < 4 → pg_t1.getD l 0 = mstF (nI l) := by decide +kernel
set_option maxHeartbeats 4000000 in
set_option maxRecDepth 20000 in
theorem tX6_lawOf {sc : pg_Sc} {g : pg_S} {K : Int32 → pg_S → Prop} {T : TW} {n : Nat} {x : Int32} (h : CR g 1 T n) (wf : WF T n) (k1 : ¬ UP x 3 → K (-1) g) (k2 : UP x 3 → K (T 0 (pn x)) g) : pg_Cal sc 2 mX6_lawOf [.ref 0, .int x] g (pg_ki K) := by
  refine pg_Cal.of rfl (Nat.le_of_ble_eq_true rfl) rfl ?_
  have hn := wf.1
  refine go_iload_n (pc' := 1) dX6_lawOf_0 rfl rfl ?_
  refine go_iconst (pc' := 2) 3 dX6_lawOf_1 rfl (by decide) ?_
  refine go_cSi2 (pc' := 5) (M' := mX6_upTo) (d' := 1) dX6_lawOf_2 rfl csRX6_97 (by decide) rfl (Nat.le_of_ble_eq_true rfl) ?_
  refine tX6_upTo ?_
  refine go_if_eq (pc' := 8) (tgt := 20) dX6_lawOf_5 rfl (by decide) (fun h_5 => ?_) (fun h_5 => ?_)
  · have h_5 := pg_b0 h_5
    refine go_iconst (pc' := 21) (-1) dX6_lawOf_20 rfl (by decide) ?_
    refine go_iret dX6_lawOf_21 (pg_narI _) ?_
    exact k1 (fun q => h_5 q)
  · have h_5 := pg_b1 h_5
    obtain ⟨l, hl, rfl⟩ := up_ex 3 rfl (by decide) h_5
    have el : pn (nI l) = l := nI_clamp (by omega)
    rw [el] at k2
    refine go_aload_n (pc' := 9) dX6_lawOf_8 rfl rfl ?_
    refine go_getR (pc' := 12) dX6_lawOf_9 rfl flRX6_10 rfl rfl ?_
    refine go_getR (pc' := 15) dX6_lawOf_12 rfl flRX6_104 rfl rfl ?_
    refine go_iload_n (pc' := 16) dX6_lawOf_15 rfl rfl ?_
    refine go_iald (pc' := 17) _ dX6_lawOf_16 rfl rfl rfl (by omega) (by decide) ?_
    rw [c1_law h (by first | decide | omega)]
    refine go_goto (pc' := 21) dX6_lawOf_17 (by decide) ?_
    refine go_iret dX6_lawOf_21 (pg_narI _) ?_
    exact k2 h_5

set_option maxHeartbeats 4000000 in
set_option maxRecDepth 20000 in
theorem tX7_lawOf {sc : pg_Sc} {g : pg_S} {K : Int32 → pg_S → Prop} {T : TW} {n : Nat} {x : Int32} (h : MR g 60 T n) (wf : WF T n) (k1 : ¬ UP x 3 → K (-1) g) (k2 : UP x 3 → K (T 0 (pn x)) g) : pg_Cal sc 2 mX7_lawOf [.ref 59, .int x] g (pg_ki K) := by
  refine pg_Cal.of rfl (Nat.le_of_ble_eq_true rfl) rfl ?_
  have hn := wf.1
  refine go_iload_n (pc' := 1) dX7_lawOf_0 rfl rfl ?_
  refine go_iconst (pc' := 2) 0 dX7_lawOf_1 rfl (by decide) ?_
  refine go_iconst (pc' := 3) 3 dX7_lawOf_2 rfl (by decide) ?_
  refine go_cSi3 (pc' := 6) (M' := mX7_in) (d' := 1) dX7_lawOf_3 rfl csRX7_60 (by decide) rfl (Nat.le_of_ble_eq_true rfl) ?_
  refine tX7_in ?_
  refine go_if_eq (pc' := 9) (tgt := 18) dX7_lawOf_6 rfl (by decide) (fun h_6 => ?_) (fun h_6 => ?_)
  · have h_6 := pg_b0 h_6
    refine go_iconst (pc' := 19) (-1) dX7_lawOf_18 rfl (by decide) ?_
    refine go_iret dX7_lawOf_19 (pg_narI _) ?_
    exact k1 (fun q => h_6 q)
  · have h_6 := pg_b1 h_6
    obtain ⟨l, hl, rfl⟩ := up_ex 3 rfl (by decide) h_6
    have el : pn (nI l) = l := nI_clamp (by omega)
    rw [el] at k2
    refine go_aload_n (pc' := 10) dX7_lawOf_9 rfl rfl ?_
    refine go_getR (pc' := 13) dX7_lawOf_10 rfl flRX7_7 rfl rfl ?_
    refine go_iload_n (pc' := 14) dX7_lawOf_13 rfl rfl ?_
    refine go_iald (pc' := 15) _ dX7_lawOf_14 rfl rfl rfl (by omega) (by decide) ?_
    rw [m60_law h (by omega)]
    refine go_goto (pc' := 19) dX7_lawOf_15 (by decide) ?_
    refine go_iret dX7_lawOf_19 (pg_narI _) ?_
    exact k2 h_6

set_option maxHeartbeats 4000000 in
set_option maxRecDepth 20000 in
theorem tX6_set {sc : pg_Sc} {g : pg_S} {K : Int32 → pg_S → Prop} {T : TW} {n : Nat} {x v : Int32} (h : CR g 1 T n) (wf : WF T n) (k1 : ¬ (UP x 3 ∧ UP v (mstF x)) → K (-1) g) (k2 : UP x 3 → UP v (mstF x) → ∀ g', CR g' 1 (tu T 0 (pn x) v) n → FR 1 10 g g' → K (T 0 (pn x)) g') : pg_Cal sc 2 mX6_set [.ref 0, .int x, .int v] g (pg_ki K) := by
  refine pg_Cal.of rfl (Nat.le_of_ble_eq_true rfl) rfl ?_
  have hn := wf.1
  refine go_iload_n (pc' := 1) dX6_set_0 rfl rfl ?_
  refine go_iconst (pc' := 2) 3 dX6_set_1 rfl (by decide) ?_
  refine go_cSi2 (pc' := 5) (M' := mX6_upTo) (d' := 1) dX6_set_2 rfl csRX6_97 (by decide) rfl (Nat.le_of_ble_eq_true rfl) ?_
  refine tX6_upTo ?_
  refine go_if_eq (pc' := 8) (tgt := 20) dX6_set_5 rfl (by decide) (fun h_5 => ?_) (fun h_5 => ?_)
  · have h_5 := pg_b0 h_5
    refine go_iconst (pc' := 21) (-1) dX6_set_20 rfl (by decide) ?_
    refine go_iret dX6_set_21 (pg_narI _) ?_
    exact k1 (fun q => h_5 q.1)
  · have h_5 := pg_b1 h_5
    obtain ⟨l, hl, rfl⟩ := up_ex 3 rfl (by decide) h_5
    have el : pn (nI l) = l := nI_clamp (by omega)
    rw [el] at k2
    refine go_iload_n (pc' := 9) dX6_set_8 rfl rfl ?_
    refine go_gs1b (pc' := 12) dX6_set_9 rfl sfRX6_101 ?_
    refine go_iload_n (pc' := 13) dX6_set_12 rfl rfl ?_
    refine go_ro1 (pc' := 14) l dX6_set_13 rfl rfl (by omega) ?_
    rw [mst_t1 l (by omega)]
    refine go_cSi2 (pc' := 17) (M' := mX6_upTo) (d' := 1) dX6_set_14 rfl csRX6_97 (by decide) rfl (Nat.le_of_ble_eq_true rfl) ?_
    refine tX6_upTo ?_
    refine go_if_ne (pc' := 20) (tgt := 22) dX6_set_17 rfl (by decide) (fun h_17 => ?_) (fun h_17 => ?_)
    · have h_17 := pg_b1 h_17
      refine go_aload_n (pc' := 23) dX6_set_22 rfl rfl ?_
      refine go_getR (pc' := 26) dX6_set_23 rfl flRX6_10 rfl rfl ?_
      refine go_getR (pc' := 29) dX6_set_26 rfl flRX6_104 rfl rfl ?_
      refine go_iload_n (pc' := 30) dX6_set_29 rfl rfl ?_
      refine go_iald (pc' := 31) _ dX6_set_30 rfl rfl rfl (by omega) (by decide) ?_
      rw [c1_law h (by first | decide | omega)]
      refine go_istore_n (pc' := 32) dX6_set_31 rfl (by decide) rfl ?_
      refine go_aload_n (pc' := 33) dX6_set_32 rfl rfl ?_
      refine go_getR (pc' := 36) dX6_set_33 rfl flRX6_10 rfl rfl ?_
      refine go_getR (pc' := 39) dX6_set_36 rfl flRX6_104 rfl rfl ?_
      refine go_iload_n (pc' := 40) dX6_set_39 rfl rfl ?_
      refine go_iload_n (pc' := 41) dX6_set_40 rfl rfl ?_
      refine go_iast (pc' := 42) _ dX6_set_41 rfl rfl rfl (by omega) (by decide) ?_
      refine go_gen (fun g2 e2 => ?_)
      refine go_iload_n (pc' := 43) dX6_set_42 rfl rfl ?_
      refine go_iret dX6_set_43 (pg_narI _) ?_
      exact k2 h_5 h_17 _ (by rw [e2]; exact h.law) (by rw [e2]; exact FR.ui (by decide))
    · have h_17 := pg_b0 h_17
      refine go_iconst (pc' := 21) (-1) dX6_set_20 rfl (by decide) ?_
      refine go_iret dX6_set_21 (pg_narI _) ?_
      exact k1 (fun q => h_17 q.2)

set_option maxHeartbeats 4000000 in
set_option maxRecDepth 20000 in
theorem tX7_set {sc : pg_Sc} {g : pg_S} {K : Int32 → pg_S → Prop} {T : TW} {n : Nat} {x v : Int32} (h : MR g 60 T n) (wf : WF T n) (k1 : ¬ (UP x 3 ∧ UP v (mstF x)) → K (-1) g) (k2 : UP x 3 → UP v (mstF x) → ∀ g', MR g' 60 (tu T 0 (pn x) v) n → FR 60 61 g g' → K (T 0 (pn x)) g') : pg_Cal sc 2 mX7_set [.ref 59, .int x, .int v] g (pg_ki K) := by
  refine pg_Cal.of rfl (Nat.le_of_ble_eq_true rfl) rfl ?_
  have hn := wf.1
  refine go_iload_n (pc' := 1) dX7_set_0 rfl rfl ?_
  refine go_iconst (pc' := 2) 0 dX7_set_1 rfl (by decide) ?_
  refine go_iconst (pc' := 3) 3 dX7_set_2 rfl (by decide) ?_
  refine go_cSi3 (pc' := 6) (M' := mX7_in) (d' := 1) dX7_set_3 rfl csRX7_60 (by decide) rfl (Nat.le_of_ble_eq_true rfl) ?_
  refine tX7_in ?_
  refine go_if_eq (pc' := 9) (tgt := 30) dX7_set_6 rfl (by decide) (fun h_6 => ?_) (fun h_6 => ?_)
  · have h_6 := pg_b0 h_6
    refine go_iconst (pc' := 31) (-1) dX7_set_30 rfl (by decide) ?_
    refine go_iret dX7_set_31 (pg_narI _) ?_
    exact k1 (fun q => h_6 q.1)
  · have h_6 := pg_b1 h_6
    obtain ⟨l, hl, rfl⟩ := up_ex 3 rfl (by decide) h_6
    have el : pn (nI l) = l := nI_clamp (by omega)
    rw [el] at k2
    refine go_iload_n (pc' := 10) dX7_set_9 rfl rfl ?_
    refine go_iconst (pc' := 11) 0 dX7_set_10 rfl (by decide) ?_
    refine go_iload_n (pc' := 12) dX7_set_11 rfl rfl ?_
    refine go_cSi1 (pc' := 15) (M' := mX7_mostOf) (d' := 1) dX7_set_12 rfl csRX7_185 (by decide) rfl (Nat.le_of_ble_eq_true rfl) ?_
    refine tX7_mostOf ?_
    refine go_cSi3 (pc' := 18) (M' := mX7_in) (d' := 1) dX7_set_15 rfl csRX7_60 (by decide) rfl (Nat.le_of_ble_eq_true rfl) ?_
    refine tX7_in ?_
    refine go_if_eq (pc' := 21) (tgt := 30) dX7_set_18 rfl (by decide) (fun h_18 => ?_) (fun h_18 => ?_)
    · have h_18 := pg_b0 h_18
      refine go_iconst (pc' := 31) (-1) dX7_set_30 rfl (by decide) ?_
      refine go_iret dX7_set_31 (pg_narI _) ?_
      exact k1 (fun q => h_18 q.2)
    · have h_18 := pg_b1 h_18
      refine go_aload_n (pc' := 22) dX7_set_21 rfl rfl ?_
      refine go_iload_n (pc' := 23) dX7_set_22 rfl rfl ?_
      refine go_iload_n (pc' := 24) dX7_set_23 rfl rfl ?_
      refine go_cVi2 (pc' := 27) (M' := mX7_becomes) (d' := 1) dX7_set_24 rfl cvRX7_200 rfl rfl (by decide) rfl (Nat.le_of_ble_eq_true rfl) ?_
      refine tX7_becomes (by omega) ?_
      rw [m60_law h (by omega)]
      refine go_goto (pc' := 31) dX7_set_27 (by decide) ?_
      refine go_iret dX7_set_31 (pg_narI _) ?_
      exact k2 h_6 h_18 _ (h.law (by omega)) (FR.ui (by decide))

set_option maxHeartbeats 4000000 in
set_option maxRecDepth 20000 in
theorem tX5_admitF_1 {sc : pg_Sc} {g : pg_S} {K : Int32 → pg_S → Prop} {T : TW} {kd pg ag pl : Int32} (h : CR g 1 T 8) (k : K (-2) g) : pg_Cal sc 1 mX5_admit [.ref 1, .int kd, .int pg, .int ag, .int pl] g (pg_ki K) := by
  refine pg_Cal.of rfl (Nat.le_of_ble_eq_true rfl) rfl ?_
  refine go_aload_n (pc' := 1) dX5_admit_0 rfl rfl ?_
  refine go_getI (pc' := 4) dX5_admit_1 rfl flRX5_36 rfl rfl ?_
  rw [c1_people h]
  refine go_bipush (pc' := 6) 8 dX5_admit_4 rfl (by decide) ?_
  refine go_icmp_lt (pc' := 9) (tgt := 12) dX5_admit_6 rfl (by decide) (fun h_6 => absurd h_6 (by decide)) (fun h_6 => ?_)
  refine go_bipush (pc' := 11) (-2) dX5_admit_9 rfl (by decide) ?_
  refine go_iret dX5_admit_11 (pg_narI _) ?_
  exact k

set_option maxHeartbeats 4000000 in
set_option maxRecDepth 20000 in
theorem tX6_person {sc : pg_Sc} {g : pg_S} {K : Int32 → pg_S → Prop} {T : TW} {n : Nat} {kd pg ag pl : Int32} (h : CR g 1 T n) (wf : WF T n) (k1 : ¬ (UP kd 5 ∧ UP pg 5 ∧ UP ag 99 ∧ UP pl 11) → K (-1) g) (k2 : (UP kd 5 ∧ UP pg 5 ∧ UP ag 99 ∧ UP pl 11 → n = 8 → K (-2) g)) (k3 : UP kd 5 ∧ UP pg 5 ∧ UP ag 99 ∧ UP pl 11 → n < 8 → ∀ g', CR g' 1 (admF T n kd pg ag pl) (n + 1) → FR 1 10 g g' → K (nI n) g') : pg_Cal sc 2 mX6_person [.ref 0, .int kd, .int pg, .int ag, .int pl] g (pg_ki K) := by
  refine pg_Cal.of rfl (Nat.le_of_ble_eq_true rfl) rfl ?_
  have hn := wf.1
  refine go_iload_n (pc' := 1) dX6_person_0 rfl rfl ?_
  refine go_iconst (pc' := 2) 5 dX6_person_1 rfl (by decide) ?_
  refine go_cSi2 (pc' := 5) (M' := mX6_upTo) (d' := 1) dX6_person_2 rfl csRX6_97 (by decide) rfl (Nat.le_of_ble_eq_true rfl) ?_
  refine tX6_upTo ?_
  refine go_if_eq (pc' := 8) (tgt := 35) dX6_person_5 rfl (by decide) (fun h_5 => ?_) (fun h_5 => ?_)
  · have h_5 := pg_b0 h_5
    refine go_iconst (pc' := 36) (-1) dX6_person_35 rfl (by decide) ?_
    refine go_iret dX6_person_36 (pg_narI _) ?_
    exact k1 (fun q => h_5 q.1)
  · have h_5 := pg_b1 h_5
    refine go_iload_n (pc' := 9) dX6_person_8 rfl rfl ?_
    refine go_iconst (pc' := 10) 5 dX6_person_9 rfl (by decide) ?_
    refine go_cSi2 (pc' := 13) (M' := mX6_upTo) (d' := 1) dX6_person_10 rfl csRX6_97 (by decide) rfl (Nat.le_of_ble_eq_true rfl) ?_
    refine tX6_upTo ?_
    refine go_if_eq (pc' := 16) (tgt := 35) dX6_person_13 rfl (by decide) (fun h_13 => ?_) (fun h_13 => ?_)
    · have h_13 := pg_b0 h_13
      refine go_iconst (pc' := 36) (-1) dX6_person_35 rfl (by decide) ?_
      refine go_iret dX6_person_36 (pg_narI _) ?_
      exact k1 (fun q => h_13 q.2.1)
    · have h_13 := pg_b1 h_13
      refine go_iload_n (pc' := 17) dX6_person_16 rfl rfl ?_
      refine go_bipush (pc' := 19) 99 dX6_person_17 rfl (by decide) ?_
      refine go_cSi2 (pc' := 22) (M' := mX6_upTo) (d' := 1) dX6_person_19 rfl csRX6_97 (by decide) rfl (Nat.le_of_ble_eq_true rfl) ?_
      refine tX6_upTo ?_
      refine go_if_eq (pc' := 25) (tgt := 35) dX6_person_22 rfl (by decide) (fun h_22 => ?_) (fun h_22 => ?_)
      · have h_22 := pg_b0 h_22
        refine go_iconst (pc' := 36) (-1) dX6_person_35 rfl (by decide) ?_
        refine go_iret dX6_person_36 (pg_narI _) ?_
        exact k1 (fun q => h_22 q.2.2.1)
      · have h_22 := pg_b1 h_22
        refine go_iload (pc' := 27) dX6_person_25 rfl rfl ?_
        refine go_bipush (pc' := 29) 11 dX6_person_27 rfl (by decide) ?_
        refine go_cSi2 (pc' := 32) (M' := mX6_upTo) (d' := 1) dX6_person_29 rfl csRX6_97 (by decide) rfl (Nat.le_of_ble_eq_true rfl) ?_
        refine tX6_upTo ?_
        refine go_if_ne (pc' := 35) (tgt := 37) dX6_person_32 rfl (by decide) (fun h_32 => ?_) (fun h_32 => ?_)
        · have h_32 := pg_b1 h_32
          refine go_aload_n (pc' := 38) dX6_person_37 rfl rfl ?_
          refine go_getR (pc' := 41) dX6_person_38 rfl flRX6_10 rfl rfl ?_
          refine go_iload_n (pc' := 42) dX6_person_41 rfl rfl ?_
          refine go_iload_n (pc' := 43) dX6_person_42 rfl rfl ?_
          refine go_iload_n (pc' := 44) dX6_person_43 rfl rfl ?_
          refine go_iload (pc' := 46) dX6_person_44 rfl rfl ?_
          refine go_cVi4 (pc' := 49) (M' := mX5_admit) (d' := 1) dX6_person_46 rfl cvRX6_107 rfl rfl (by decide) rfl (Nat.le_of_ble_eq_true rfl) ?_
          have ok : UP kd 5 ∧ UP pg 5 ∧ UP ag 99 ∧ UP pl 11 := ⟨h_5, h_13, h_22, h_32⟩
          by_cases e8 : n = 8
          · subst e8
            refine tX5_admitF_1 h ?_
            refine go_iret dX6_person_49 (pg_narI _) ?_
            exact k2 ok rfl
          refine tX5_admit_1 h (by omega) (fun g' a b => ?_)
          refine go_iret dX6_person_49 (pg_narI _) ?_
          exact k3 ok (by omega) _ a b
        · have h_32 := pg_b0 h_32
          refine go_iconst (pc' := 36) (-1) dX6_person_35 rfl (by decide) ?_
          refine go_iret dX6_person_36 (pg_narI _) ?_
          exact k1 (fun q => h_32 q.2.2.2)

theorem madm {g : pg_S} {T : TW} {n : Nat} {kd pg ag pl : Int32} (h : MR g 60 T n) (hn : n < 8) : MR (pg_ui (pg_ui (pg_ui (pg_ui (pg_ui (pg_ui g.1 60 (13 + 5 * n + 0) kd) 60 (13 + 5 * n + 1) pg) 60 (13 + 5 * n + 2) ag) 60 (13 + 5 * n + 3) pl) 60 (13 + 5 * n + 4) 0) 60 5 (nI (n + 1)), g.2) 60 (admF T n kd pg ag pl) (n + 1) := by
  obtain ⟨h1, h2, h3, h4, h5⟩ := h
  have e : ∀ j, (j < 13 + 5 * n ∨ 13 + 5 * n + 5 ≤ j) → j ≠ 5 → pg_ui (pg_ui (pg_ui (pg_ui (pg_ui (pg_ui g.1 60 (13 + 5 * n + 0) kd) 60 (13 + 5 * n + 1) pg) 60 (13 + 5 * n + 2) ag) 60 (13 + 5 * n + 3) pl) 60 (13 + 5 * n + 4) 0) 60 5 (nI (n + 1)) 60 j = g.1 60 j := by
    intro j hj h5
    rw [pg_ui_at, if_neg (by omega), pg_ui_at, if_neg (by omega), pg_ui_at, if_neg (by omega), pg_ui_at, if_neg (by omega), pg_ui_at, if_neg (by omega), pg_ui_at, if_neg (by omega)]
  refine ⟨by unfold admF; rw [tu_eq], ⟨?_, ?_, ?_⟩, fun j hj => ?_, fun j hj => ?_, fun a ha j hj => ?_⟩
  · unfold admF
    rw [tu_eq]
    simp [pg_ui_at]
  · refine (e 4 (by omega) (by omega)).trans (h2.2.1.trans ?_)
    unfold admF
    simp [tu]
  · refine (e 6 (by omega) (by omega)).trans (h2.2.2.trans ?_)
    unfold admF
    simp [tu]
  · refine (e j (by omega) (by omega)).trans ((h3 j hj).trans ?_)
    unfold admF
    simp [tu]
  · refine (e (7 + j) (by omega) (by omega)).trans ((h4 j hj).trans ?_)
    unfold admF
    simp [tu]
  · by_cases ej : j = n
    · subst ej
      show pg_ui (pg_ui (pg_ui (pg_ui (pg_ui (pg_ui g.1 60 (13 + 5 * j + 0) kd) 60 (13 + 5 * j + 1) pg) 60 (13 + 5 * j + 2) ag) 60 (13 + 5 * j + 3) pl) 60 (13 + 5 * j + 4) 0) 60 5 (nI (j + 1)) 60 (13 + 5 * j + a) = _
      unfold admF
      rcases (show a = 0 ∨ a = 1 ∨ a = 2 ∨ a = 3 ∨ a = 4 by omega) with rfl | rfl | rfl | rfl | rfl <;> simp [pg_ui_at, tu] <;> omega
    · refine (e (13 + 5 * j + a) (by omega) (by omega)).trans ((h5 a ha j (by omega)).trans ?_)
      unfold admF
      simp [tu, ej]
      omega
set_option maxHeartbeats 4000000 in
set_option maxRecDepth 20000 in
theorem tX7_person {sc : pg_Sc} {g : pg_S} {K : Int32 → pg_S → Prop} {T : TW} {n : Nat} {kd pg ag pl : Int32} (h : MR g 60 T n) (wf : WF T n) (k1 : ¬ (UP kd 5 ∧ UP pg 5 ∧ UP ag 99 ∧ UP pl 11) → K (-1) g) (k2 : (UP kd 5 ∧ UP pg 5 ∧ UP ag 99 ∧ UP pl 11 → n = 8 → K (-2) g)) (k3 : UP kd 5 ∧ UP pg 5 ∧ UP ag 99 ∧ UP pl 11 → n < 8 → ∀ g', MR g' 60 (admF T n kd pg ag pl) (n + 1) → FR 60 61 g g' → K (nI n) g') : pg_Cal sc 4 mX7_person [.ref 59, .int kd, .int pg, .int ag, .int pl] g (pg_ki K) := by
  refine pg_Cal.of rfl (Nat.le_of_ble_eq_true rfl) rfl ?_
  have hn := wf.1
  refine go_iload_n (pc' := 1) dX7_person_0 rfl rfl ?_
  refine go_iload_n (pc' := 2) dX7_person_1 rfl rfl ?_
  refine go_cSi2 (pc' := 5) (M' := mX7_isKind) (d' := 3) dX7_person_2 rfl csRX7_206 (by decide) rfl (Nat.le_of_ble_eq_true rfl) ?_
  refine tX7_isKind ?_
  refine go_if_eq (pc' := 8) (tgt := 26) dX7_person_5 rfl (by decide) (fun h_5 => ?_) (fun h_5 => ?_)
  · have h_5 := pg_b0 h_5
    refine go_iconst (pc' := 27) (-1) dX7_person_26 rfl (by decide) ?_
    refine go_iret dX7_person_27 (pg_narI _) ?_
    exact k1 (fun q => h_5 ⟨q.1, q.2.1⟩)
  · have h_5 := pg_b1 h_5
    refine go_iload_n (pc' := 9) dX7_person_8 rfl rfl ?_
    refine go_iconst (pc' := 10) 0 dX7_person_9 rfl (by decide) ?_
    refine go_bipush (pc' := 12) 99 dX7_person_10 rfl (by decide) ?_
    refine go_cSi3 (pc' := 15) (M' := mX7_in) (d' := 1) dX7_person_12 rfl csRX7_60 (by decide) rfl (Nat.le_of_ble_eq_true rfl) ?_
    refine tX7_in ?_
    refine go_if_eq (pc' := 18) (tgt := 26) dX7_person_15 rfl (by decide) (fun h_15 => ?_) (fun h_15 => ?_)
    · have h_15 := pg_b0 h_15
      refine go_iconst (pc' := 27) (-1) dX7_person_26 rfl (by decide) ?_
      refine go_iret dX7_person_27 (pg_narI _) ?_
      exact k1 (fun q => h_15 q.2.2.1)
    · have h_15 := pg_b1 h_15
      refine go_iload (pc' := 20) dX7_person_18 rfl rfl ?_
      refine go_cSi1 (pc' := 23) (M' := mX7_isPlace) (d' := 2) dX7_person_20 rfl csRX7_210 (by decide) rfl (Nat.le_of_ble_eq_true rfl) ?_
      refine tX7_isPlace ?_
      refine go_if_ne (pc' := 26) (tgt := 28) dX7_person_23 rfl (by decide) (fun h_23 => ?_) (fun h_23 => ?_)
      · have h_23 := pg_b1 h_23
        refine go_aload_n (pc' := 29) dX7_person_28 rfl rfl ?_
        refine go_getR (pc' := 32) dX7_person_29 rfl flRX7_7 rfl rfl ?_
        refine go_iconst (pc' := 33) 5 dX7_person_32 rfl (by decide) ?_
        refine go_iald (pc' := 34) 5 dX7_person_33 rfl rfl rfl (by decide) (by decide) ?_
        rw [m60_people h]
        refine go_bipush (pc' := 36) 8 dX7_person_34 rfl (by decide) ?_
        refine go_icmp_ne (pc' := 39) (tgt := 42) dX7_person_36 rfl (by decide) (fun h_36 => ?_) (fun h_36 => ?_)
        · have hn8 : n < 8 := by
            rcases Nat.lt_or_ge n 8 with e | e
            · exact e
            · exact absurd (show nI n = 8 by rw [show n = 8 by omega]; rfl) h_36
          refine go_aload_n (pc' := 43) dX7_person_42 rfl rfl ?_
          refine go_getR (pc' := 46) dX7_person_43 rfl flRX7_7 rfl rfl ?_
          refine go_iconst (pc' := 47) 5 dX7_person_46 rfl (by decide) ?_
          refine go_iald (pc' := 48) 5 dX7_person_47 rfl rfl rfl (by decide) (by decide) ?_
          rw [m60_people h]
          refine go_istore (pc' := 50) dX7_person_48 rfl (by decide) rfl ?_
          refine go_aload_n (pc' := 51) dX7_person_50 rfl rfl ?_
          refine go_iload (pc' := 53) dX7_person_51 rfl rfl ?_
          refine go_iconst (pc' := 54) 0 dX7_person_53 rfl (by decide) ?_
          refine go_iload_n (pc' := 55) dX7_person_54 rfl rfl ?_
          refine go_cVv3 (pc' := 58) (M' := mX7_sets) (d' := 1) dX7_person_55 rfl cvRX7_213 rfl rfl (by decide) rfl (Nat.le_of_ble_eq_true rfl) ?_
          refine tX7_sets (p := n) (q := 0) (by omega) (by decide) ?_
          refine go_gen (fun g1 e1 => ?_)
          have p1 : g1.1 60 5 = nI n := by rw [e1]; exact (rd_ui (by omega)).trans (m60_people h)
          refine go_aload_n (pc' := 59) dX7_person_58 rfl rfl ?_
          refine go_iload (pc' := 61) dX7_person_59 rfl rfl ?_
          refine go_iconst (pc' := 62) 1 dX7_person_61 rfl (by decide) ?_
          refine go_iload_n (pc' := 63) dX7_person_62 rfl rfl ?_
          refine go_cVv3 (pc' := 66) (M' := mX7_sets) (d' := 1) dX7_person_63 rfl cvRX7_213 rfl rfl (by decide) rfl (Nat.le_of_ble_eq_true rfl) ?_
          refine tX7_sets (p := n) (q := 1) (by omega) (by decide) ?_
          refine go_gen (fun g2 e2 => ?_)
          have p2 : g2.1 60 5 = nI n := by rw [e2]; exact (rd_ui (by omega)).trans p1
          refine go_aload_n (pc' := 67) dX7_person_66 rfl rfl ?_
          refine go_iload (pc' := 69) dX7_person_67 rfl rfl ?_
          refine go_iconst (pc' := 70) 2 dX7_person_69 rfl (by decide) ?_
          refine go_iload_n (pc' := 71) dX7_person_70 rfl rfl ?_
          refine go_cVv3 (pc' := 74) (M' := mX7_sets) (d' := 1) dX7_person_71 rfl cvRX7_213 rfl rfl (by decide) rfl (Nat.le_of_ble_eq_true rfl) ?_
          refine tX7_sets (p := n) (q := 2) (by omega) (by decide) ?_
          refine go_gen (fun g3 e3 => ?_)
          have p3 : g3.1 60 5 = nI n := by rw [e3]; exact (rd_ui (by omega)).trans p2
          refine go_aload_n (pc' := 75) dX7_person_74 rfl rfl ?_
          refine go_iload (pc' := 77) dX7_person_75 rfl rfl ?_
          refine go_iconst (pc' := 78) 3 dX7_person_77 rfl (by decide) ?_
          refine go_iload (pc' := 80) dX7_person_78 rfl rfl ?_
          refine go_cVv3 (pc' := 83) (M' := mX7_sets) (d' := 1) dX7_person_80 rfl cvRX7_213 rfl rfl (by decide) rfl (Nat.le_of_ble_eq_true rfl) ?_
          refine tX7_sets (p := n) (q := 3) (by omega) (by decide) ?_
          refine go_gen (fun g4 e4 => ?_)
          have p4 : g4.1 60 5 = nI n := by rw [e4]; exact (rd_ui (by omega)).trans p3
          refine go_aload_n (pc' := 84) dX7_person_83 rfl rfl ?_
          refine go_iload (pc' := 86) dX7_person_84 rfl rfl ?_
          refine go_iconst (pc' := 87) 4 dX7_person_86 rfl (by decide) ?_
          refine go_iconst (pc' := 88) 0 dX7_person_87 rfl (by decide) ?_
          refine go_cVv3 (pc' := 91) (M' := mX7_sets) (d' := 1) dX7_person_88 rfl cvRX7_213 rfl rfl (by decide) rfl (Nat.le_of_ble_eq_true rfl) ?_
          refine tX7_sets (p := n) (q := 4) (by omega) (by decide) ?_
          refine go_gen (fun g5 e5 => ?_)
          have p5 : g5.1 60 5 = nI n := by rw [e5]; exact (rd_ui (by omega)).trans p4
          refine go_aload_n (pc' := 92) dX7_person_91 rfl rfl ?_
          refine go_getR (pc' := 95) dX7_person_92 rfl flRX7_7 rfl rfl ?_
          refine go_iconst (pc' := 96) 5 dX7_person_95 rfl (by decide) ?_
          refine go_dup2 (pc' := 97) dX7_person_96 rfl rfl rfl ?_
          refine go_iald (pc' := 98) 5 dX7_person_97 rfl rfl rfl (by omega) (by decide) ?_
          rw [p5]
          refine go_iconst (pc' := 99) 1 dX7_person_98 rfl (by decide) ?_
          refine go_iadd (pc' := 100) dX7_person_99 rfl ?_
          rw [nI_1]
          refine go_iast (pc' := 101) 5 dX7_person_100 rfl rfl rfl (by omega) (by decide) ?_
          refine go_gen (fun g6 e6 => ?_)
          refine go_iload (pc' := 103) dX7_person_101 rfl rfl ?_
          refine go_iret dX7_person_103 (pg_narI _) ?_
          refine k3 ⟨h_5.1, h_5.2, h_15, h_23⟩ hn8 _ ?_ ?_
          · subst e6 e1 e2 e3 e4 e5
            exact madm h hn8
          · subst e6 e1 e2 e3 e4 e5
            exact FR.tr (FR.tr (FR.tr (FR.tr (FR.tr (FR.ui (by decide)) (FR.ui (by decide))) (FR.ui (by decide))) (FR.ui (by decide))) (FR.ui (by decide))) (FR.ui (by decide))
        · refine go_bipush (pc' := 41) (-2) dX7_person_39 rfl (by decide) ?_
          refine go_iret dX7_person_41 (pg_narI _) ?_
          exact k2 ⟨h_5.1, h_5.2, h_15, h_23⟩ ((nI_eq (b := 8) (by omega) (by decide)).mp h_36)
      · have h_23 := pg_b0 h_23
        refine go_iconst (pc' := 27) (-1) dX7_person_26 rfl (by decide) ?_
        refine go_iret dX7_person_27 (pg_narI _) ?_
        exact k1 (fun q => h_23 q.2.2.2)

def ofF (T : TW) (n p : Nat) (x : Int32) : Int32 := if x = 5 then cntF (besF T p) n 0 0 else T (2 + pn x) p
set_option maxHeartbeats 4000000 in
set_option maxRecDepth 20000 in
theorem tX6_of {sc : pg_Sc} {g : pg_S} {K : Int32 → pg_S → Prop} {T : TW} {n : Nat} {y x : Int32} (h : CR g 1 T n) (wf : WF T n) (k1 : ¬ (PP n y ∧ UP x 5) → K (-1) g) (k2 : PP n y → UP x 5 → K (ofF T n (pn y) x) g) : pg_Cal sc 2 mX6_of [.ref 0, .int y, .int x] g (pg_ki K) := by
  refine pg_Cal.of rfl (Nat.le_of_ble_eq_true rfl) rfl ?_
  have hn := wf.1
  refine go_aload_n (pc' := 1) dX6_of_0 rfl rfl ?_
  refine go_iload_n (pc' := 2) dX6_of_1 rfl rfl ?_
  refine go_cVi1 (pc' := 5) (M' := mX6_isPerson) (d' := 1) dX6_of_2 rfl cvRX6_111 rfl rfl (by decide) rfl (Nat.le_of_ble_eq_true rfl) ?_
  refine tX6_isPerson h ?_
  refine go_if_ne (pc' := 8) (tgt := 10) dX6_of_5 rfl (by decide) (fun h_5 => ?_) (fun h_5 => ?_)
  · have h_5 := pg_b1 h_5
    obtain ⟨p, hp, rfl⟩ := pp_ex h_5
    have ep : pn (nI p) = p := nI_clamp (by omega)
    rw [ep] at k2
    refine go_iload_n (pc' := 11) dX6_of_10 rfl rfl ?_
    refine go_xcase _ pg_sw0_5 (fun h_11 => ?_)
    rcases h_11 with h_11 | h_11 | h_11 | h_11 | h_11 | h_11 | h_11
    · refine go_tableIn (pc' := 48) dX6_of_11 (by rw [h_11]; decide) (by rw [h_11]; decide) (by rw [h_11]; rfl) (by decide) ?_
      refine go_aload_n (pc' := 49) dX6_of_48 rfl rfl ?_
      refine go_getR (pc' := 52) dX6_of_49 rfl flRX6_10 rfl rfl ?_
      refine go_getR (pc' := 55) dX6_of_52 rfl flRX6_115 rfl rfl ?_
      refine go_iload_n (pc' := 56) dX6_of_55 rfl rfl ?_
      refine go_iald (pc' := 57) _ dX6_of_56 rfl rfl rfl (by omega) (by decide) ?_
      rw [c1_kind h (by omega)]
      refine go_iret dX6_of_57 (pg_narI _) ?_
      subst h_11
      exact k2 h_5 (by decide)
    · refine go_tableIn (pc' := 58) dX6_of_11 (by rw [h_11]; decide) (by rw [h_11]; decide) (by rw [h_11]; rfl) (by decide) ?_
      refine go_aload_n (pc' := 59) dX6_of_58 rfl rfl ?_
      refine go_getR (pc' := 62) dX6_of_59 rfl flRX6_10 rfl rfl ?_
      refine go_getR (pc' := 65) dX6_of_62 rfl flRX6_118 rfl rfl ?_
      refine go_iload_n (pc' := 66) dX6_of_65 rfl rfl ?_
      refine go_iald (pc' := 67) _ dX6_of_66 rfl rfl rfl (by omega) (by decide) ?_
      rw [c1_peg h (by omega)]
      refine go_iret dX6_of_67 (pg_narI _) ?_
      subst h_11
      exact k2 h_5 (by decide)
    · refine go_tableIn (pc' := 68) dX6_of_11 (by rw [h_11]; decide) (by rw [h_11]; decide) (by rw [h_11]; rfl) (by decide) ?_
      refine go_aload_n (pc' := 69) dX6_of_68 rfl rfl ?_
      refine go_getR (pc' := 72) dX6_of_69 rfl flRX6_10 rfl rfl ?_
      refine go_getR (pc' := 75) dX6_of_72 rfl flRX6_121 rfl rfl ?_
      refine go_iload_n (pc' := 76) dX6_of_75 rfl rfl ?_
      refine go_iald (pc' := 77) _ dX6_of_76 rfl rfl rfl (by omega) (by decide) ?_
      rw [c1_age h (by omega)]
      refine go_iret dX6_of_77 (pg_narI _) ?_
      subst h_11
      exact k2 h_5 (by decide)
    · refine go_tableIn (pc' := 78) dX6_of_11 (by rw [h_11]; decide) (by rw [h_11]; decide) (by rw [h_11]; rfl) (by decide) ?_
      refine go_aload_n (pc' := 79) dX6_of_78 rfl rfl ?_
      refine go_getR (pc' := 82) dX6_of_79 rfl flRX6_10 rfl rfl ?_
      refine go_getR (pc' := 85) dX6_of_82 rfl flRX6_124 rfl rfl ?_
      refine go_iload_n (pc' := 86) dX6_of_85 rfl rfl ?_
      refine go_iald (pc' := 87) _ dX6_of_86 rfl rfl rfl (by omega) (by decide) ?_
      rw [c1_place h (by omega)]
      refine go_iret dX6_of_87 (pg_narI _) ?_
      subst h_11
      exact k2 h_5 (by decide)
    · refine go_tableIn (pc' := 88) dX6_of_11 (by rw [h_11]; decide) (by rw [h_11]; decide) (by rw [h_11]; rfl) (by decide) ?_
      refine go_aload_n (pc' := 89) dX6_of_88 rfl rfl ?_
      refine go_getR (pc' := 92) dX6_of_89 rfl flRX6_10 rfl rfl ?_
      refine go_getR (pc' := 95) dX6_of_92 rfl flRX6_127 rfl rfl ?_
      refine go_iload_n (pc' := 96) dX6_of_95 rfl rfl ?_
      refine go_iald (pc' := 97) _ dX6_of_96 rfl rfl rfl (by omega) (by decide) ?_
      rw [c1_know h (by omega)]
      refine go_iret dX6_of_97 (pg_narI _) ?_
      subst h_11
      exact k2 h_5 (by decide)
    · refine go_tableIn (pc' := 98) dX6_of_11 (by rw [h_11]; decide) (by rw [h_11]; decide) (by rw [h_11]; rfl) (by decide) ?_
      refine go_aload_n (pc' := 99) dX6_of_98 rfl rfl ?_
      refine go_getR (pc' := 102) dX6_of_99 rfl flRX6_10 rfl rfl ?_
      refine go_iload_n (pc' := 103) dX6_of_102 rfl rfl ?_
      refine go_cVi1 (pc' := 106) (M' := mX5_othersBeside) (d' := 1) dX6_of_103 rfl cvRX6_130 rfl rfl (by decide) rfl (Nat.le_of_ble_eq_true rfl) ?_
      refine tX5_othersBeside_1 h wf hp ?_
      refine go_iret dX6_of_106 (pg_narI _) ?_
      subst h_11
      exact k2 h_5 (by decide)
    · refine go_tableOut (pc' := 107) dX6_of_11 h_11 (by decide) ?_
      refine go_iconst (pc' := 108) (-1) dX6_of_107 rfl (by decide) ?_
      refine go_iret dX6_of_108 (pg_narI _) ?_
      exact k1 (fun q => by rcases h_11 with e | e; exact absurd q.2.1 (by rw [Int32.le_iff_toInt_le]; show ¬ (0 : Int) ≤ _; omega); exact absurd q.2.2 (by rw [Int32.le_iff_toInt_le]; show ¬ _ ≤ (5 : Int); omega))
  · have h_5 := pg_b0 h_5
    refine go_iconst (pc' := 9) (-1) dX6_of_8 rfl (by decide) ?_
    refine go_iret dX6_of_9 (pg_narI _) ?_
    exact k1 (fun q => h_5 q.1)

set_option maxHeartbeats 4000000 in
set_option maxRecDepth 20000 in
theorem tX7_of {sc : pg_Sc} {g : pg_S} {K : Int32 → pg_S → Prop} {T : TW} {n : Nat} {y x : Int32} (h : MR g 60 T n) (wf : WF T n) (k1 : ¬ (PP n y ∧ UP x 5) → K (-1) g) (k2 : PP n y → UP x 5 → K (ofF T n (pn y) x) g) : pg_Cal sc 3 mX7_of [.ref 59, .int y, .int x] g (pg_ki K) := by
  refine pg_Cal.of rfl (Nat.le_of_ble_eq_true rfl) rfl ?_
  have hn := wf.1
  refine go_aload_n (pc' := 1) dX7_of_0 rfl rfl ?_
  refine go_iload_n (pc' := 2) dX7_of_1 rfl rfl ?_
  refine go_cVi1 (pc' := 5) (M' := mX7_isOne) (d' := 2) dX7_of_2 rfl cvRX7_220 rfl rfl (by decide) rfl (Nat.le_of_ble_eq_true rfl) ?_
  refine tX7_isOne h wf ?_
  refine go_if_eq (pc' := 8) (tgt := 17) dX7_of_5 rfl (by decide) (fun h_5 => ?_) (fun h_5 => ?_)
  · have h_5 := pg_b0 h_5
    refine go_iconst (pc' := 18) (-1) dX7_of_17 rfl (by decide) ?_
    refine go_iret dX7_of_18 (pg_narI _) ?_
    exact k1 (fun q => h_5 q.1)
  · have h_5 := pg_b1 h_5
    obtain ⟨p, hp, rfl⟩ := pp_ex h_5
    have ep : pn (nI p) = p := nI_clamp (by omega)
    rw [ep] at k2
    refine go_iload_n (pc' := 9) dX7_of_8 rfl rfl ?_
    refine go_iconst (pc' := 10) 0 dX7_of_9 rfl (by decide) ?_
    refine go_iconst (pc' := 11) 5 dX7_of_10 rfl (by decide) ?_
    refine go_cSi3 (pc' := 14) (M' := mX7_in) (d' := 1) dX7_of_11 rfl csRX7_60 (by decide) rfl (Nat.le_of_ble_eq_true rfl) ?_
    refine tX7_in ?_
    refine go_if_ne (pc' := 17) (tgt := 19) dX7_of_14 rfl (by decide) (fun h_14 => ?_) (fun h_14 => ?_)
    · have h_14 := pg_b1 h_14
      obtain ⟨q, hq, rfl⟩ := up_ex 5 rfl (by decide) h_14
      have eq : pn (nI q) = q := nI_clamp (by omega)
      refine go_iload_n (pc' := 20) dX7_of_19 rfl rfl ?_
      refine go_iconst (pc' := 21) 5 dX7_of_20 rfl (by decide) ?_
      refine go_icmp_ge (pc' := 24) (tgt := 33) dX7_of_21 rfl (by decide) (fun h_21 => ?_) (fun h_21 => ?_)
      · refine go_aload_n (pc' := 34) dX7_of_33 rfl rfl ?_
        refine go_iload_n (pc' := 35) dX7_of_34 rfl rfl ?_
        refine go_cVi1 (pc' := 38) (M' := mX7_besides) (d' := 2) dX7_of_35 rfl cvRX7_223 rfl rfl (by decide) rfl (Nat.le_of_ble_eq_true rfl) ?_
        have hq5 : q = 5 := by
          have := (nI_leI (a := 5) (by decide) (by omega)).mp h_21
          omega
        refine tX7_besides h wf hp ?_
        refine go_iret dX7_of_38 (pg_narI _) ?_
        unfold ofF at k2
        subst hq5
        rw [if_pos (show nI 5 = 5 from rfl)] at k2
        exact k2 h_5 h_14
      · refine go_aload_n (pc' := 25) dX7_of_24 rfl rfl ?_
        refine go_iload_n (pc' := 26) dX7_of_25 rfl rfl ?_
        refine go_iload_n (pc' := 27) dX7_of_26 rfl rfl ?_
        refine go_cVi2 (pc' := 30) (M' := mX7_its) (d' := 1) dX7_of_27 rfl cvRX7_217 rfl rfl (by decide) rfl (Nat.le_of_ble_eq_true rfl) ?_
        have hq5 : q < 5 := by
          rcases Nat.lt_or_ge q 5 with e | e
          · exact e
          · exact absurd (nI_le (a := 5) e (by omega)) h_21
        refine tX7_its (p := p) (q := q) (by omega) hq5 ?_
        rw [h.at5 q hp hq5]
        refine go_goto (pc' := 38) dX7_of_30 (by decide) ?_
        refine go_iret dX7_of_38 (pg_narI _) ?_
        unfold ofF at k2
        rw [if_neg (fun e => by have := (nI_eq (b := 5) (by omega) (by decide)).mp e; omega), eq] at k2
        exact k2 h_5 h_14
    · have h_14 := pg_b0 h_14
      refine go_iconst (pc' := 18) (-1) dX7_of_17 rfl (by decide) ?_
      refine go_iret dX7_of_18 (pg_narI _) ?_
      exact k1 (fun q => h_14 q.2)

set_option maxHeartbeats 4000000 in
set_option maxRecDepth 20000 in
theorem tX6_leans {sc : pg_Sc} {g : pg_S} {K : Int32 → pg_S → Prop} {T : TW} {n : Nat} {y x : Int32} (h : CR g 1 T n) (wf : WF T n) (k1 : ¬ (PP n y ∧ UP x 9999) → K (-1) g) (k2 : PP n y → UP x 9999 → K (1000 + leanF T (pn y) x) g) : pg_Cal sc 2 mX6_leans [.ref 0, .int y, .int x] g (pg_ki K) := by
  refine pg_Cal.of rfl (Nat.le_of_ble_eq_true rfl) rfl ?_
  have hn := wf.1
  refine go_aload_n (pc' := 1) dX6_leans_0 rfl rfl ?_
  refine go_iload_n (pc' := 2) dX6_leans_1 rfl rfl ?_
  refine go_cVi1 (pc' := 5) (M' := mX6_isPerson) (d' := 1) dX6_leans_2 rfl cvRX6_111 rfl rfl (by decide) rfl (Nat.le_of_ble_eq_true rfl) ?_
  refine tX6_isPerson h ?_
  refine go_if_eq (pc' := 8) (tgt := 18) dX6_leans_5 rfl (by decide) (fun h_5 => ?_) (fun h_5 => ?_)
  · have h_5 := pg_b0 h_5
    refine go_iconst (pc' := 19) (-1) dX6_leans_18 rfl (by decide) ?_
    refine go_iret dX6_leans_19 (pg_narI _) ?_
    exact k1 (fun q => h_5 q.1)
  · have h_5 := pg_b1 h_5
    obtain ⟨p, hp, rfl⟩ := pp_ex h_5
    have ep : pn (nI p) = p := nI_clamp (by omega)
    rw [ep] at k2
    refine go_iload_n (pc' := 9) dX6_leans_8 rfl rfl ?_
    refine go_sipush (pc' := 12) 9999 dX6_leans_9 rfl (by decide) ?_
    refine go_cSi2 (pc' := 15) (M' := mX6_upTo) (d' := 1) dX6_leans_12 rfl csRX6_97 (by decide) rfl (Nat.le_of_ble_eq_true rfl) ?_
    refine tX6_upTo ?_
    refine go_if_ne (pc' := 18) (tgt := 20) dX6_leans_15 rfl (by decide) (fun h_15 => ?_) (fun h_15 => ?_)
    · have h_15 := pg_b1 h_15
      refine go_sipush (pc' := 23) 1000 dX6_leans_20 rfl (by decide) ?_
      refine go_aload_n (pc' := 24) dX6_leans_23 rfl rfl ?_
      refine go_getR (pc' := 27) dX6_leans_24 rfl flRX6_10 rfl rfl ?_
      refine go_iload_n (pc' := 28) dX6_leans_27 rfl rfl ?_
      refine go_iload_n (pc' := 29) dX6_leans_28 rfl rfl ?_
      refine go_cVi2 (pc' := 32) (M' := mX5_leanAt) (d' := 1) dX6_leans_29 rfl cvRX6_134 rfl rfl (by decide) rfl (Nat.le_of_ble_eq_true rfl) ?_
      refine tX5_leanAt_1 h wf hp ?_
      refine go_iadd (pc' := 33) dX6_leans_32 rfl ?_
      refine go_iret dX6_leans_33 (pg_narI _) ?_
      exact k2 h_5 h_15
    · have h_15 := pg_b0 h_15
      refine go_iconst (pc' := 19) (-1) dX6_leans_18 rfl (by decide) ?_
      refine go_iret dX6_leans_19 (pg_narI _) ?_
      exact k1 (fun q => h_15 q.2)

set_option maxHeartbeats 4000000 in
set_option maxRecDepth 20000 in
theorem tX7_leans {sc : pg_Sc} {g : pg_S} {K : Int32 → pg_S → Prop} {T : TW} {n : Nat} {y x : Int32} (h : MR g 60 T n) (wf : WF T n) (k1 : ¬ (PP n y ∧ UP x 9999) → K (-1) g) (k2 : PP n y → UP x 9999 → K (1000 + leanF T (pn y) x) g) : pg_Cal sc 3 mX7_leans [.ref 59, .int y, .int x] g (pg_ki K) := by
  refine pg_Cal.of rfl (Nat.le_of_ble_eq_true rfl) rfl ?_
  have hn := wf.1
  refine go_aload_n (pc' := 1) dX7_leans_0 rfl rfl ?_
  refine go_iload_n (pc' := 2) dX7_leans_1 rfl rfl ?_
  refine go_cVi1 (pc' := 5) (M' := mX7_isOne) (d' := 2) dX7_leans_2 rfl cvRX7_220 rfl rfl (by decide) rfl (Nat.le_of_ble_eq_true rfl) ?_
  refine tX7_isOne h wf ?_
  refine go_if_eq (pc' := 8) (tgt := 32) dX7_leans_5 rfl (by decide) (fun h_5 => ?_) (fun h_5 => ?_)
  · have h_5 := pg_b0 h_5
    refine go_iconst (pc' := 33) (-1) dX7_leans_32 rfl (by decide) ?_
    refine go_iret dX7_leans_33 (pg_narI _) ?_
    exact k1 (fun q => h_5 q.1)
  · have h_5 := pg_b1 h_5
    obtain ⟨p, hp, rfl⟩ := pp_ex h_5
    have ep : pn (nI p) = p := nI_clamp (by omega)
    rw [ep] at k2
    refine go_iload_n (pc' := 9) dX7_leans_8 rfl rfl ?_
    refine go_iconst (pc' := 10) 0 dX7_leans_9 rfl (by decide) ?_
    refine go_sipush (pc' := 13) 9999 dX7_leans_10 rfl (by decide) ?_
    refine go_cSi3 (pc' := 16) (M' := mX7_in) (d' := 1) dX7_leans_13 rfl csRX7_60 (by decide) rfl (Nat.le_of_ble_eq_true rfl) ?_
    refine tX7_in ?_
    refine go_if_eq (pc' := 19) (tgt := 32) dX7_leans_16 rfl (by decide) (fun h_16 => ?_) (fun h_16 => ?_)
    · have h_16 := pg_b0 h_16
      refine go_iconst (pc' := 33) (-1) dX7_leans_32 rfl (by decide) ?_
      refine go_iret dX7_leans_33 (pg_narI _) ?_
      exact k1 (fun q => h_16 q.2)
    · have h_16 := pg_b1 h_16
      refine go_sipush (pc' := 22) 1000 dX7_leans_19 rfl (by decide) ?_
      refine go_aload_n (pc' := 23) dX7_leans_22 rfl rfl ?_
      refine go_iload_n (pc' := 24) dX7_leans_23 rfl rfl ?_
      refine go_iload_n (pc' := 25) dX7_leans_24 rfl rfl ?_
      refine go_cVi2 (pc' := 28) (M' := mX7_leaning) (d' := 2) dX7_leans_25 rfl cvRX7_226 rfl rfl (by decide) rfl (Nat.le_of_ble_eq_true rfl) ?_
      refine tX7_leaning h wf hp ?_
      refine go_iadd (pc' := 29) dX7_leans_28 rfl ?_
      refine go_goto (pc' := 33) dX7_leans_29 (by decide) ?_
      refine go_iret dX7_leans_33 (pg_narI _) ?_
      exact k2 h_5 h_16

set_option maxHeartbeats 4000000 in
set_option maxRecDepth 20000 in
theorem tX6_strides {sc : pg_Sc} {g : pg_S} {K : Int32 → pg_S → Prop} {T : TW} {n : Nat} {y : Int32} (h : CR g 1 T n) (wf : WF T n) (k1 : ¬ PP n y → K (-1) g) (k2 : PP n y → K (1000 + strideF T (pn y)) g) : pg_Cal sc 2 mX6_strides [.ref 0, .int y] g (pg_ki K) := by
  refine pg_Cal.of rfl (Nat.le_of_ble_eq_true rfl) rfl ?_
  have hn := wf.1
  refine go_aload_n (pc' := 1) dX6_strides_0 rfl rfl ?_
  refine go_iload_n (pc' := 2) dX6_strides_1 rfl rfl ?_
  refine go_cVi1 (pc' := 5) (M' := mX6_isPerson) (d' := 1) dX6_strides_2 rfl cvRX6_111 rfl rfl (by decide) rfl (Nat.le_of_ble_eq_true rfl) ?_
  refine tX6_isPerson h ?_
  refine go_if_eq (pc' := 8) (tgt := 23) dX6_strides_5 rfl (by decide) (fun h_5 => ?_) (fun h_5 => ?_)
  · have h_5 := pg_b0 h_5
    refine go_iconst (pc' := 24) (-1) dX6_strides_23 rfl (by decide) ?_
    refine go_iret dX6_strides_24 (pg_narI _) ?_
    exact k1 (fun q => h_5 q)
  · have h_5 := pg_b1 h_5
    obtain ⟨p, hp, rfl⟩ := pp_ex h_5
    have ep : pn (nI p) = p := nI_clamp (by omega)
    rw [ep] at k2
    refine go_sipush (pc' := 11) 1000 dX6_strides_8 rfl (by decide) ?_
    refine go_aload_n (pc' := 12) dX6_strides_11 rfl rfl ?_
    refine go_getR (pc' := 15) dX6_strides_12 rfl flRX6_10 rfl rfl ?_
    refine go_iload_n (pc' := 16) dX6_strides_15 rfl rfl ?_
    refine go_cVi1 (pc' := 19) (M' := mX5_strideOf) (d' := 1) dX6_strides_16 rfl cvRX6_138 rfl rfl (by decide) rfl (Nat.le_of_ble_eq_true rfl) ?_
    refine tX5_strideOf_1 h wf hp ?_
    refine go_iadd (pc' := 20) dX6_strides_19 rfl ?_
    refine go_goto (pc' := 24) dX6_strides_20 (by decide) ?_
    refine go_iret dX6_strides_24 (pg_narI _) ?_
    exact k2 h_5

set_option maxHeartbeats 4000000 in
set_option maxRecDepth 20000 in
theorem tX7_strides {sc : pg_Sc} {g : pg_S} {K : Int32 → pg_S → Prop} {T : TW} {n : Nat} {y : Int32} (h : MR g 60 T n) (wf : WF T n) (k1 : ¬ PP n y → K (-1) g) (k2 : PP n y → K (1000 + strideF T (pn y)) g) : pg_Cal sc 3 mX7_strides [.ref 59, .int y] g (pg_ki K) := by
  refine pg_Cal.of rfl (Nat.le_of_ble_eq_true rfl) rfl ?_
  have hn := wf.1
  refine go_aload_n (pc' := 1) dX7_strides_0 rfl rfl ?_
  refine go_iload_n (pc' := 2) dX7_strides_1 rfl rfl ?_
  refine go_cVi1 (pc' := 5) (M' := mX7_isOne) (d' := 2) dX7_strides_2 rfl cvRX7_220 rfl rfl (by decide) rfl (Nat.le_of_ble_eq_true rfl) ?_
  refine tX7_isOne h wf ?_
  refine go_if_eq (pc' := 8) (tgt := 20) dX7_strides_5 rfl (by decide) (fun h_5 => ?_) (fun h_5 => ?_)
  · have h_5 := pg_b0 h_5
    refine go_iconst (pc' := 21) (-1) dX7_strides_20 rfl (by decide) ?_
    refine go_iret dX7_strides_21 (pg_narI _) ?_
    exact k1 (fun q => h_5 q)
  · have h_5 := pg_b1 h_5
    obtain ⟨p, hp, rfl⟩ := pp_ex h_5
    have ep : pn (nI p) = p := nI_clamp (by omega)
    rw [ep] at k2
    refine go_sipush (pc' := 11) 1000 dX7_strides_8 rfl (by decide) ?_
    refine go_aload_n (pc' := 12) dX7_strides_11 rfl rfl ?_
    refine go_iload_n (pc' := 13) dX7_strides_12 rfl rfl ?_
    refine go_cVi1 (pc' := 16) (M' := mX7_striding) (d' := 2) dX7_strides_13 rfl cvRX7_229 rfl rfl (by decide) rfl (Nat.le_of_ble_eq_true rfl) ?_
    refine tX7_striding h wf hp ?_
    refine go_iadd (pc' := 17) dX7_strides_16 rfl ?_
    refine go_goto (pc' := 21) dX7_strides_17 (by decide) ?_
    refine go_iret dX7_strides_21 (pg_narI _) ?_
    exact k2 h_5

set_option maxHeartbeats 4000000 in
set_option maxRecDepth 20000 in
theorem tX6_mind {sc : pg_Sc} {g : pg_S} {K : Int32 → pg_S → Prop} {T : TW} {n : Nat} {y kd pg : Int32} (h : CR g 1 T n) (wf : WF T n) (k1 : ¬ (PP n y ∧ UP kd 5 ∧ UP pg 5) → K (-1) g) (k2 : PP n y → UP kd 5 → UP pg 5 → ∀ g', CR g' 1 (tu (tu T 2 (pn y) kd) 3 (pn y) pg) n → FR 1 10 g g' → K (T 2 (pn y)) g') : pg_Cal sc 2 mX6_mind [.ref 0, .int y, .int kd, .int pg] g (pg_ki K) := by
  refine pg_Cal.of rfl (Nat.le_of_ble_eq_true rfl) rfl ?_
  have hn := wf.1
  refine go_aload_n (pc' := 1) dX6_mind_0 rfl rfl ?_
  refine go_iload_n (pc' := 2) dX6_mind_1 rfl rfl ?_
  refine go_cVi1 (pc' := 5) (M' := mX6_isPerson) (d' := 1) dX6_mind_2 rfl cvRX6_111 rfl rfl (by decide) rfl (Nat.le_of_ble_eq_true rfl) ?_
  refine tX6_isPerson h ?_
  refine go_if_eq (pc' := 8) (tgt := 24) dX6_mind_5 rfl (by decide) (fun h_5 => ?_) (fun h_5 => ?_)
  · have h_5 := pg_b0 h_5
    refine go_iconst (pc' := 25) (-1) dX6_mind_24 rfl (by decide) ?_
    refine go_iret dX6_mind_25 (pg_narI _) ?_
    exact k1 (fun q => h_5 q.1)
  · have h_5 := pg_b1 h_5
    obtain ⟨p, hp, rfl⟩ := pp_ex h_5
    have ep : pn (nI p) = p := nI_clamp (by omega)
    rw [ep] at k2
    refine go_iload_n (pc' := 9) dX6_mind_8 rfl rfl ?_
    refine go_iconst (pc' := 10) 5 dX6_mind_9 rfl (by decide) ?_
    refine go_cSi2 (pc' := 13) (M' := mX6_upTo) (d' := 1) dX6_mind_10 rfl csRX6_97 (by decide) rfl (Nat.le_of_ble_eq_true rfl) ?_
    refine tX6_upTo ?_
    refine go_if_eq (pc' := 16) (tgt := 24) dX6_mind_13 rfl (by decide) (fun h_13 => ?_) (fun h_13 => ?_)
    · have h_13 := pg_b0 h_13
      refine go_iconst (pc' := 25) (-1) dX6_mind_24 rfl (by decide) ?_
      refine go_iret dX6_mind_25 (pg_narI _) ?_
      exact k1 (fun q => h_13 q.2.1)
    · have h_13 := pg_b1 h_13
      refine go_iload_n (pc' := 17) dX6_mind_16 rfl rfl ?_
      refine go_iconst (pc' := 18) 5 dX6_mind_17 rfl (by decide) ?_
      refine go_cSi2 (pc' := 21) (M' := mX6_upTo) (d' := 1) dX6_mind_18 rfl csRX6_97 (by decide) rfl (Nat.le_of_ble_eq_true rfl) ?_
      refine tX6_upTo ?_
      refine go_if_ne (pc' := 24) (tgt := 26) dX6_mind_21 rfl (by decide) (fun h_21 => ?_) (fun h_21 => ?_)
      · have h_21 := pg_b1 h_21
        refine go_aload_n (pc' := 27) dX6_mind_26 rfl rfl ?_
        refine go_getR (pc' := 30) dX6_mind_27 rfl flRX6_10 rfl rfl ?_
        refine go_getR (pc' := 33) dX6_mind_30 rfl flRX6_115 rfl rfl ?_
        refine go_iload_n (pc' := 34) dX6_mind_33 rfl rfl ?_
        refine go_iald (pc' := 35) _ dX6_mind_34 rfl rfl rfl (by omega) (by decide) ?_
        rw [c1_kind h (by omega)]
        refine go_istore (pc' := 37) dX6_mind_35 rfl (by decide) rfl ?_
        refine go_aload_n (pc' := 38) dX6_mind_37 rfl rfl ?_
        refine go_getR (pc' := 41) dX6_mind_38 rfl flRX6_10 rfl rfl ?_
        refine go_getR (pc' := 44) dX6_mind_41 rfl flRX6_115 rfl rfl ?_
        refine go_iload_n (pc' := 45) dX6_mind_44 rfl rfl ?_
        refine go_iload_n (pc' := 46) dX6_mind_45 rfl rfl ?_
        refine go_iast (pc' := 47) _ dX6_mind_46 rfl rfl rfl (by omega) (by decide) ?_
        refine go_gen (fun g2 e2 => ?_)
        have h2 : CR g2 1 (tu T 2 p kd) n := by rw [e2]; exact h.put (a := 2) (by decide) (by decide)
        have f2 : FR 1 10 g g2 := by rw [e2]; exact FR.ui (by decide)
        refine go_aload_n (pc' := 48) dX6_mind_47 rfl rfl ?_
        refine go_getR (pc' := 51) dX6_mind_48 rfl flRX6_10 rfl rfl ?_
        refine go_getR (pc' := 54) dX6_mind_51 rfl flRX6_118 rfl rfl ?_
        refine go_iload_n (pc' := 55) dX6_mind_54 rfl rfl ?_
        refine go_iload_n (pc' := 56) dX6_mind_55 rfl rfl ?_
        refine go_iast (pc' := 57) _ dX6_mind_56 rfl rfl rfl (by omega) (by decide) ?_
        refine go_iload (pc' := 59) dX6_mind_57 rfl rfl ?_
        refine go_iret dX6_mind_59 (pg_narI _) ?_
        exact k2 h_5 h_13 h_21 _ (h2.put (a := 3) (by decide) (by decide)) (FR.tr f2 (FR.ui (by decide)))
      · have h_21 := pg_b0 h_21
        refine go_iconst (pc' := 25) (-1) dX6_mind_24 rfl (by decide) ?_
        refine go_iret dX6_mind_25 (pg_narI _) ?_
        exact k1 (fun q => h_21 q.2.2)

theorem tu_sw (T : TW) {a b i j : Nat} (v u : Int32) (h : a ≠ b) : tu (tu T a i v) b j u = tu (tu T b j u) a i v := by
  funext c k
  unfold tu
  by_cases h1 : c = b ∧ k = j
  · rw [if_pos h1, if_neg (fun q => h (q.1.symm.trans h1.1)), if_pos h1]
  · rw [if_neg h1]
    by_cases h2 : c = a ∧ k = i
    · rw [if_pos h2, if_pos h2]
    · rw [if_neg h2, if_neg h2, if_neg h1]
theorem pg_ix0 (p : Nat) : (13 : Int32) + 5 * nI p = nI (13 + 5 * p + 0) := by
  rw [show (13 : Int32) = nI 13 from rfl, show (5 : Int32) = nI 5 from rfl, pk_mul, nI_add]
  rfl
theorem pg_ixk (p : Nat) (c : Int32) (q : Nat) (hc : c = nI q) : (13 : Int32) + 5 * nI p + c = nI (13 + 5 * p + q) := by
  rw [hc]; exact pg_ix13 p q
set_option maxHeartbeats 4000000 in
set_option maxRecDepth 20000 in
theorem tX7_mind {sc : pg_Sc} {g : pg_S} {K : Int32 → pg_S → Prop} {T : TW} {n : Nat} {y kd pg : Int32} (h : MR g 60 T n) (wf : WF T n) (k1 : ¬ (PP n y ∧ UP kd 5 ∧ UP pg 5) → K (-1) g) (k2 : PP n y → UP kd 5 → UP pg 5 → ∀ g', MR g' 60 (tu (tu T 2 (pn y) kd) 3 (pn y) pg) n → FR 60 61 g g' → K (T 2 (pn y)) g') : pg_Cal sc 4 mX7_mind [.ref 59, .int y, .int kd, .int pg] g (pg_ki K) := by
  refine pg_Cal.of rfl (Nat.le_of_ble_eq_true rfl) rfl ?_
  have hn := wf.1
  refine go_aload_n (pc' := 1) dX7_mind_0 rfl rfl ?_
  refine go_iload_n (pc' := 2) dX7_mind_1 rfl rfl ?_
  refine go_cVi1 (pc' := 5) (M' := mX7_isOne) (d' := 2) dX7_mind_2 rfl cvRX7_220 rfl rfl (by decide) rfl (Nat.le_of_ble_eq_true rfl) ?_
  refine tX7_isOne h wf ?_
  refine go_if_eq (pc' := 8) (tgt := 16) dX7_mind_5 rfl (by decide) (fun h_5 => ?_) (fun h_5 => ?_)
  · have h_5 := pg_b0 h_5
    refine go_iconst (pc' := 17) (-1) dX7_mind_16 rfl (by decide) ?_
    refine go_iret dX7_mind_17 (pg_narI _) ?_
    exact k1 (fun q => h_5 q.1)
  · have h_5 := pg_b1 h_5
    obtain ⟨p, hp, rfl⟩ := pp_ex h_5
    have ep : pn (nI p) = p := nI_clamp (by omega)
    rw [ep] at k2
    refine go_iload_n (pc' := 9) dX7_mind_8 rfl rfl ?_
    refine go_iload_n (pc' := 10) dX7_mind_9 rfl rfl ?_
    refine go_cSi2 (pc' := 13) (M' := mX7_isKind) (d' := 3) dX7_mind_10 rfl csRX7_206 (by decide) rfl (Nat.le_of_ble_eq_true rfl) ?_
    refine tX7_isKind ?_
    refine go_if_ne (pc' := 16) (tgt := 18) dX7_mind_13 rfl (by decide) (fun h_13 => ?_) (fun h_13 => ?_)
    · have h_13 := pg_b1 h_13
      refine go_aload_n (pc' := 19) dX7_mind_18 rfl rfl ?_
      refine go_iload_n (pc' := 20) dX7_mind_19 rfl rfl ?_
      refine go_iconst (pc' := 21) 1 dX7_mind_20 rfl (by decide) ?_
      refine go_iload_n (pc' := 22) dX7_mind_21 rfl rfl ?_
      refine go_cVv3 (pc' := 25) (M' := mX7_sets) (d' := 1) dX7_mind_22 rfl cvRX7_213 rfl rfl (by decide) rfl (Nat.le_of_ble_eq_true rfl) ?_
      refine tX7_sets (p := p) (q := 1) (by omega) (by decide) ?_
      refine go_gen (fun g2 e2 => ?_)
      have h2 : MR g2 60 (tu T 3 p pg) n := by rw [e2]; exact h.put (a := 1) (by decide)
      have f2 : FR 60 61 g g2 := by rw [e2]; exact FR.ui (by decide)
      refine go_aload_n (pc' := 26) dX7_mind_25 rfl rfl ?_
      refine go_bipush (pc' := 28) 13 dX7_mind_26 rfl (by decide) ?_
      refine go_iconst (pc' := 29) 5 dX7_mind_28 rfl (by decide) ?_
      refine go_iload_n (pc' := 30) dX7_mind_29 rfl rfl ?_
      refine go_imul (pc' := 31) dX7_mind_30 rfl ?_
      refine go_iadd (pc' := 32) dX7_mind_31 rfl ?_
      refine go_iload_n (pc' := 33) dX7_mind_32 rfl rfl ?_
      refine go_cVi2 (pc' := 36) (M' := mX7_becomes) (d' := 1) dX7_mind_33 rfl cvRX7_200 rfl rfl (by decide) rfl (Nat.le_of_ble_eq_true rfl) ?_
      rw [pg_ix0]
      refine tX7_becomes (by omega) ?_
      rw [h2.at5 0 hp (by decide), tu_na (by decide)]
      refine go_iret dX7_mind_36 (pg_narI _) ?_
      refine k2 h_5 h_13.1 h_13.2 _ ?_ (FR.tr f2 (FR.ui (by decide)))
      rw [tu_sw _ _ _ (by decide)]
      exact h2.put (a := 0) (by decide)
    · have h_13 := pg_b0 h_13
      refine go_iconst (pc' := 17) (-1) dX7_mind_16 rfl (by decide) ?_
      refine go_iret dX7_mind_17 (pg_narI _) ?_
      exact k1 (fun q => h_13 q.2)

set_option maxHeartbeats 4000000 in
set_option maxRecDepth 20000 in
theorem tX6_age {sc : pg_Sc} {g : pg_S} {K : Int32 → pg_S → Prop} {T : TW} {n : Nat} {y v : Int32} (h : CR g 1 T n) (wf : WF T n) (k1 : ¬ (PP n y ∧ UP v 99) → K (-1) g) (k2 : PP n y → UP v 99 → ∀ g', CR g' 1 (tu T 4 (pn y) v) n → FR 1 10 g g' → K (T 4 (pn y)) g') : pg_Cal sc 2 mX6_age [.ref 0, .int y, .int v] g (pg_ki K) := by
  refine pg_Cal.of rfl (Nat.le_of_ble_eq_true rfl) rfl ?_
  have hn := wf.1
  refine go_aload_n (pc' := 1) dX6_age_0 rfl rfl ?_
  refine go_iload_n (pc' := 2) dX6_age_1 rfl rfl ?_
  refine go_cVi1 (pc' := 5) (M' := mX6_isPerson) (d' := 1) dX6_age_2 rfl cvRX6_111 rfl rfl (by decide) rfl (Nat.le_of_ble_eq_true rfl) ?_
  refine tX6_isPerson h ?_
  refine go_if_eq (pc' := 8) (tgt := 17) dX6_age_5 rfl (by decide) (fun h_5 => ?_) (fun h_5 => ?_)
  · have h_5 := pg_b0 h_5
    refine go_iconst (pc' := 18) (-1) dX6_age_17 rfl (by decide) ?_
    refine go_iret dX6_age_18 (pg_narI _) ?_
    exact k1 (fun q => h_5 q.1)
  · have h_5 := pg_b1 h_5
    obtain ⟨p, hp, rfl⟩ := pp_ex h_5
    have ep : pn (nI p) = p := nI_clamp (by omega)
    rw [ep] at k2
    refine go_iload_n (pc' := 9) dX6_age_8 rfl rfl ?_
    refine go_bipush (pc' := 11) 99 dX6_age_9 rfl (by decide) ?_
    refine go_cSi2 (pc' := 14) (M' := mX6_upTo) (d' := 1) dX6_age_11 rfl csRX6_97 (by decide) rfl (Nat.le_of_ble_eq_true rfl) ?_
    refine tX6_upTo ?_
    refine go_if_ne (pc' := 17) (tgt := 19) dX6_age_14 rfl (by decide) (fun h_14 => ?_) (fun h_14 => ?_)
    · have h_14 := pg_b1 h_14
      refine go_aload_n (pc' := 20) dX6_age_19 rfl rfl ?_
      refine go_getR (pc' := 23) dX6_age_20 rfl flRX6_10 rfl rfl ?_
      refine go_getR (pc' := 26) dX6_age_23 rfl flRX6_121 rfl rfl ?_
      refine go_iload_n (pc' := 27) dX6_age_26 rfl rfl ?_
      refine go_iald (pc' := 28) _ dX6_age_27 rfl rfl rfl (by omega) (by decide) ?_
      rw [c1_age h (by omega)]
      refine go_istore_n (pc' := 29) dX6_age_28 rfl (by decide) rfl ?_
      refine go_aload_n (pc' := 30) dX6_age_29 rfl rfl ?_
      refine go_getR (pc' := 33) dX6_age_30 rfl flRX6_10 rfl rfl ?_
      refine go_getR (pc' := 36) dX6_age_33 rfl flRX6_121 rfl rfl ?_
      refine go_iload_n (pc' := 37) dX6_age_36 rfl rfl ?_
      refine go_iload_n (pc' := 38) dX6_age_37 rfl rfl ?_
      refine go_iast (pc' := 39) _ dX6_age_38 rfl rfl rfl (by omega) (by decide) ?_
      refine go_iload_n (pc' := 40) dX6_age_39 rfl rfl ?_
      refine go_iret dX6_age_40 (pg_narI _) ?_
      exact k2 h_5 h_14 _ (h.put (a := 4) (by decide) (by decide)) (FR.ui (by decide))
    · have h_14 := pg_b0 h_14
      refine go_iconst (pc' := 18) (-1) dX6_age_17 rfl (by decide) ?_
      refine go_iret dX6_age_18 (pg_narI _) ?_
      exact k1 (fun q => h_14 q.2)

set_option maxHeartbeats 4000000 in
set_option maxRecDepth 20000 in
theorem tX7_age {sc : pg_Sc} {g : pg_S} {K : Int32 → pg_S → Prop} {T : TW} {n : Nat} {y v : Int32} (h : MR g 60 T n) (wf : WF T n) (k1 : ¬ (PP n y ∧ UP v 99) → K (-1) g) (k2 : PP n y → UP v 99 → ∀ g', MR g' 60 (tu T 4 (pn y) v) n → FR 60 61 g g' → K (T 4 (pn y)) g') : pg_Cal sc 3 mX7_age [.ref 59, .int y, .int v] g (pg_ki K) := by
  refine pg_Cal.of rfl (Nat.le_of_ble_eq_true rfl) rfl ?_
  have hn := wf.1
  refine go_aload_n (pc' := 1) dX7_age_0 rfl rfl ?_
  refine go_iload_n (pc' := 2) dX7_age_1 rfl rfl ?_
  refine go_cVi1 (pc' := 5) (M' := mX7_isOne) (d' := 2) dX7_age_2 rfl cvRX7_220 rfl rfl (by decide) rfl (Nat.le_of_ble_eq_true rfl) ?_
  refine tX7_isOne h wf ?_
  refine go_if_eq (pc' := 8) (tgt := 34) dX7_age_5 rfl (by decide) (fun h_5 => ?_) (fun h_5 => ?_)
  · have h_5 := pg_b0 h_5
    refine go_iconst (pc' := 35) (-1) dX7_age_34 rfl (by decide) ?_
    refine go_iret dX7_age_35 (pg_narI _) ?_
    exact k1 (fun q => h_5 q.1)
  · have h_5 := pg_b1 h_5
    obtain ⟨p, hp, rfl⟩ := pp_ex h_5
    have ep : pn (nI p) = p := nI_clamp (by omega)
    rw [ep] at k2
    refine go_iload_n (pc' := 9) dX7_age_8 rfl rfl ?_
    refine go_iconst (pc' := 10) 0 dX7_age_9 rfl (by decide) ?_
    refine go_bipush (pc' := 12) 99 dX7_age_10 rfl (by decide) ?_
    refine go_cSi3 (pc' := 15) (M' := mX7_in) (d' := 1) dX7_age_12 rfl csRX7_60 (by decide) rfl (Nat.le_of_ble_eq_true rfl) ?_
    refine tX7_in ?_
    refine go_if_eq (pc' := 18) (tgt := 34) dX7_age_15 rfl (by decide) (fun h_15 => ?_) (fun h_15 => ?_)
    · have h_15 := pg_b0 h_15
      refine go_iconst (pc' := 35) (-1) dX7_age_34 rfl (by decide) ?_
      refine go_iret dX7_age_35 (pg_narI _) ?_
      exact k1 (fun q => h_15 q.2)
    · have h_15 := pg_b1 h_15
      refine go_aload_n (pc' := 19) dX7_age_18 rfl rfl ?_
      refine go_bipush (pc' := 21) 13 dX7_age_19 rfl (by decide) ?_
      refine go_iconst (pc' := 22) 5 dX7_age_21 rfl (by decide) ?_
      refine go_iload_n (pc' := 23) dX7_age_22 rfl rfl ?_
      refine go_imul (pc' := 24) dX7_age_23 rfl ?_
      refine go_iadd (pc' := 25) dX7_age_24 rfl ?_
      refine go_iconst (pc' := 26) 2 dX7_age_25 rfl (by decide) ?_
      refine go_iadd (pc' := 27) dX7_age_26 rfl ?_
      refine go_iload_n (pc' := 28) dX7_age_27 rfl rfl ?_
      refine go_cVi2 (pc' := 31) (M' := mX7_becomes) (d' := 1) dX7_age_28 rfl cvRX7_200 rfl rfl (by decide) rfl (Nat.le_of_ble_eq_true rfl) ?_
      rw [pg_ixk p 2 2 rfl]
      refine tX7_becomes (by omega) ?_
      rw [h.at5 2 hp (by decide)]
      refine go_goto (pc' := 35) dX7_age_31 (by decide) ?_
      refine go_iret dX7_age_35 (pg_narI _) ?_
      exact k2 h_5 h_15 _ (h.put (a := 2) (by decide)) (FR.ui (by decide))

set_option maxHeartbeats 4000000 in
set_option maxRecDepth 20000 in
theorem tX6_bring {sc : pg_Sc} {g : pg_S} {K : Int32 → pg_S → Prop} {T : TW} {n : Nat} {y v : Int32} (h : CR g 1 T n) (wf : WF T n) (k1 : ¬ (PP n y ∧ UP v 11) → K (-1) g) (k2 : PP n y → UP v 11 → ∀ g', CR g' 1 (tu T 5 (pn y) v) n → FR 1 10 g g' → K (T 5 (pn y)) g') : pg_Cal sc 2 mX6_bring [.ref 0, .int y, .int v] g (pg_ki K) := by
  refine pg_Cal.of rfl (Nat.le_of_ble_eq_true rfl) rfl ?_
  have hn := wf.1
  refine go_aload_n (pc' := 1) dX6_bring_0 rfl rfl ?_
  refine go_iload_n (pc' := 2) dX6_bring_1 rfl rfl ?_
  refine go_cVi1 (pc' := 5) (M' := mX6_isPerson) (d' := 1) dX6_bring_2 rfl cvRX6_111 rfl rfl (by decide) rfl (Nat.le_of_ble_eq_true rfl) ?_
  refine tX6_isPerson h ?_
  refine go_if_eq (pc' := 8) (tgt := 17) dX6_bring_5 rfl (by decide) (fun h_5 => ?_) (fun h_5 => ?_)
  · have h_5 := pg_b0 h_5
    refine go_iconst (pc' := 18) (-1) dX6_bring_17 rfl (by decide) ?_
    refine go_iret dX6_bring_18 (pg_narI _) ?_
    exact k1 (fun q => h_5 q.1)
  · have h_5 := pg_b1 h_5
    obtain ⟨p, hp, rfl⟩ := pp_ex h_5
    have ep : pn (nI p) = p := nI_clamp (by omega)
    rw [ep] at k2
    refine go_iload_n (pc' := 9) dX6_bring_8 rfl rfl ?_
    refine go_bipush (pc' := 11) 11 dX6_bring_9 rfl (by decide) ?_
    refine go_cSi2 (pc' := 14) (M' := mX6_upTo) (d' := 1) dX6_bring_11 rfl csRX6_97 (by decide) rfl (Nat.le_of_ble_eq_true rfl) ?_
    refine tX6_upTo ?_
    refine go_if_ne (pc' := 17) (tgt := 19) dX6_bring_14 rfl (by decide) (fun h_14 => ?_) (fun h_14 => ?_)
    · have h_14 := pg_b1 h_14
      refine go_aload_n (pc' := 20) dX6_bring_19 rfl rfl ?_
      refine go_getR (pc' := 23) dX6_bring_20 rfl flRX6_10 rfl rfl ?_
      refine go_getR (pc' := 26) dX6_bring_23 rfl flRX6_124 rfl rfl ?_
      refine go_iload_n (pc' := 27) dX6_bring_26 rfl rfl ?_
      refine go_iald (pc' := 28) _ dX6_bring_27 rfl rfl rfl (by omega) (by decide) ?_
      rw [c1_place h (by omega)]
      refine go_istore_n (pc' := 29) dX6_bring_28 rfl (by decide) rfl ?_
      refine go_aload_n (pc' := 30) dX6_bring_29 rfl rfl ?_
      refine go_getR (pc' := 33) dX6_bring_30 rfl flRX6_10 rfl rfl ?_
      refine go_getR (pc' := 36) dX6_bring_33 rfl flRX6_124 rfl rfl ?_
      refine go_iload_n (pc' := 37) dX6_bring_36 rfl rfl ?_
      refine go_iload_n (pc' := 38) dX6_bring_37 rfl rfl ?_
      refine go_iast (pc' := 39) _ dX6_bring_38 rfl rfl rfl (by omega) (by decide) ?_
      refine go_iload_n (pc' := 40) dX6_bring_39 rfl rfl ?_
      refine go_iret dX6_bring_40 (pg_narI _) ?_
      exact k2 h_5 h_14 _ (h.put (a := 5) (by decide) (by decide)) (FR.ui (by decide))
    · have h_14 := pg_b0 h_14
      refine go_iconst (pc' := 18) (-1) dX6_bring_17 rfl (by decide) ?_
      refine go_iret dX6_bring_18 (pg_narI _) ?_
      exact k1 (fun q => h_14 q.2)

set_option maxHeartbeats 4000000 in
set_option maxRecDepth 20000 in
theorem tX7_bring {sc : pg_Sc} {g : pg_S} {K : Int32 → pg_S → Prop} {T : TW} {n : Nat} {y v : Int32} (h : MR g 60 T n) (wf : WF T n) (k1 : ¬ (PP n y ∧ UP v 11) → K (-1) g) (k2 : PP n y → UP v 11 → ∀ g', MR g' 60 (tu T 5 (pn y) v) n → FR 60 61 g g' → K (T 5 (pn y)) g') : pg_Cal sc 3 mX7_bring [.ref 59, .int y, .int v] g (pg_ki K) := by
  refine pg_Cal.of rfl (Nat.le_of_ble_eq_true rfl) rfl ?_
  have hn := wf.1
  refine go_aload_n (pc' := 1) dX7_bring_0 rfl rfl ?_
  refine go_iload_n (pc' := 2) dX7_bring_1 rfl rfl ?_
  refine go_cVi1 (pc' := 5) (M' := mX7_isOne) (d' := 2) dX7_bring_2 rfl cvRX7_220 rfl rfl (by decide) rfl (Nat.le_of_ble_eq_true rfl) ?_
  refine tX7_isOne h wf ?_
  refine go_if_eq (pc' := 8) (tgt := 31) dX7_bring_5 rfl (by decide) (fun h_5 => ?_) (fun h_5 => ?_)
  · have h_5 := pg_b0 h_5
    refine go_iconst (pc' := 32) (-1) dX7_bring_31 rfl (by decide) ?_
    refine go_iret dX7_bring_32 (pg_narI _) ?_
    exact k1 (fun q => h_5 q.1)
  · have h_5 := pg_b1 h_5
    obtain ⟨p, hp, rfl⟩ := pp_ex h_5
    have ep : pn (nI p) = p := nI_clamp (by omega)
    rw [ep] at k2
    refine go_iload_n (pc' := 9) dX7_bring_8 rfl rfl ?_
    refine go_cSi1 (pc' := 12) (M' := mX7_isPlace) (d' := 2) dX7_bring_9 rfl csRX7_210 (by decide) rfl (Nat.le_of_ble_eq_true rfl) ?_
    refine tX7_isPlace ?_
    refine go_if_eq (pc' := 15) (tgt := 31) dX7_bring_12 rfl (by decide) (fun h_12 => ?_) (fun h_12 => ?_)
    · have h_12 := pg_b0 h_12
      refine go_iconst (pc' := 32) (-1) dX7_bring_31 rfl (by decide) ?_
      refine go_iret dX7_bring_32 (pg_narI _) ?_
      exact k1 (fun q => h_12 q.2)
    · have h_12 := pg_b1 h_12
      refine go_aload_n (pc' := 16) dX7_bring_15 rfl rfl ?_
      refine go_bipush (pc' := 18) 13 dX7_bring_16 rfl (by decide) ?_
      refine go_iconst (pc' := 19) 5 dX7_bring_18 rfl (by decide) ?_
      refine go_iload_n (pc' := 20) dX7_bring_19 rfl rfl ?_
      refine go_imul (pc' := 21) dX7_bring_20 rfl ?_
      refine go_iadd (pc' := 22) dX7_bring_21 rfl ?_
      refine go_iconst (pc' := 23) 3 dX7_bring_22 rfl (by decide) ?_
      refine go_iadd (pc' := 24) dX7_bring_23 rfl ?_
      refine go_iload_n (pc' := 25) dX7_bring_24 rfl rfl ?_
      refine go_cVi2 (pc' := 28) (M' := mX7_becomes) (d' := 1) dX7_bring_25 rfl cvRX7_200 rfl rfl (by decide) rfl (Nat.le_of_ble_eq_true rfl) ?_
      rw [pg_ixk p 3 3 rfl]
      refine tX7_becomes (by omega) ?_
      rw [h.at5 3 hp (by decide)]
      refine go_goto (pc' := 32) dX7_bring_28 (by decide) ?_
      refine go_iret dX7_bring_32 (pg_narI _) ?_
      exact k2 h_5 h_12 _ (h.put (a := 3) (by decide)) (FR.ui (by decide))

