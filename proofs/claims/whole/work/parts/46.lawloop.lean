theorem law_sub : ∀ n, n ≤ 2560 → (nI n - 5).toInt = (n : Int) - 5 := by
  intro n hn
  rw [Int32.toInt_sub, nI_toInt (by omega), show (5 : Int32).toInt = 5 from rfl]
  exact Int.bmod_eq_of_le (by omega) (by omega)
theorem law_le {n i : Nat} (hn : n ≤ 2560) (hi : i ≤ 2560) (h : ¬ nI n - 5 < nI i) : i + 5 ≤ n := by
  rw [Int32.lt_iff_toInt_lt, law_sub n hn, nI_toInt (by omega)] at h
  omega
theorem law_gt {n i : Nat} (hn : n ≤ 2560) (hi : i ≤ 2560) (h : i + 5 ≤ n) : ¬ nI n - 5 < nI i := by
  rw [Int32.lt_iff_toInt_lt, law_sub n hn, nI_toInt (by omega)]
  omega
set_option maxHeartbeats 4000000 in
set_option maxRecDepth 20000 in
theorem law_sw {sc : pg_Sc} {Q : pg_Q} {i : Nat} {g : pg_S} (hB : sc.1 < 2 ^ 31) (hi : i + 5 ≤ sc.1) (I : INV g) (k : ∀ g', INV g' → pg_Go sc 40 mL_law 1702 [(0, .ref 906), (1, .ref 0), (2, .ref 59), (3, .int (nI i))] [] g' Q) (v : Nat) (hv : v < 64) : pg_Go sc 40 mL_law 32 [(0, .ref 906), (1, .ref 0), (2, .ref 59), (3, .int (nI i))] [.int (nI v)] g Q := by
  match v, hv with
  | 0, _ => exact go_tableIn (pc' := 232) dL_law_32 (by decide) (by decide) (by rfl) (by decide) (law_feed hB hi I k)
  | 1, _ => exact go_tableIn (pc' := 295) dL_law_32 (by decide) (by decide) (by rfl) (by decide) (law_school hB hi I k)
  | 2, _ => exact go_tableIn (pc' := 308) dL_law_32 (by decide) (by decide) (by rfl) (by decide) (law_set hB hi I k)
  | 3, _ => exact go_tableIn (pc' := 341) dL_law_32 (by decide) (by decide) (by rfl) (by decide) (law_lawOf hB hi I k)
  | 4, _ => exact go_tableIn (pc' := 364) dL_law_32 (by decide) (by decide) (by rfl) (by decide) (law_person hB hi I k)
  | 5, _ => exact go_tableIn (pc' := 417) dL_law_32 (by decide) (by decide) (by rfl) (by decide) (law_of hB hi I k)
  | 6, _ => exact go_tableIn (pc' := 450) dL_law_32 (by decide) (by decide) (by rfl) (by decide) (law_leans hB hi I k)
  | 7, _ => exact go_tableIn (pc' := 483) dL_law_32 (by decide) (by decide) (by rfl) (by decide) (law_strides hB hi I k)
  | 8, _ => exact go_tableIn (pc' := 506) dL_law_32 (by decide) (by decide) (by rfl) (by decide) (law_mind hB hi I k)
  | 9, _ => exact go_tableIn (pc' := 549) dL_law_32 (by decide) (by decide) (by rfl) (by decide) (law_age hB hi I k)
  | 10, _ => exact go_tableIn (pc' := 582) dL_law_32 (by decide) (by decide) (by rfl) (by decide) (law_bring hB hi I k)
  | 11, _ => exact go_tableIn (pc' := 615) dL_law_32 (by decide) (by decide) (by rfl) (by decide) (law_know hB hi I k)
  | 12, _ => exact go_tableIn (pc' := 658) dL_law_32 (by decide) (by decide) (by rfl) (by decide) (law_weigh hB hi I k)
  | 13, _ => exact go_tableIn (pc' := 691) dL_law_32 (by decide) (by decide) (by rfl) (by decide) (law_peg hB hi I k)
  | 14, _ => exact go_tableIn (pc' := 724) dL_law_32 (by decide) (by decide) (by rfl) (by decide) (law_hours hB hi I k)
  | 15, _ => exact go_tableIn (pc' := 747) dL_law_32 (by decide) (by decide) (by rfl) (by decide) (law_seed hB hi I k)
  | 16, _ => exact go_tableIn (pc' := 770) dL_law_32 (by decide) (by decide) (by rfl) (by decide) (law_hour hB hi I k)
  | 17, _ => exact go_tableIn (pc' := 783) dL_law_32 (by decide) (by decide) (by rfl) (by decide) (law_found hB hi I k)
  | 18, _ => exact go_tableIn (pc' := 806) dL_law_32 (by decide) (by decide) (by rfl) (by decide) (law_state hB hi I k)
  | 19, _ => exact go_tableIn (pc' := 829) dL_law_32 (by decide) (by decide) (by rfl) (by decide) (law_ahead hB hi I k)
  | 20, _ => exact go_tableIn (pc' := 872) dL_law_32 (by decide) (by decide) (by rfl) (by decide) (law_meet hB hi I k)
  | 21, _ => exact go_tableIn (pc' := 905) dL_law_32 (by decide) (by decide) (by rfl) (by decide) (law_gather hB hi I k)
  | 22, _ => exact go_tableIn (pc' := 918) dL_law_32 (by decide) (by decide) (by rfl) (by decide) (law_alone hB hi I k)
  | 23, _ => exact go_tableIn (pc' := 941) dL_law_32 (by decide) (by decide) (by rfl) (by decide) (law_pegFor hB hi I k)
  | 24, _ => exact go_tableIn (pc' := 974) dL_law_32 (by decide) (by decide) (by rfl) (by decide) (law_kindFor hB hi I k)
  | 25, _ => exact go_tableIn (pc' := 1007) dL_law_32 (by decide) (by decide) (by rfl) (by decide) (law_placeFor hB hi I k)
  | 26, _ => exact go_tableIn (pc' := 1040) dL_law_32 (by decide) (by decide) (by rfl) (by decide) (law_circle hB hi I k)
  | 27, _ => exact go_tableIn (pc' := 1063) dL_law_32 (by decide) (by decide) (by rfl) (by decide) (law_apart hB hi I k)
  | 28, _ => exact go_tableIn (pc' := 1076) dL_law_32 (by decide) (by decide) (by rfl) (by decide) (law_fits hB hi I k)
  | 29, _ => exact go_tableIn (pc' := 1119) dL_law_32 (by decide) (by decide) (by rfl) (by decide) (law_odds hB hi I k)
  | 30, _ => exact go_tableIn (pc' := 1163) dL_law_32 (by decide) (by decide) (by rfl) (by decide) (law_hope hB hi I k)
  | 31, _ => exact go_tableIn (pc' := 1197) dL_law_32 (by decide) (by decide) (by rfl) (by decide) (law_prove hB hi I k)
  | 32, _ => exact go_tableIn (pc' := 1230) dL_law_32 (by decide) (by decide) (by rfl) (by decide) (law_row hB hi I k)
  | 33, _ => exact go_tableIn (pc' := 1263) dL_law_32 (by decide) (by decide) (by rfl) (by decide) (law_alterRow hB hi I k)
  | 34, _ => exact go_tableIn (pc' := 1306) dL_law_32 (by decide) (by decide) (by rfl) (by decide) (law_judge hB hi I k)
  | 35, _ => exact go_tableIn (pc' := 1329) dL_law_32 (by decide) (by decide) (by rfl) (by decide) (law_minds hB hi I k)
  | 36, _ => exact go_tableIn (pc' := 1382) dL_law_32 (by decide) (by decide) (by rfl) (by decide) (law_sheet hB hi I k)
  | 37, _ => exact go_tableIn (pc' := 1425) dL_law_32 (by decide) (by decide) (by rfl) (by decide) (law_put hB hi I k)
  | 38, _ => exact go_tableIn (pc' := 1468) dL_law_32 (by decide) (by decide) (by rfl) (by decide) (law_item hB hi I k)
  | 39, _ => exact go_tableIn (pc' := 1511) dL_law_32 (by decide) (by decide) (by rfl) (by decide) (law_shelf hB hi I k)
  | 40, _ => exact go_tableIn (pc' := 1554) dL_law_32 (by decide) (by decide) (by rfl) (by decide) (law_taken hB hi I k)
  | 41, _ => exact go_tableIn (pc' := 1587) dL_law_32 (by decide) (by decide) (by rfl) (by decide) (law_act hB hi I k)
  | 42, _ => exact go_tableIn (pc' := 1630) dL_law_32 (by decide) (by decide) (by rfl) (by decide) (law_trace hB hi I k)
  | 43, _ => exact go_tableIn (pc' := 1653) dL_law_32 (by decide) (by decide) (by rfl) (by decide) (law_many hB hi I k)
  | 44, _ => exact go_tableIn (pc' := 1676) dL_law_32 (by decide) (by decide) (by rfl) (by decide) (law_keep hB hi I k)
  | 45, _ => exact go_tableIn (pc' := 1689) dL_law_32 (by decide) (by decide) (by rfl) (by decide) (law_again hB hi I k)
  | v + 46, h =>
    refine go_tableOut (pc' := 1702) dL_law_32 (Or.inr (by rw [nI_toInt (by omega)]; omega)) (by decide) ?_
    exact k g I
set_option maxHeartbeats 4000000 in
set_option maxRecDepth 20000 in
theorem law_loop {sc : pg_Sc}  : ∀ (m : Nat) (i : Nat) (g : pg_S), sc.1 ≤ 2560 → i ≤ sc.1 → sc.1 ≤ i + m → INV g → pg_Go sc 40 mL_law 18 [(0, .ref 906), (1, .ref 0), (2, .ref 59), (3, .int (nI i))] [] g (pg_ki (fun v _ => v = 1)) := by
  intro m
  induction m with
  | zero =>
    intro i g hL hi hm I
    refine go_iload_n (pc' := 19) dL_law_18 rfl rfl ?_
    refine go_aload_n (pc' := 20) dL_law_19 rfl rfl ?_
    refine go_scrlen (pc' := 21) dL_law_20 rfl ?_
    refine go_iconst (pc' := 22) 5 dL_law_21 rfl (by decide) ?_
    refine go_isub (pc' := 23) dL_law_22 rfl ?_
    refine go_icmp_gt (pc' := 26) (tgt := 1708) dL_law_23 rfl (by decide) (fun h_23 => ?_) (fun h_23 => absurd (law_le hL (by omega) h_23) (by omega))
    refine go_iconst (pc' := 1709) 1 dL_law_1708 rfl (by decide) ?_
    refine go_iret dL_law_1709 (by first | exact pg_nar1 | exact pg_nar0 | exact pg_narB) ?_
    exact rfl
  | succ m ih =>
    intro i g hL hi hm I
    by_cases h5 : i + 5 ≤ sc.1
    · refine go_iload_n (pc' := 19) dL_law_18 rfl rfl ?_
      refine go_aload_n (pc' := 20) dL_law_19 rfl rfl ?_
      refine go_scrlen (pc' := 21) dL_law_20 rfl ?_
      refine go_iconst (pc' := 22) 5 dL_law_21 rfl (by decide) ?_
      refine go_isub (pc' := 23) dL_law_22 rfl ?_
      refine go_icmp_gt (pc' := 26) (tgt := 1708) dL_law_23 rfl (by decide) (fun h_23 => absurd h_23 (law_gt hL (by omega) h5)) (fun h_23 => ?_)
      refine go_aload_n (pc' := 27) dL_law_26 rfl rfl ?_
      refine go_iload_n (pc' := 28) dL_law_27 rfl rfl ?_
      refine go_scr (pc' := 29) i dL_law_28 rfl rfl (by omega) (by omega) ?_
      refine go_bipush (pc' := 31) 63 dL_law_29 rfl (by decide) ?_
      refine go_iand (pc' := 32) dL_law_31 rfl ?_
      obtain ⟨v, hv, ev⟩ := pk_andE (sc.2 i) (m := 63) 6 (by decide)
      rw [ev]
      refine law_sw (by omega) h5 I (fun g2 I2 => ?_) v hv
      refine go_iinc (pc' := 1705) (nI (i + 5)) dL_law_1702 rfl rfl (show nI i + nI 5 = nI (i + 5) by rw [nI_add]) (by decide) rfl ?_
      refine go_goto (pc' := 18) dL_law_1705 (by decide) ?_
      exact ih (i + 5) g2 hL h5 (by omega) I2
    · refine go_iload_n (pc' := 19) dL_law_18 rfl rfl ?_
      refine go_aload_n (pc' := 20) dL_law_19 rfl rfl ?_
      refine go_scrlen (pc' := 21) dL_law_20 rfl ?_
      refine go_iconst (pc' := 22) 5 dL_law_21 rfl (by decide) ?_
      refine go_isub (pc' := 23) dL_law_22 rfl ?_
      refine go_icmp_gt (pc' := 26) (tgt := 1708) dL_law_23 rfl (by decide) (fun h_23 => ?_) (fun h_23 => absurd (law_le hL (by omega) h_23) h5)
      refine go_iconst (pc' := 1709) 1 dL_law_1708 rfl (by decide) ?_
      refine go_iret dL_law_1709 (by first | exact pg_nar1 | exact pg_nar0 | exact pg_narB) ?_
      exact rfl

