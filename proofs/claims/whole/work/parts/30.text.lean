set_option maxHeartbeats 1000000 in
theorem go_cStr {sc : pg_Sc} {d : Nat} {M : MI} {pc pc' : Nat} {lv : pg_Lv} {st : List Value} {g : pg_S} {Q : pg_Q} {idx n d' : Nat} {M' : MI} {As : List Value} (hd : decode M.2.1 pc = .ok (.invokevirtual idx, 3)) (hn : pc + 3 = pc') (cw : pg_CV M.1.cls idx M' n) (hcl : M'.1.cls = "java/lang/String") (hdd : d' < d) (hrt : pg_isI M'.2.2.2 = true) (hlen : As.length = n) (hst : (st.map fun v => v.category).sum ≤ 8) (k : pg_Cal sc d' M' (.ref 904 :: As) g (pg_ki (fun v g' => pg_Go sc d M pc' lv (.int v :: st) g' Q))) : pg_Go sc d M pc lv (As.reverse ++ .ref 904 :: st) g Q := by
  subst hn
  intro p l e R s m args below meth c cells slots D cA ad A Z H locs ls cx hP hD hS hl
  obtain ⟨w1, w2, w3, w4, w5, w6, w7⟩ := cw
  have hrecv := vk_recv (i := 0) cx.2.2.2.2.2.2.2.2.1.2.2.2.2.2.2.1 (by decide) hS
  rw [← hcl] at hrecv
  have hroom : (pg_rm d').frames + 1 ≤ R.frames ∧ 8 + (M'.2.2.1 + 11) + (pg_rm d').locals ≤ R.locals := by
    have h1 := cx.2.2.2.2.2.1.1
    have h2 := cx.2.2.2.2.2.1.2.1
    refine ⟨by show d' + 1 ≤ R.frames; omega, ?_⟩
    show 8 + (M'.2.2.1 + 11) + 64 * d' ≤ R.locals
    omega
  have hpre := pg_pre (sc := sc) (av := (.ref 904 :: As : List Value).map (pg_tv ad)) (g := g) cx.2.2.2.2.2.2.1 cx.2.2.2.2.2.2.2.2.1 cx.2.2.2.2.2.2.2.1 hP hD hS
  have hM := k l D cA ad H.size
  have hQ : pg_Qc M'.2.2.2 (pg_ki (fun v g' => pg_Go sc d M (pc + 3) lv (.int v :: st) g' Q)) D cA ad (va_A (pg_ws ad cA g) H.size) = va_Qi (fun r g => pg_ki (fun v g' => pg_Go sc d M (pc + 3) lv (.int v :: st) g' Q) (some (.int r)) g) (pg_B D cA ad (va_A (pg_ws ad cA g) H.size)) (va_A (pg_ws ad cA g) H.size) := by
    cases hty : M'.2.2.2 with
      | none => rw [hty] at hrt; cases hrt
      | some ty => rw [hty] at hrt; cases ty <;> first | rfl | cases hrt
  rw [hQ] at hM
  have hF : ∀ q, va_A (pg_ws ad cA g) H.size q → A q := by
    intro q hq
    rcases hq with ⟨i, e, h⟩ | h
    · exact hD.2 i _ h
    · exact cx.2.2.2.2.2.2.2.1 q (Nat.le_trans hS.1 h)
  refine va_calli (va_runV (As := As.map (pg_tv ad)) (rest := st.map (pg_tv ad)) ⟨cx.1, cx.2.1, cx.2.2.1, cx.2.2.2.1, cx.2.2.2.2.1⟩ hM ⟨callB_of n cx.2.2.2.2.1 (pg_good w5) rfl rfl rfl (cx.2.2.2.2.1 _ w4) (cx.2.2.2.2.1 _ w1) w7 hroom, cx.2.2.2.2.1 _ w2, cx.2.2.2.2.1 _ w3⟩ ⟨pg_blind, hrecv, hpre⟩ rfl (by rw [List.length_map]; exact hlen) (hl.1) (by show List.map _ _ = _; rw [List.map_append, List.map_reverse]; rfl) (lv_room (by rw [pg_stk]; exact hst)) hd ⟨cx.2.2.2.2.2.1.2.2.1, cx.2.2.2.2.2.1.2.2.2⟩) hS (fun q _ h => hF q h) hF (fun r u t H1 locs1 ht hvm hw hB hz1 hk1 hS => ?_)
  obtain ⟨hP1, hK1, hD1⟩ := hB
  rw [ht] at hP1
  exact hw p l e R s m args below meth c cells slots D cA ad A Z H1 locs1 ls cx hP1 ⟨hD1.1, fun i q h => hF _ (hD1.2 i q h)⟩ hS hl
theorem go_cStr0 {sc : pg_Sc} {d : Nat} {M : MI} {pc pc' : Nat} {lv : pg_Lv} {st : List Value} {g : pg_S} {Q : pg_Q} {idx d' : Nat} {M' : MI} (hd : decode M.2.1 pc = .ok (.invokevirtual idx, 3)) (hn : pc + 3 = pc') (cw : pg_CV M.1.cls idx M' 0) (hcl : M'.1.cls = "java/lang/String") (hdd : d' < d) (hrt : pg_isI M'.2.2.2 = true) (hst : (st.map fun v => v.category).sum ≤ 8) (k : pg_Cal sc d' M' [.ref 904] g (pg_ki (fun v g' => pg_Go sc d M pc' lv (.int v :: st) g' Q))) : pg_Go sc d M pc lv (.ref 904 :: st) g Q := go_cStr (As := []) hd hn cw hcl hdd hrt rfl hst k
theorem go_cStr1 {sc : pg_Sc} {d : Nat} {M : MI} {pc pc' : Nat} {lv : pg_Lv} {st : List Value} {g : pg_S} {Q : pg_Q} {idx d' : Nat} {M' : MI} {a1 : Value} (hd : decode M.2.1 pc = .ok (.invokevirtual idx, 3)) (hn : pc + 3 = pc') (cw : pg_CV M.1.cls idx M' 1) (hcl : M'.1.cls = "java/lang/String") (hdd : d' < d) (hrt : pg_isI M'.2.2.2 = true) (hst : (st.map fun v => v.category).sum ≤ 8) (k : pg_Cal sc d' M' [.ref 904, a1] g (pg_ki (fun v g' => pg_Go sc d M pc' lv (.int v :: st) g' Q))) : pg_Go sc d M pc lv (a1 :: .ref 904 :: st) g Q := go_cStr (As := [a1]) hd hn cw hcl hdd hrt rfl hst k
theorem tx_c : ∀ c, c < 140 → ((pg_tx.getD c 0 &&& 255).toUInt32 % 65536).toInt32 = pg_tx.getD c 0 := by decide +kernel
theorem pg_narC {c : Nat} (hc : c < 140) : pg_nar (some .char) (pg_tx.getD c 0) := ⟨.char, rfl, by decide, (by decide +kernel : ∀ c, c < 140 → narrow .char (.int (pg_tx.getD c 0)) = .int (pg_tx.getD c 0)) c hc⟩
set_option maxHeartbeats 4000000 in
set_option maxRecDepth 20000 in
theorem tJ0_isLatin1_aae02 {sc : pg_Sc} {g : pg_S} {K : Int32 → pg_S → Prop}   (k : K (1) g) : pg_Cal sc 1 mJ0_isLatin1_aae02 [.ref 904] g (pg_ki K) := by
  refine pg_Cal.of rfl (Nat.le_of_ble_eq_true rfl) rfl ?_
  refine go_gs4 (pc' := 3) dJ0_isLatin1_aae02_0 rfl sfRJ0_38 ?_
  refine go_if_eq (pc' := 6) (tgt := 17) dJ0_isLatin1_aae02_3 rfl (by decide) (fun h_3 => absurd h_3 (by decide)) (fun h_3 => ?_)
  refine go_aload_n (pc' := 7) dJ0_isLatin1_aae02_6 rfl rfl ?_
  refine go_strC (pc' := 10) dJ0_isLatin1_aae02_7 rfl sfRJ0_15 ?_
  refine go_if_ne (pc' := 13) (tgt := 17) dJ0_isLatin1_aae02_10 rfl (by decide) (fun h_10 => absurd rfl h_10) (fun h_10 => ?_)
  refine go_iconst (pc' := 14) 1 dJ0_isLatin1_aae02_13 rfl (by decide) ?_
  refine go_goto (pc' := 18) dJ0_isLatin1_aae02_14 (by decide) ?_
  refine go_iret dJ0_isLatin1_aae02_18 (by first | exact pg_nar1 | exact pg_nar0 | exact pg_narB) ?_
  exact k

set_option maxHeartbeats 4000000 in
set_option maxRecDepth 20000 in
theorem tJ3_n {sc : pg_Sc} {g : pg_S} {K : Int32 → pg_S → Prop} {a b : Nat} (ha : a < b) (hb : b < 2 ^ 31) (k : K (nI a) g) : pg_Cal sc 1 mJ3_checkIndex_8e157 [.int (nI a), .int (nI b), .null] g (pg_ki K) := by
  refine pg_Cal.of rfl (Nat.le_of_ble_eq_true rfl) rfl ?_
  refine go_iload_n (pc' := 1) dJ3_checkIndex_8e157_0 rfl rfl ?_
  refine go_if_lt (pc' := 4) (tgt := 9) dJ3_checkIndex_8e157_1 rfl (by decide) (fun h_1 => absurd h_1 (nI_n0 (by omega))) (fun h_1 => ?_)
  refine go_iload_n (pc' := 5) dJ3_checkIndex_8e157_4 rfl rfl ?_
  refine go_iload_n (pc' := 6) dJ3_checkIndex_8e157_5 rfl rfl ?_
  refine go_icmp_lt (pc' := 9) (tgt := 16) dJ3_checkIndex_8e157_6 rfl (by decide) (fun h_6 => ?_) (fun h_6 => absurd (nI_lt ha hb) h_6)
  refine go_iload_n (pc' := 17) dJ3_checkIndex_8e157_16 rfl rfl ?_
  refine go_iret dJ3_checkIndex_8e157_17 (pg_narI _) ?_
  exact k

set_option maxHeartbeats 4000000 in
set_option maxRecDepth 20000 in
theorem tJ3_r {sc : pg_Sc} {g : pg_S} {K : Int32 → pg_S → Prop} {a b : Nat} (ha : a < b) (hb : b < 2 ^ 31) (k : K (nI a) g) : pg_Cal sc 1 mJ3_checkIndex_8e157 [.int (nI a), .int (nI b), .ref 907] g (pg_ki K) := by
  refine pg_Cal.of rfl (Nat.le_of_ble_eq_true rfl) rfl ?_
  refine go_iload_n (pc' := 1) dJ3_checkIndex_8e157_0 rfl rfl ?_
  refine go_if_lt (pc' := 4) (tgt := 9) dJ3_checkIndex_8e157_1 rfl (by decide) (fun h_1 => absurd h_1 (nI_n0 (by omega))) (fun h_1 => ?_)
  refine go_iload_n (pc' := 5) dJ3_checkIndex_8e157_4 rfl rfl ?_
  refine go_iload_n (pc' := 6) dJ3_checkIndex_8e157_5 rfl rfl ?_
  refine go_icmp_lt (pc' := 9) (tgt := 16) dJ3_checkIndex_8e157_6 rfl (by decide) (fun h_6 => ?_) (fun h_6 => absurd (nI_lt ha hb) h_6)
  refine go_iload_n (pc' := 17) dJ3_checkIndex_8e157_16 rfl rfl ?_
  refine go_iret dJ3_checkIndex_8e157_17 (pg_narI _) ?_
  exact k

set_option maxHeartbeats 4000000 in
set_option maxRecDepth 20000 in
theorem tJ0_checkIndex_df160 {sc : pg_Sc} {g : pg_S} {K : pg_S → Prop} {a b : Nat} (ha : a < b) (hb : b < 2 ^ 31) (k : K g) : pg_Cal sc 2 mJ0_checkIndex_df160 [.int (nI a), .int (nI b)] g (pg_kv K) := by
  refine pg_Cal.of rfl (Nat.le_of_ble_eq_true rfl) rfl ?_
  refine go_iload_n (pc' := 1) dJ0_checkIndex_df160_0 rfl rfl ?_
  refine go_iload_n (pc' := 2) dJ0_checkIndex_df160_1 rfl rfl ?_
  refine go_gs5 (pc' := 5) dJ0_checkIndex_df160_2 rfl sfRJ0_1053 ?_ ?_
  · refine go_cSi3 (pc' := 8) (M' := mJ3_checkIndex_8e157) (d' := 1) dJ0_checkIndex_df160_5 rfl csRJ0_1059 (by decide) rfl (Nat.le_of_ble_eq_true rfl) ?_
    refine tJ3_n ha hb ?_
    refine go_pop (pc' := 9) dJ0_checkIndex_df160_8 rfl rfl ?_
    refine go_vret dJ0_checkIndex_df160_9 rfl ?_
    exact k
  · refine go_cSi3 (pc' := 8) (M' := mJ3_checkIndex_8e157) (d' := 1) dJ0_checkIndex_df160_5 rfl csRJ0_1059 (by decide) rfl (Nat.le_of_ble_eq_true rfl) ?_
    refine tJ3_r ha hb ?_
    refine go_pop (pc' := 9) dJ0_checkIndex_df160_8 rfl rfl ?_
    refine go_vret dJ0_checkIndex_df160_9 rfl ?_
    exact k

set_option maxHeartbeats 4000000 in
set_option maxRecDepth 20000 in
theorem tJ1_charAt_3b067 {sc : pg_Sc} {g : pg_S} {K : Int32 → pg_S → Prop} {c : Nat} (hc : c < 140) (k : K (pg_tx.getD c 0) g) : pg_Cal sc 3 mJ1_charAt_3b067 [.ref 905, .int (nI c)] g (pg_ki K) := by
  refine pg_Cal.of rfl (Nat.le_of_ble_eq_true rfl) rfl ?_
  refine go_iload_n (pc' := 1) dJ1_charAt_3b067_0 rfl rfl ?_
  refine go_aload_n (pc' := 2) dJ1_charAt_3b067_1 rfl rfl ?_
  refine go_strlen (pc' := 3) dJ1_charAt_3b067_2 rfl ?_
  refine go_cSv2 (pc' := 6) (M' := mJ0_checkIndex_df160) (d' := 2) dJ1_charAt_3b067_3 rfl csRJ1_9 (by decide) rfl (Nat.le_of_ble_eq_true rfl) ?_
  refine tJ0_checkIndex_df160 hc (by decide) ?_
  refine go_aload_n (pc' := 7) dJ1_charAt_3b067_6 rfl rfl ?_
  refine go_iload_n (pc' := 8) dJ1_charAt_3b067_7 rfl rfl ?_
  refine go_strb (pc' := 9) c dJ1_charAt_3b067_8 rfl rfl hc ?_
  refine go_sipush (pc' := 12) 255 dJ1_charAt_3b067_9 rfl (by decide) ?_
  refine go_iand (pc' := 13) dJ1_charAt_3b067_12 rfl ?_
  refine go_i2c (pc' := 14) dJ1_charAt_3b067_13 rfl ?_
  rw [tx_c c hc]
  refine go_iret dJ1_charAt_3b067_14 (pg_narC hc) ?_
  exact k

set_option maxHeartbeats 4000000 in
set_option maxRecDepth 20000 in
theorem tJ0_charAt_5068e {sc : pg_Sc} {g : pg_S} {K : Int32 → pg_S → Prop} {c : Nat} (hc : c < 140) (k : K (pg_tx.getD c 0) g) : pg_Cal sc 5 mJ0_charAt_5068e [.ref 904, .int (nI c)] g (pg_ki K) := by
  refine pg_Cal.of rfl (Nat.le_of_ble_eq_true rfl) rfl ?_
  refine go_aload_n (pc' := 1) dJ0_charAt_5068e_0 rfl rfl ?_
  refine go_cStr0 (pc' := 4) (M' := mJ0_isLatin1_aae02) (d' := 1) dJ0_charAt_5068e_1 rfl cvRJ0_492 rfl (by decide) rfl (Nat.le_of_ble_eq_true rfl) ?_
  refine tJ0_isLatin1_aae02 ?_
  refine go_if_eq (pc' := 7) (tgt := 16) dJ0_charAt_5068e_4 rfl (by decide) (fun h_4 => absurd h_4 (by decide)) (fun h_4 => ?_)
  refine go_aload_n (pc' := 8) dJ0_charAt_5068e_7 rfl rfl ?_
  refine go_strV (pc' := 11) dJ0_charAt_5068e_8 rfl sfRJ0_9 ?_
  refine go_iload_n (pc' := 12) dJ0_charAt_5068e_11 rfl rfl ?_
  refine go_cSi2 (pc' := 15) (M' := mJ1_charAt_3b067) (d' := 3) dJ0_charAt_5068e_12 rfl csRJ0_495 (by decide) rfl (Nat.le_of_ble_eq_true rfl) ?_
  refine tJ1_charAt_3b067 hc ?_
  refine go_iret dJ0_charAt_5068e_15 (pg_narC hc) ?_
  exact k

