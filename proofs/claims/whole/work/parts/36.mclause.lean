theorem en_ge (B : Nat → Nat) (L p : Nat) : p ≤ enF B L p := by
  have h := sk_ge B L p
  unfold enF en0
  split
  · exact h
  · split
    · exact Nat.le_trans h (scn_ge L _)
    · split
      · exact Nat.le_trans h (scn_ge L _)
      · omega
theorem wW_ge {B : Nat → Nat} {L c : Nat} {s : Sg} : s.2 ≤ (wWord B L c s).2 := by
  unfold wWord
  split
  · exact en_ge B L s.2
  · exact Nat.le_refl _
theorem wN_ge {B : Nat → Nat} {L c : Nat} {s : Sg} : s.2 ≤ (wNum B L c s).2 := by
  unfold wNum
  split
  · exact en_ge B L s.2
  · exact Nat.le_refl _
theorem wE_ge {B : Nat → Nat} {L : Nat} {s : Sg} : s.2 ≤ (wEnd B L s).2 := by
  unfold wEnd
  split
  · exact en_ge B L s.2
  · exact Nat.le_refl _
theorem wP_ge {B : Nat → Nat} {L : Nat} {s : Sg} : s.2 ≤ (wPeg B L s).2 := by
  unfold wPeg
  split
  · exact en_ge B L s.2
  · exact Nat.le_refl _
theorem s4_ge {B : Nat → Nat} {L : Nat} {s : Sg} : s.2 ≤ (s4F B L s).2 := by
  unfold s4F
  split
  · exact Nat.le_trans (en_ge B L s.2) (wN_ge (s := (true, enF B L s.2)))
  · exact Nat.le_refl _
theorem s5_ge {B : Nat → Nat} {L : Nat} {s : Sg} : s.2 ≤ (s5F B L s).2 := by
  unfold s5F
  split
  · exact Nat.le_trans (en_ge B L s.2) (wP_ge (s := (true, enF B L s.2)))
  · exact Nat.le_refl _
theorem fin_r {s : Sg} {T T' : TW} {n n' q : Nat} (h : finF s T n = .inr (q, T', n')) : s.1 = true ∧ s.2 = q := by
  unfold finF at h
  split at h
  · rename_i z
    exact ⟨z, (Prod.mk.inj (Sum.inr.inj h)).1⟩
  · cases h
theorem clau_gt {B : Nat → Nat} {L : Nat} {T T' : TW} {n n' p q : Nat} (hs : ¬ soF B L p = 0) (h : clauF B L T n p = .inr (q, T', n')) : p < q := by
  have h0 := en_gt hs
  unfold clauF at h
  split at h
  · obtain ⟨a1, a2⟩ := fin_r h
    have b1 := (s5_1 (wE_1 a1)).1
    have c1 := (s4_1 b1).1
    have d1 := (wN_1 (s := s2F B L n p) c1).1
    have e1 : (s1F B L n p).1 = true := wW_1 d1
    have hn : n < 8 := by
      by_cases q : n < 8
      · exact q
      · rw [s1_n q] at e1
        exact absurd e1 (show ¬ false = true by decide)
    have g1 : (s1F B L n p).2 = enF B L p := by rw [s1_y hn]
    have g2 : (s1F B L n p).2 ≤ (s2F B L n p).2 := wW_ge
    have g3 : (s2F B L n p).2 ≤ (s3F B L n p).2 := wN_ge
    have g4 : (s3F B L n p).2 ≤ (s4F B L (s3F B L n p)).2 := s4_ge
    have g5 : (s4F B L (s3F B L n p)).2 ≤ (s5F B L (s4F B L (s3F B L n p))).2 := s5_ge
    have g6 : (s5F B L (s4F B L (s3F B L n p))).2 ≤ (wEnd B L (s5F B L (s4F B L (s3F B L n p)))).2 := wE_ge
    omega
  · split at h
    · obtain ⟨a1, a2⟩ := fin_r h
      have g1 : enF B L p ≤ (wWord B L 19 (true, enF B L p)).2 := wW_ge (s := (true, enF B L p))
      have g2 := wN_ge (B := B) (L := L) (c := 99) (s := wWord B L 19 (true, enF B L p))
      have g3 := wE_ge (B := B) (L := L) (s := wNum B L 99 (wWord B L 19 (true, enF B L p)))
      omega
    · split at h
      · obtain ⟨a1, a2⟩ := fin_r h
        have g2 : enF B L p ≤ (wNum B L (mstN (tnF B L p - 12)) (true, enF B L p)).2 := wN_ge (s := (true, enF B L p))
        have g3 := wE_ge (B := B) (L := L) (s := wNum B L (mstN (tnF B L p - 12)) (true, enF B L p))
        omega
      · cases h
theorem mst_m : ∀ x, x < 4 → (if nI x = 3 then (99 : Int32) else 9) = nI (mstN x) := by decide +kernel
set_option maxHeartbeats 4000000 in
set_option maxRecDepth 20000 in
theorem twc_k {sc : pg_Sc} {g : pg_S} {K : pg_S → Prop} {B : Nat → Nat} {L n p : Nat} {T : TW} (h : MTP g B L) (m : MG B L (true, p) g) (hR : MR g 61 T n) (hn : n ≤ 8) (hc : tnF B L p < 6) (k : ∀ g', MTP g' B L → PM B L g' (clauF B L T n p) → FX g g' → K g') : pg_Cal sc 6 mX7_wantClause [.ref 59] g (pg_kv K) := by
  refine pg_Cal.of rfl (Nat.le_of_ble_eq_true rfl) rfl ?_
  have hL := h.2.1
  obtain ⟨m1, m2, m3⟩ := m
  have m1 : g.1 59 12 = 1 := m1
  have m2 : MK B L p g := m2
  have m3 : p ≤ L := m3
  refine go_aload_n (pc' := 1) dX7_wantClause_0 rfl rfl ?_
  refine go_cVi0 (pc' := 4) (M' := mX7_lawHere) (d' := 2) dX7_wantClause_1 rfl cvRX7_175 rfl rfl (by decide) rfl (Nat.le_of_ble_eq_true rfl) ?_
  refine tX7_lawHere h m2 m3 ?_
  rw [if_neg (by omega)]
  refine go_istore_n (pc' := 5) dX7_wantClause_4 rfl (by decide) rfl ?_
  refine go_aload_n (pc' := 6) dX7_wantClause_5 rfl rfl ?_
  refine go_cVi0 (pc' := 9) (M' := mX7_pegHere) (d' := 2) dX7_wantClause_6 rfl cvRX7_148 rfl rfl (by decide) rfl (Nat.le_of_ble_eq_true rfl) ?_
  refine tX7_pegHere h m2 m3 ?_
  rw [if_neg (by omega)]
  refine go_istore_n (pc' := 10) dX7_wantClause_9 rfl (by decide) rfl ?_
  refine go_aload_n (pc' := 11) dX7_wantClause_10 rfl rfl ?_
  refine go_cVi0 (pc' := 14) (M' := mX7_kindHere) (d' := 2) dX7_wantClause_11 rfl cvRX7_178 rfl rfl (by decide) rfl (Nat.le_of_ble_eq_true rfl) ?_
  refine tX7_kindHere h m2 m3 ?_
  rw [if_pos ⟨by omega, by omega⟩]
  refine go_if_lt (pc' := 17) (tgt := 28) dX7_wantClause_14 rfl (by decide) (fun h_14 => absurd h_14 (nI_n0 (by omega))) (fun h_14 => ?_)
  refine go_aload_n (pc' := 18) dX7_wantClause_17 rfl rfl ?_
  refine go_aload_n (pc' := 19) dX7_wantClause_18 rfl rfl ?_
  refine go_cVi0 (pc' := 22) (M' := mX7_kindHere) (d' := 2) dX7_wantClause_19 rfl cvRX7_178 rfl rfl (by decide) rfl (Nat.le_of_ble_eq_true rfl) ?_
  refine tX7_kindHere h m2 m3 ?_
  rw [if_pos ⟨by omega, by omega⟩]
  refine go_cVv1 (pc' := 25) (M' := mX7_wantOne) (d' := 5) dX7_wantClause_22 rfl cvRX7_181 rfl rfl (by decide) rfl (Nat.le_of_ble_eq_true rfl) ?_
  refine tX7_wantOne (kd := tnF B L p) h ⟨m1, m2, m3⟩ hR hn (fun g1 T1 p1 x1 => ?_)
  refine go_goto (pc' := 101) dX7_wantClause_25 (by decide) ?_
  refine go_vret dX7_wantClause_101 rfl ?_
  have ec : clauF B L T n p = perF B L (tnF B L p) T n p := if_pos hc
  rw [ec] at k
  exact k g1 T1 p1 x1

set_option maxHeartbeats 4000000 in
set_option maxRecDepth 20000 in
theorem twc_l {sc : pg_Sc} {g : pg_S} {K : pg_S → Prop} {B : Nat → Nat} {L n p : Nat} {T : TW} (h : MTP g B L) (m : MG B L (true, p) g) (hR : MR g 61 T n) (hn : n ≤ 8) (hc : 12 ≤ tnF B L p ∧ tnF B L p < 16) (k : ∀ g', MTP g' B L → PM B L g' (clauF B L T n p) → FX g g' → K g') : pg_Cal sc 6 mX7_wantClause [.ref 59] g (pg_kv K) := by
  refine pg_Cal.of rfl (Nat.le_of_ble_eq_true rfl) rfl ?_
  have hL := h.2.1
  obtain ⟨m1, m2, m3⟩ := m
  have m1 : g.1 59 12 = 1 := m1
  have m2 : MK B L p g := m2
  have m3 : p ≤ L := m3
  refine go_aload_n (pc' := 1) dX7_wantClause_0 rfl rfl ?_
  refine go_cVi0 (pc' := 4) (M' := mX7_lawHere) (d' := 2) dX7_wantClause_1 rfl cvRX7_175 rfl rfl (by decide) rfl (Nat.le_of_ble_eq_true rfl) ?_
  refine tX7_lawHere h m2 m3 ?_
  rw [if_pos ⟨by omega, by omega⟩]
  refine go_istore_n (pc' := 5) dX7_wantClause_4 rfl (by decide) rfl ?_
  refine go_aload_n (pc' := 6) dX7_wantClause_5 rfl rfl ?_
  refine go_cVi0 (pc' := 9) (M' := mX7_pegHere) (d' := 2) dX7_wantClause_6 rfl cvRX7_148 rfl rfl (by decide) rfl (Nat.le_of_ble_eq_true rfl) ?_
  refine tX7_pegHere h m2 m3 ?_
  rw [if_neg (by omega)]
  refine go_istore_n (pc' := 10) dX7_wantClause_9 rfl (by decide) rfl ?_
  refine go_aload_n (pc' := 11) dX7_wantClause_10 rfl rfl ?_
  refine go_cVi0 (pc' := 14) (M' := mX7_kindHere) (d' := 2) dX7_wantClause_11 rfl cvRX7_178 rfl rfl (by decide) rfl (Nat.le_of_ble_eq_true rfl) ?_
  refine tX7_kindHere h m2 m3 ?_
  rw [if_neg (by omega)]
  refine go_if_lt (pc' := 17) (tgt := 28) dX7_wantClause_14 rfl (by decide) (fun h_14 => ?_) (fun h_14 => absurd (by decide) h_14)
  refine go_iload_n (pc' := 29) dX7_wantClause_28 rfl rfl ?_
  refine go_if_lt (pc' := 32) (tgt := 58) dX7_wantClause_29 rfl (by decide) (fun h_29 => absurd h_29 (nI_n0 (by omega))) (fun h_29 => ?_)
  refine go_aload_n (pc' := 33) dX7_wantClause_32 rfl rfl ?_
  refine go_cVv0 (pc' := 36) (M' := mX7_advance) (d' := 3) dX7_wantClause_33 rfl cvRX7_142 rfl rfl (by decide) rfl (Nat.le_of_ble_eq_true rfl) ?_
  refine tX7_advance h m2.1 (en_le m3) (fun gA TA aA fA => ?_)
  have mA : MG B L (true, enF B L p) gA := ⟨(fA.2.1 12 (by decide)).trans m1, aA, en_le m3⟩
  have FA1 : FW [7, 8, 9, 11, 12] g gA := fA.wd (by decide)
  have XA := FX.w FA1
  have hA := hR.fw FA1 (by decide)
  refine go_aload_n (pc' := 37) dX7_wantClause_36 rfl rfl ?_
  refine go_getR (pc' := 40) dX7_wantClause_37 rfl flRX7_13 rfl rfl ?_
  refine go_iload_n (pc' := 41) dX7_wantClause_40 rfl rfl ?_
  refine go_aload_n (pc' := 42) dX7_wantClause_41 rfl rfl ?_
  refine go_iconst (pc' := 43) 0 dX7_wantClause_42 rfl (by decide) ?_
  refine go_iload_n (pc' := 44) dX7_wantClause_43 rfl rfl ?_
  refine go_cSi1 (pc' := 47) (M' := mX7_mostOf) (d' := 1) dX7_wantClause_44 rfl csRX7_185 (by decide) rfl (Nat.le_of_ble_eq_true rfl) ?_
  refine tX7_mostOf ?_
  rw [mst_m _ (by omega)]
  refine go_cVi2 (pc' := 50) (M' := mX7_wantNumber) (d' := 4) dX7_wantClause_47 rfl cvRX7_158 rfl rfl (by decide) rfl (Nat.le_of_ble_eq_true rfl) ?_
  refine tX7_wantNumber (c := mstN (tnF B L p - 12)) TA mA (mst_n _ (by omega)).2 rfl (fun v gB TB mB hvB FB => ?_)
  have XB := FX.tr XA (FX.w FB)
  have hB := hA.fw FB (by decide)
  refine go_iast (pc' := 51) (tnF B L p - 12) dX7_wantClause_50 rfl rfl rfl (by omega) (by decide) ?_
  refine go_gen (fun gC eC => ?_)
  have fC : FR 61 62 gB gC := by rw [eC]; exact FR.ui (by decide)
  have TC := TB.fx (FX.r fC)
  have mC := mB.r fC
  have XC := FX.tr XB (FX.r fC)
  refine go_aload_n (pc' := 52) dX7_wantClause_51 rfl rfl ?_
  refine go_cVv0 (pc' := 55) (M' := mX7_wantEnd) (d' := 4) dX7_wantClause_52 rfl cvRX7_172 rfl rfl (by decide) rfl (Nat.le_of_ble_eq_true rfl) ?_
  refine tX7_wantEnd TC mC (fun gD TD mD FD => ?_)
  have XD := FX.tr XC (FX.w FD)
  refine go_goto (pc' := 101) dX7_wantClause_55 (by decide) ?_
  refine go_vret dX7_wantClause_101 rfl ?_
  have ec : clauF B L T n p = lawF B L (tnF B L p - 12) T n p := by
    unfold clauF
    rw [if_neg (by omega), if_neg (by omega), if_pos (by omega)]
  unfold lawF at ec
  rw [ec] at k
  by_cases z : (wEnd B L (wNum B L (mstN (tnF B L p - 12)) (true, enF B L p))).1 = true
  · have e : finF (wEnd B L (wNum B L (mstN (tnF B L p - 12)) (true, enF B L p))) (tu T 0 (tnF B L p - 12) (nI (nbF B L (enF B L p)))) n = .inr ((wEnd B L (wNum B L (mstN (tnF B L p - 12)) (true, enF B L p))).2, tu T 0 (tnF B L p - 12) (nI (nbF B L (enF B L p))), n) := if_pos z
    rw [e] at k
    have zz : wEnd B L (wNum B L (mstN (tnF B L p - 12)) (true, enF B L p)) = (true, (wEnd B L (wNum B L (mstN (tnF B L p - 12)) (true, enF B L p))).2) := Prod.ext z rfl
    rw [zz] at mD
    have ev : v = nI (nbF B L (enF B L p)) := hvB rfl (wN_1 (wE_1 z)).2
    have hC : MR gC 61 (tu T 0 (tnF B L p - 12) (nI (nbF B L (enF B L p)))) n := by
      rw [eC, ev]
      exact hB.law (by omega)
    exact k gD TD ⟨mD, hC.fw FD (by decide)⟩ XD
  · have e : finF (wEnd B L (wNum B L (mstN (tnF B L p - 12)) (true, enF B L p))) (tu T 0 (tnF B L p - 12) (nI (nbF B L (enF B L p)))) n = .inl (wEnd B L (wNum B L (mstN (tnF B L p - 12)) (true, enF B L p))).2 := if_neg z
    rw [e] at k
    have z2 : (wEnd B L (wNum B L (mstN (tnF B L p - 12)) (true, enF B L p))).1 = false := by
      cases hz : (wEnd B L (wNum B L (mstN (tnF B L p - 12)) (true, enF B L p))).1 with
      | false => rfl
      | true => exact absurd hz z
    have zz : wEnd B L (wNum B L (mstN (tnF B L p - 12)) (true, enF B L p)) = (false, (wEnd B L (wNum B L (mstN (tnF B L p - 12)) (true, enF B L p))).2) := Prod.ext z2 rfl
    rw [zz] at mD
    exact k gD TD mD XD

set_option maxHeartbeats 4000000 in
set_option maxRecDepth 20000 in
theorem twc_p {sc : pg_Sc} {g : pg_S} {K : pg_S → Prop} {B : Nat → Nat} {L n p : Nat} {T : TW} (h : MTP g B L) (m : MG B L (true, p) g) (hR : MR g 61 T n) (hn : n ≤ 8) (hc : 6 ≤ tnF B L p ∧ tnF B L p < 12) (k : ∀ g', MTP g' B L → PM B L g' (clauF B L T n p) → FX g g' → K g') : pg_Cal sc 6 mX7_wantClause [.ref 59] g (pg_kv K) := by
  refine pg_Cal.of rfl (Nat.le_of_ble_eq_true rfl) rfl ?_
  have hL := h.2.1
  obtain ⟨m1, m2, m3⟩ := m
  have m1 : g.1 59 12 = 1 := m1
  have m2 : MK B L p g := m2
  have m3 : p ≤ L := m3
  refine go_aload_n (pc' := 1) dX7_wantClause_0 rfl rfl ?_
  refine go_cVi0 (pc' := 4) (M' := mX7_lawHere) (d' := 2) dX7_wantClause_1 rfl cvRX7_175 rfl rfl (by decide) rfl (Nat.le_of_ble_eq_true rfl) ?_
  refine tX7_lawHere h m2 m3 ?_
  rw [if_neg (by omega)]
  refine go_istore_n (pc' := 5) dX7_wantClause_4 rfl (by decide) rfl ?_
  refine go_aload_n (pc' := 6) dX7_wantClause_5 rfl rfl ?_
  refine go_cVi0 (pc' := 9) (M' := mX7_pegHere) (d' := 2) dX7_wantClause_6 rfl cvRX7_148 rfl rfl (by decide) rfl (Nat.le_of_ble_eq_true rfl) ?_
  refine tX7_pegHere h m2 m3 ?_
  rw [if_pos ⟨by omega, by omega⟩]
  refine go_istore_n (pc' := 10) dX7_wantClause_9 rfl (by decide) rfl ?_
  refine go_aload_n (pc' := 11) dX7_wantClause_10 rfl rfl ?_
  refine go_cVi0 (pc' := 14) (M' := mX7_kindHere) (d' := 2) dX7_wantClause_11 rfl cvRX7_178 rfl rfl (by decide) rfl (Nat.le_of_ble_eq_true rfl) ?_
  refine tX7_kindHere h m2 m3 ?_
  rw [if_neg (by omega)]
  refine go_if_lt (pc' := 17) (tgt := 28) dX7_wantClause_14 rfl (by decide) (fun h_14 => ?_) (fun h_14 => absurd (by decide) h_14)
  refine go_iload_n (pc' := 29) dX7_wantClause_28 rfl rfl ?_
  refine go_if_lt (pc' := 32) (tgt := 58) dX7_wantClause_29 rfl (by decide) (fun h_29 => ?_) (fun h_29 => absurd (by decide) h_29)
  refine go_iload_n (pc' := 59) dX7_wantClause_58 rfl rfl ?_
  refine go_if_lt (pc' := 62) (tgt := 96) dX7_wantClause_59 rfl (by decide) (fun h_59 => absurd h_59 (nI_n0 (by omega))) (fun h_59 => ?_)
  refine go_aload_n (pc' := 63) dX7_wantClause_62 rfl rfl ?_
  refine go_cVv0 (pc' := 66) (M' := mX7_advance) (d' := 3) dX7_wantClause_63 rfl cvRX7_142 rfl rfl (by decide) rfl (Nat.le_of_ble_eq_true rfl) ?_
  refine tX7_advance h m2.1 (en_le m3) (fun gA TA aA fA => ?_)
  have mA : MG B L (true, enF B L p) gA := ⟨(fA.2.1 12 (by decide)).trans m1, aA, en_le m3⟩
  have FA1 : FW [7, 8, 9, 11, 12] g gA := fA.wd (by decide)
  have XA := FX.w FA1
  have hA := hR.fw FA1 (by decide)
  refine go_aload_n (pc' := 67) dX7_wantClause_66 rfl rfl ?_
  refine go_ldc2 (pc' := 70) dX7_wantClause_67 rfl clRX7_188 ?_
  refine go_cVv1 (pc' := 73) (M' := mX7_wantWord) (d' := 4) dX7_wantClause_70 rfl cvRX7_154 rfl rfl (by decide) rfl (Nat.le_of_ble_eq_true rfl) ?_
  refine tX7_wantWord (c := 19) TA mA (by decide) (by decide +kernel) (fun gW TW mW FW1 => ?_)
  have XW := FX.tr XA (FX.w FW1)
  have hW := hA.fw FW1 (by decide)
  refine go_aload_n (pc' := 74) dX7_wantClause_73 rfl rfl ?_
  refine go_getR (pc' := 77) dX7_wantClause_74 rfl flRX7_13 rfl rfl ?_
  refine go_bipush (pc' := 79) 7 dX7_wantClause_77 rfl (by decide) ?_
  refine go_iload_n (pc' := 80) dX7_wantClause_79 rfl rfl ?_
  refine go_iadd (pc' := 81) dX7_wantClause_80 rfl ?_
  refine go_aload_n (pc' := 82) dX7_wantClause_81 rfl rfl ?_
  refine go_iconst (pc' := 83) 0 dX7_wantClause_82 rfl (by decide) ?_
  refine go_bipush (pc' := 85) 99 dX7_wantClause_83 rfl (by decide) ?_
  refine go_cVi2 (pc' := 88) (M' := mX7_wantNumber) (d' := 4) dX7_wantClause_85 rfl cvRX7_158 rfl rfl (by decide) rfl (Nat.le_of_ble_eq_true rfl) ?_
  refine tX7_wantNumber (c := 99) TW mW (by decide) rfl (fun v gB TB mB hvB FB => ?_)
  have XB := FX.tr XW (FX.w FB)
  have hB := hW.fw FB (by decide)
  refine go_iast (pc' := 89) (7 + (tnF B L p - 6)) dX7_wantClause_88 rfl rfl (by rw [show (7 : Int32) = nI 7 from rfl, nI_add]) (by omega) (by decide) ?_
  refine go_gen (fun gC eC => ?_)
  have fC : FR 61 62 gB gC := by rw [eC]; exact FR.ui (by decide)
  have TC := TB.fx (FX.r fC)
  have mC := mB.r fC
  have XC := FX.tr XB (FX.r fC)
  refine go_aload_n (pc' := 90) dX7_wantClause_89 rfl rfl ?_
  refine go_cVv0 (pc' := 93) (M' := mX7_wantEnd) (d' := 4) dX7_wantClause_90 rfl cvRX7_172 rfl rfl (by decide) rfl (Nat.le_of_ble_eq_true rfl) ?_
  refine tX7_wantEnd TC mC (fun gD TD mD FD => ?_)
  have XD := FX.tr XC (FX.w FD)
  refine go_goto (pc' := 101) dX7_wantClause_93 (by decide) ?_
  refine go_vret dX7_wantClause_101 rfl ?_
  have ec : clauF B L T n p = weiF B L (tnF B L p - 6) T n p := by
    unfold clauF
    rw [if_neg (by omega), if_pos (by omega)]
  unfold weiF at ec
  rw [ec] at k
  by_cases z : (wEnd B L (wNum B L 99 (wWord B L 19 (true, enF B L p)))).1 = true
  · have e : finF (wEnd B L (wNum B L 99 (wWord B L 19 (true, enF B L p)))) (tu T 1 (tnF B L p - 6) (nI (nbF B L (wWord B L 19 (true, enF B L p)).2))) n = .inr ((wEnd B L (wNum B L 99 (wWord B L 19 (true, enF B L p)))).2, tu T 1 (tnF B L p - 6) (nI (nbF B L (wWord B L 19 (true, enF B L p)).2)), n) := if_pos z
    rw [e] at k
    have zz : wEnd B L (wNum B L 99 (wWord B L 19 (true, enF B L p))) = (true, (wEnd B L (wNum B L 99 (wWord B L 19 (true, enF B L p)))).2) := Prod.ext z rfl
    rw [zz] at mD
    have ev : v = nI (nbF B L (wWord B L 19 (true, enF B L p)).2) := hvB (wN_1 (wE_1 z)).1 (wN_1 (wE_1 z)).2
    have hC : MR gC 61 (tu T 1 (tnF B L p - 6) (nI (nbF B L (wWord B L 19 (true, enF B L p)).2))) n := by
      rw [eC, ev]
      exact hB.weight (by omega)
    exact k gD TD ⟨mD, hC.fw FD (by decide)⟩ XD
  · have e : finF (wEnd B L (wNum B L 99 (wWord B L 19 (true, enF B L p)))) (tu T 1 (tnF B L p - 6) (nI (nbF B L (wWord B L 19 (true, enF B L p)).2))) n = .inl (wEnd B L (wNum B L 99 (wWord B L 19 (true, enF B L p)))).2 := if_neg z
    rw [e] at k
    have z2 : (wEnd B L (wNum B L 99 (wWord B L 19 (true, enF B L p)))).1 = false := by
      cases hz : (wEnd B L (wNum B L 99 (wWord B L 19 (true, enF B L p)))).1 with
      | false => rfl
      | true => exact absurd hz z
    have zz : wEnd B L (wNum B L 99 (wWord B L 19 (true, enF B L p))) = (false, (wEnd B L (wNum B L 99 (wWord B L 19 (true, enF B L p)))).2) := Prod.ext z2 rfl
    rw [zz] at mD
    exact k gD TD mD XD

set_option maxHeartbeats 4000000 in
set_option maxRecDepth 20000 in
theorem twc_n {sc : pg_Sc} {g : pg_S} {K : pg_S → Prop} {B : Nat → Nat} {L n p : Nat} {T : TW} (h : MTP g B L) (m : MG B L (true, p) g) (hR : MR g 61 T n) (hn : n ≤ 8) (hc : 16 ≤ tnF B L p) (k : ∀ g', MTP g' B L → PM B L g' (clauF B L T n p) → FX g g' → K g') : pg_Cal sc 6 mX7_wantClause [.ref 59] g (pg_kv K) := by
  refine pg_Cal.of rfl (Nat.le_of_ble_eq_true rfl) rfl ?_
  have hL := h.2.1
  obtain ⟨m1, m2, m3⟩ := m
  have m1 : g.1 59 12 = 1 := m1
  have m2 : MK B L p g := m2
  have m3 : p ≤ L := m3
  refine go_aload_n (pc' := 1) dX7_wantClause_0 rfl rfl ?_
  refine go_cVi0 (pc' := 4) (M' := mX7_lawHere) (d' := 2) dX7_wantClause_1 rfl cvRX7_175 rfl rfl (by decide) rfl (Nat.le_of_ble_eq_true rfl) ?_
  refine tX7_lawHere h m2 m3 ?_
  rw [if_neg (by omega)]
  refine go_istore_n (pc' := 5) dX7_wantClause_4 rfl (by decide) rfl ?_
  refine go_aload_n (pc' := 6) dX7_wantClause_5 rfl rfl ?_
  refine go_cVi0 (pc' := 9) (M' := mX7_pegHere) (d' := 2) dX7_wantClause_6 rfl cvRX7_148 rfl rfl (by decide) rfl (Nat.le_of_ble_eq_true rfl) ?_
  refine tX7_pegHere h m2 m3 ?_
  rw [if_neg (by omega)]
  refine go_istore_n (pc' := 10) dX7_wantClause_9 rfl (by decide) rfl ?_
  refine go_aload_n (pc' := 11) dX7_wantClause_10 rfl rfl ?_
  refine go_cVi0 (pc' := 14) (M' := mX7_kindHere) (d' := 2) dX7_wantClause_11 rfl cvRX7_178 rfl rfl (by decide) rfl (Nat.le_of_ble_eq_true rfl) ?_
  refine tX7_kindHere h m2 m3 ?_
  rw [if_neg (by omega)]
  refine go_if_lt (pc' := 17) (tgt := 28) dX7_wantClause_14 rfl (by decide) (fun h_14 => ?_) (fun h_14 => absurd (by decide) h_14)
  refine go_iload_n (pc' := 29) dX7_wantClause_28 rfl rfl ?_
  refine go_if_lt (pc' := 32) (tgt := 58) dX7_wantClause_29 rfl (by decide) (fun h_29 => ?_) (fun h_29 => absurd (by decide) h_29)
  refine go_iload_n (pc' := 59) dX7_wantClause_58 rfl rfl ?_
  refine go_if_lt (pc' := 62) (tgt := 96) dX7_wantClause_59 rfl (by decide) (fun h_59 => ?_) (fun h_59 => absurd (by decide) h_59)
  refine go_aload_n (pc' := 97) dX7_wantClause_96 rfl rfl ?_
  refine go_iconst (pc' := 98) 0 dX7_wantClause_97 rfl (by decide) ?_
  refine go_putZ (pc' := 101) (by decide) dX7_wantClause_98 rfl flRX7_138 rfl rfl ft7_12 ?_
  refine go_gen (fun g1 e1 => ?_)
  have F1 : FW [7, 8, 9, 11, 12] g g1 := by rw [e1]; exact FW.ui (by decide)
  refine go_vret dX7_wantClause_101 rfl ?_
  have ec : clauF B L T n p = .inl p := by
    unfold clauF
    rw [if_neg (by omega), if_neg (by omega), if_neg (by omega)]
  rw [ec] at k
  exact k g1 (h.fw F1 (by decide)) ⟨by rw [e1]; simp [pg_ui_at], by rw [e1]; exact m2.good, m3⟩ (FX.w F1)

theorem tX7_wantClause {sc : pg_Sc} {g : pg_S} {K : pg_S → Prop} {B : Nat → Nat} {L n p : Nat} {T : TW} (h : MTP g B L) (m : MG B L (true, p) g) (hR : MR g 61 T n) (hn : n ≤ 8) (k : ∀ g', MTP g' B L → PM B L g' (clauF B L T n p) → FX g g' → K g') : pg_Cal sc 6 mX7_wantClause [.ref 59] g (pg_kv K) := by
  by_cases h6 : tnF B L p < 6
  · exact twc_k h m hR hn h6 k
  · by_cases h12 : tnF B L p < 12
    · exact twc_p h m hR hn ⟨by omega, h12⟩ k
    · by_cases h16 : tnF B L p < 16
      · exact twc_l h m hR hn ⟨by omega, h16⟩ k
      · exact twc_n h m hR hn (by omega) k
def PMe (B : Nat → Nat) (L : Nat) (g : pg_S) : PR → Prop
  | .inl q => MG B L (false, q) g
  | .inr (q, T, n) => MG B L (true, q) g ∧ MR g 61 T n ∧ WF T n
set_option maxHeartbeats 4000000 in
set_option maxRecDepth 20000 in
theorem lsc0 {sc : pg_Sc} {Q : pg_Q} {B : Nat → Nat} {L q : Nat} {g : pg_S} (mg : MG B L (false, q) g) (k : pg_Go sc 7 mX7_school 42 [(0, .ref 59)] [] g Q) : pg_Go sc 7 mX7_school 21 [(0, .ref 59)] [] g Q := by
  have m1 : g.1 59 12 = 0 := mg.1
  refine go_aload_n (pc' := 22) dX7_school_21 rfl rfl ?_
  refine go_getI (pc' := 25) dX7_school_22 rfl flRX7_138 rfl rfl ?_
  rw [m1]
  refine go_if_eq (pc' := 28) (tgt := 42) dX7_school_25 rfl (by decide) (fun h_25 => ?_) (fun h_25 => absurd (rfl) h_25)
  exact k

set_option maxHeartbeats 4000000 in
set_option maxRecDepth 20000 in
theorem lsc {sc : pg_Sc} {Q : pg_Q} {B : Nat → Nat} {L : Nat} : ∀ (m : Nat) (p : Nat) (T : TW) (n : Nat) (g : pg_S), L - p ≤ m → p ≤ L → WF T n → MTP g B L → MG B L (true, p) g → MR g 61 T n → (∀ g', MTP g' B L → PMe B L g' (telF B L m p T n) → FX g g' → pg_Go sc 7 mX7_school 42 [(0, .ref 59)] [] g' Q) → pg_Go sc 7 mX7_school 21 [(0, .ref 59)] [] g Q := by
  intro m
  induction m with
  | zero =>
    intro p T n g hm hp wf h mg hR k
    have m1 : g.1 59 12 = 1 := mg.1
    have m2 : MK B L p g := mg.2.1
    have h3 := so_le B L p
    have hs : soF B L p = 0 := so_end (by omega)
    refine go_aload_n (pc' := 22) dX7_school_21 rfl rfl ?_
    refine go_getI (pc' := 25) dX7_school_22 rfl flRX7_138 rfl rfl ?_
    rw [m1]
    refine go_if_eq (pc' := 28) (tgt := 42) dX7_school_25 rfl (by decide) (fun h_25 => absurd h_25 (by decide)) (fun h_25 => ?_)
    refine go_aload_n (pc' := 29) dX7_school_28 rfl rfl ?_
    refine go_getI (pc' := 32) dX7_school_29 rfl flRX7_86 rfl rfl ?_
    rw [m2.2.2.1, hs]
    refine go_if_eq (pc' := 35) (tgt := 42) dX7_school_32 rfl (by decide) (fun h_32 => ?_) (fun h_32 => absurd (rfl) h_32)
    exact k g h ⟨mg, hR, wf⟩ FX.rf
  | succ m ih =>
    intro p T n g hm hp wf h mg hR k
    have m1 : g.1 59 12 = 1 := mg.1
    have m2 : MK B L p g := mg.2.1
    have h3 := so_le B L p
    refine go_aload_n (pc' := 22) dX7_school_21 rfl rfl ?_
    refine go_getI (pc' := 25) dX7_school_22 rfl flRX7_138 rfl rfl ?_
    rw [m1]
    refine go_if_eq (pc' := 28) (tgt := 42) dX7_school_25 rfl (by decide) (fun h_25 => absurd h_25 (by decide)) (fun h_25 => ?_)
    refine go_aload_n (pc' := 29) dX7_school_28 rfl rfl ?_
    refine go_getI (pc' := 32) dX7_school_29 rfl flRX7_86 rfl rfl ?_
    rw [m2.2.2.1]
    refine go_if_eq (pc' := 35) (tgt := 42) dX7_school_32 rfl (by decide) (fun h_32 => ?_) (fun h_32 => ?_)
    · have hso : soF B L p = 0 := (nI_eq (b := 0) (by omega) (by decide)).mp h_32
      have er : telF B L (m + 1) p T n = .inr (p, T, n) := if_pos hso
      rw [er] at k
      exact k g h ⟨mg, hR, wf⟩ FX.rf
    · have hso : ¬ soF B L p = 0 := fun q => h_32 (by rw [q]; rfl)
      have er : telF B L (m + 1) p T n = telN (telF B L m) (clauF B L T n p) := if_neg hso
      rw [er] at k
      refine go_aload_n (pc' := 36) dX7_school_35 rfl rfl ?_
      refine go_cVv0 (pc' := 39) (M' := mX7_wantClause) (d' := 6) dX7_school_36 rfl cvRX7_190 rfl rfl (by decide) rfl (Nat.le_of_ble_eq_true rfl) ?_
      refine tX7_wantClause h mg hR wf.1 (fun g1 T1 p1 x1 => ?_)
      refine go_goto (pc' := 21) dX7_school_39 (by decide) ?_
      have hw := clau_wf (B := B) (L := L) (p := p) wf
      have hgt : ∀ q T' n', clauF B L T n p = .inr (q, T', n') → p < q := fun q T' n' e => clau_gt hso e
      generalize clauF B L T n p = r at k hw p1 hgt
      match r, p1, hw, k, hgt with
      | .inl q, p1, hw, k, hgt => exact lsc0 p1 (k g1 T1 p1 x1)
      | .inr (q, T', n'), p1, hw, k, hgt => exact ih q T' n' g1 (by have := hgt q T' n' rfl; omega) p1.1.2.2 hw T1 p1.1 p1.2 (fun g' z0 z1 z2 => k g' z0 z1 (FX.tr x1 z2))

