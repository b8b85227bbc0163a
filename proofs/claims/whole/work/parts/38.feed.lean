def byN (x : Int64) (i : Nat) : Nat := ((x.toBitVec >>> (8 * i)).setWidth 8).toNat
theorem by_lt (x : Int64) (i : Nat) : byN x i < 256 := BitVec.isLt _
theorem by_s1 : ∀ i, i < 8 → (((8 * nI i).toInt64.toUInt64 &&& Int64.toUInt64 63).toBitVec % 64).toNat = 8 * i := by decide +kernel
theorem by_s2 : ∀ i, i < 8 → (((8 * nI i).toInt64 &&& 63).toBitVec.smod 64).toNat = 8 * i := by decide +kernel
theorem by_ff : ∀ j, j < 64 → (255#64).getLsbD j = decide (j < 8) := by decide +kernel
theorem by_8 (x : Int64) : x.toInt32.toInt8.toBitVec = x.toBitVec.setWidth 8 := by
  apply BitVec.eq_of_getLsbD_eq
  intro j hj
  show ((x.toBitVec.signExtend 32).signExtend 8).getLsbD j = _
  rw [BitVec.getLsbD_signExtend, BitVec.getLsbD_signExtend, BitVec.getLsbD_setWidth]
  rw [if_pos (show j < 32 by omega), if_pos (show j < 64 by omega)]
  simp [hj, show j < 32 by omega]
theorem by_c (x : Int64) (i : Nat) (hi : i < 8) : ((x.toUInt64 >>> ((8 * nI i).toInt64.toUInt64 &&& Int64.toUInt64 63)).toInt64).toInt32.toInt8.toInt32.toInt8.toInt32 = sbI (byN x i) := by
  have e1 : ((x.toUInt64 >>> ((8 * nI i).toInt64.toUInt64 &&& Int64.toUInt64 63)).toInt64).toBitVec = x.toBitVec >>> (8 * i) := by
    show x.toBitVec >>> (((8 * nI i).toInt64.toUInt64 &&& Int64.toUInt64 63).toBitVec % 64) = _
    rw [BitVec.ushiftRight_eq', by_s1 i hi]
  have e2 : ((x.toUInt64 >>> ((8 * nI i).toInt64.toUInt64 &&& Int64.toUInt64 63)).toInt64).toInt32.toInt8 = (nI (byN x i)).toInt8 := by
    apply Int8.toBitVec_inj.mp
    rw [by_8, e1]
    show _ = (BitVec.ofNat 32 (byN x i)).signExtend 8
    unfold byN
    rw [BitVec.ofNat_toNat]
    apply BitVec.eq_of_getLsbD_eq
    intro j hj
    rw [BitVec.getLsbD_signExtend, BitVec.getLsbD_setWidth, BitVec.getLsbD_setWidth, BitVec.getLsbD_setWidth, if_pos (show j < 32 by omega)]
    simp [hj, show j < 32 by omega]
  rw [Int8.toInt8_toInt32, e2]
  rfl
theorem by_m (x : Int64) (i : Nat) (hi : i < 8) : ((x >>> ((8 * nI i).toInt64 &&& 63)) &&& 255).toInt32 = nI (byN x i) := by
  apply Int32.toBitVec_inj.mp
  show ((x.toBitVec.sshiftRight (((8 * nI i).toInt64 &&& 63).toBitVec.smod 64).toNat) &&& 255#64).signExtend 32 = BitVec.ofNat 32 (byN x i)
  rw [by_s2 i hi]
  unfold byN
  rw [BitVec.ofNat_toNat]
  apply BitVec.eq_of_getLsbD_eq
  intro j hj
  rw [BitVec.getLsbD_signExtend, if_pos (show j < 64 by omega), BitVec.getLsbD_and, BitVec.getLsbD_sshiftRight, by_ff j (by omega), BitVec.getLsbD_setWidth, BitVec.getLsbD_setWidth, BitVec.getLsbD_ushiftRight]
  by_cases h8 : j < 8
  · simp [h8, hj, show j < 32 by omega, show j < 64 by omega, show ¬ 64 ≤ j by omega, show 8 * i + j < 64 by omega]
  · simp [h8]
def fdB (B : Nat → Nat) (L : Nat) (x : Int64) : Nat → Nat := fun j => if j < L then B j else byN x (j - L)
theorem fd_lt {B : Nat → Nat} {L : Nat} (x : Int64) (h : ∀ j, j < L → B j < 256) (j : Nat) : fdB B L x j < 256 := by
  unfold fdB
  split
  · rename_i q; exact h j q
  · exact by_lt x _
theorem fd_at (B : Nat → Nat) (L : Nat) (x : Int64) (i : Nat) : fdB B L x (L + i) = byN x i := by
  unfold fdB
  rw [if_neg (by omega), Nat.add_sub_cancel_left]
theorem fd_old {B : Nat → Nat} {L j : Nat} (x : Int64) (h : j < L) : fdB B L x j = B j := if_pos h
set_option maxHeartbeats 4000000 in
set_option maxRecDepth 20000 in
theorem lfd6 {sc : pg_Sc} {Q : pg_Q} {B : Nat → Nat} {L c : Nat} {x : Int64} (hc : c ≤ 8) (hL : L + c ≤ 200) : ∀ (m : Nat) (i : Nat) (g : pg_S), i + m = c → g.1 28 1 = nI L → (∀ j, j < L + i → g.1 29 j = sbI (fdB B L x j)) → (∀ g', g'.1 28 = g.1 28 → (∀ j, j < L + c → g'.1 29 j = sbI (fdB B L x j)) → FR 29 30 g g' → pg_Go sc 1 mX4_takeBytes 51 [(0, .ref 28), (1, .long x), (3, .int (nI c)), (4, .int (nI c))] [] g' Q) → pg_Go sc 1 mX4_takeBytes 18 [(0, .ref 28), (1, .long x), (3, .int (nI c)), (4, .int (nI i))] [] g Q := by
  intro m
  induction m with
  | zero =>
    intro i g hi h1 h k
    obtain rfl : i = c := by omega
    refine go_iload (pc' := 20) dX4_takeBytes_18 rfl rfl ?_
    refine go_iload_n (pc' := 21) dX4_takeBytes_20 rfl rfl ?_
    refine go_icmp_ge (pc' := 24) (tgt := 51) dX4_takeBytes_21 rfl (by decide) (fun h_21 => ?_) (fun h_21 => absurd (Int32.le_refl _) h_21)
    exact k g rfl h FR.rf
  | succ m ih =>
    intro i g hi h1 h k
    have hin : i < c := by omega
    refine go_iload (pc' := 20) dX4_takeBytes_18 rfl rfl ?_
    refine go_iload_n (pc' := 21) dX4_takeBytes_20 rfl rfl ?_
    refine go_icmp_ge (pc' := 24) (tgt := 51) dX4_takeBytes_21 rfl (by decide) (fun h_21 => absurd h_21 (nI_ge hin (by omega))) (fun h_21 => ?_)
    refine go_aload_n (pc' := 25) dX4_takeBytes_24 rfl rfl ?_
    refine go_getR (pc' := 28) dX4_takeBytes_25 rfl flRX4_11 rfl rfl ?_
    refine go_aload_n (pc' := 29) dX4_takeBytes_28 rfl rfl ?_
    refine go_getI (pc' := 32) dX4_takeBytes_29 rfl flRX4_15 rfl rfl ?_
    rw [h1]
    refine go_iload (pc' := 34) dX4_takeBytes_32 rfl rfl ?_
    refine go_iadd (pc' := 35) dX4_takeBytes_34 rfl ?_
    refine go_lload_n (pc' := 36) dX4_takeBytes_35 rfl rfl ?_
    refine go_bipush (pc' := 38) 8 dX4_takeBytes_36 rfl (by decide) ?_
    refine go_iload (pc' := 40) dX4_takeBytes_38 rfl rfl ?_
    refine go_imul (pc' := 41) dX4_takeBytes_40 rfl ?_
    refine go_lushr (pc' := 42) dX4_takeBytes_41 rfl ?_
    refine go_l2i (pc' := 43) dX4_takeBytes_42 rfl ?_
    refine go_i2b (pc' := 44) dX4_takeBytes_43 rfl ?_
    refine go_bast (pc' := 45) (L + i) dX4_takeBytes_44 rfl rfl (by rw [nI_add]) (by omega) (by decide) ?_
    refine go_iinc (pc' := 48) _ dX4_takeBytes_45 rfl rfl (pg_inc _) (by decide) rfl ?_
    refine go_goto (pc' := 18) dX4_takeBytes_48 (by decide) ?_
    rw [by_c x i (by omega)]
    refine ih (i + 1) _ (by omega) ((rd_ui (by omega)).trans h1) (fun j hj => ?_) (fun g' a b f => k g' (a.trans (pg_ui_ne g.1 29 (L + i) (sbI (byN x i)) 28 (by decide))) b (FR.tr (FR.ui (by decide)) f))
    refine (pg_ui_at g.1 29 (L + i) _ 29 j).trans ?_
    by_cases e : j = L + i
    · subst e; rw [if_pos ⟨rfl, rfl⟩, fd_at]
    · rw [if_neg (fun q => e q.2)]; exact h j (by omega)

set_option maxHeartbeats 4000000 in
set_option maxRecDepth 20000 in
theorem tX4_takeBytes {sc : pg_Sc} {g : pg_S} {K : Int32 → pg_S → Prop} {B : Nat → Nat} {L c : Nat} {x : Int64} (hT : TP g B L) (hc : c ≤ 8) (k1 : 200 < L + c → K (-2) g) (k : L + c ≤ 200 → ∀ g', TP g' (fdB B L x) (L + c) → FR 28 30 g g' → K (nI (L + c)) g') : pg_Cal sc 1 mX4_takeBytes [.ref 28, .long x, .int (nI c)] g (pg_ki K) := by
  refine pg_Cal.of rfl (Nat.le_of_ble_eq_true rfl) rfl ?_
  have hL := hT.2.1
  refine go_aload_n (pc' := 1) dX4_takeBytes_0 rfl rfl ?_
  refine go_getI (pc' := 4) dX4_takeBytes_1 rfl flRX4_15 rfl rfl ?_
  rw [hT.1]
  refine go_iload_n (pc' := 5) dX4_takeBytes_4 rfl rfl ?_
  refine go_iadd (pc' := 6) dX4_takeBytes_5 rfl ?_
  rw [nI_add]
  refine go_sipush (pc' := 9) 200 dX4_takeBytes_6 rfl (by decide) ?_
  refine go_icmp_le (pc' := 12) (tgt := 15) dX4_takeBytes_9 rfl (by decide) (fun h_9 => ?_) (fun h_9 => ?_)
  · have hle : L + c ≤ 200 := (nI_leI (b := 200) (by omega) (by decide)).mp h_9
    refine go_iconst (pc' := 16) 0 dX4_takeBytes_15 rfl (by decide) ?_
    refine go_istore (pc' := 18) dX4_takeBytes_16 rfl (by decide) rfl ?_
    refine lfd6 hc hle c 0 g (by omega) hT.1 (fun j hj => by rw [fd_old x (by omega)]; exact (hT.2.2 j (by omega)).2) (fun g1 a1 b1 f1 => ?_)
    refine go_aload_n (pc' := 52) dX4_takeBytes_51 rfl rfl ?_
    refine go_dup (pc' := 53) dX4_takeBytes_52 rfl rfl ?_
    refine go_getI (pc' := 56) dX4_takeBytes_53 rfl flRX4_15 rfl rfl ?_
    rw [show g1.1 28 1 = nI L by rw [a1]; exact hT.1]
    refine go_iload_n (pc' := 57) dX4_takeBytes_56 rfl rfl ?_
    refine go_iadd (pc' := 58) dX4_takeBytes_57 rfl ?_
    rw [nI_add]
    refine go_putI (pc' := 61) dX4_takeBytes_58 rfl flRX4_15 rfl rfl ft4_1 ?_
    refine go_gen (fun g2 e2 => ?_)
    have f2 : FR 28 30 g1 g2 := by rw [e2]; exact FR.ui (by decide)
    have l2 : g2.1 28 1 = nI (L + c) := by rw [e2]; simp [pg_ui_at]
    refine go_aload_n (pc' := 62) dX4_takeBytes_61 rfl rfl ?_
    refine go_getI (pc' := 65) dX4_takeBytes_62 rfl flRX4_15 rfl rfl ?_
    rw [l2]
    refine go_iret dX4_takeBytes_65 (pg_narI _) ?_
    exact k hle g2 ⟨l2, hle, fun j hj => ⟨fd_lt x (fun j hj => (hT.2.2 j hj).1) j, by rw [e2]; exact (rd_ui (by omega)).trans (b1 j hj)⟩⟩ (FR.tr (f1.wd (by decide) (by decide)) f2)
  · have hgt : 200 < L + c := by
      rcases Nat.lt_or_ge 200 (L + c) with q | q
      · exact q
      · exact absurd (nI_le (b := 200) q (by decide)) h_9
    refine go_bipush (pc' := 14) (-2) dX4_takeBytes_12 rfl (by decide) ?_
    refine go_iret dX4_takeBytes_14 (pg_narI _) ?_
    exact k1 hgt

set_option maxHeartbeats 4000000 in
set_option maxRecDepth 20000 in
theorem tX6_feed {sc : pg_Sc} {g : pg_S} {K : Int32 → pg_S → Prop} {B : Nat → Nat} {L : Nat} {x : Int64} {y : Int32} (hT : TP g B L) (k1 : ¬ IN y 1 8 → K (-1) g) (k2 : IN y 1 8 → 200 < L + pn y → K (-2) g) (k : IN y 1 8 → L + pn y ≤ 200 → ∀ g', TP g' (fdB B L x) (L + pn y) → FR 28 30 g g' → K (nI (L + pn y)) g') : pg_Cal sc 2 mX6_feed [.ref 0, .long x, .int y] g (pg_ki K) := by
  refine pg_Cal.of rfl (Nat.le_of_ble_eq_true rfl) rfl ?_
  refine go_iload_n (pc' := 1) dX6_feed_0 rfl rfl ?_
  refine go_iconst (pc' := 2) 1 dX6_feed_1 rfl (by decide) ?_
  refine go_bipush (pc' := 4) 8 dX6_feed_2 rfl (by decide) ?_
  refine go_cSi3 (pc' := 7) (M' := mX6_between) (d' := 1) dX6_feed_4 rfl csRX6_65 (by decide) rfl (Nat.le_of_ble_eq_true rfl) ?_
  refine tX6_between ?_
  refine go_if_ne (pc' := 10) (tgt := 12) dX6_feed_7 rfl (by decide) (fun h_7 => ?_) (fun h_7 => ?_)
  · have h_7 := pg_b1 h_7
    refine go_aload_n (pc' := 13) dX6_feed_12 rfl rfl ?_
    refine go_getR (pc' := 16) dX6_feed_13 rfl flRX6_29 rfl rfl ?_
    refine go_lload_n (pc' := 17) dX6_feed_16 rfl rfl ?_
    refine go_iload_n (pc' := 18) dX6_feed_17 rfl rfl ?_
    refine go_cVi2 (pc' := 21) (M' := mX4_takeBytes) (d' := 1) dX6_feed_18 rfl cvRX6_69 rfl rfl (by decide) rfl (Nat.le_of_ble_eq_true rfl) ?_
    obtain ⟨c, hc1, hc8, rfl⟩ := in_ex 1 8 rfl rfl (by decide) (by decide) h_7
    have hp : pn (nI c) = c := nI_clamp (by omega)
    rw [hp] at k k2
    refine tX4_takeBytes hT hc8 (fun q => go_iret dX6_feed_21 (pg_narI _) (k2 h_7 q)) (fun q g1 a b => ?_)
    refine go_iret dX6_feed_21 (pg_narI _) ?_
    exact k h_7 q g1 a b
  · have h_7 := pg_b0 h_7
    refine go_iconst (pc' := 11) (-1) dX6_feed_10 rfl (by decide) ?_
    refine go_iret dX6_feed_11 (pg_narI _) ?_
    exact k1 h_7

set_option maxHeartbeats 4000000 in
set_option maxRecDepth 20000 in
theorem lfd7 {sc : pg_Sc} {Q : pg_Q} {B : Nat → Nat} {L c : Nat} {x : Int64} (hc : c ≤ 8) (hL : L + c ≤ 200) : ∀ (m : Nat) (i : Nat) (g : pg_S), i + m = c → g.1 59 6 = nI (L + i) → (∀ j, j < L + i → g.1 64 j = nI (fdB B L x j)) → (∀ g', g'.1 59 6 = nI (L + c) → (∀ j, j < L + c → g'.1 64 j = nI (fdB B L x j)) → (∀ a, a ≠ 59 → a ≠ 64 → g'.1 a = g.1 a) → (∀ j, j ≠ 6 → g'.1 59 j = g.1 59 j) → g'.2 = g.2 → pg_Go sc 2 mX7_feed 73 [(0, .ref 59), (1, .long x), (3, .int (nI c)), (4, .int (nI c))] [] g' Q) → pg_Go sc 2 mX7_feed 30 [(0, .ref 59), (1, .long x), (3, .int (nI c)), (4, .int (nI i))] [] g Q := by
  intro m
  induction m with
  | zero =>
    intro i g hi h1 h k
    obtain rfl : i = c := by omega
    refine go_iload (pc' := 32) dX7_feed_30 rfl rfl ?_
    refine go_iload_n (pc' := 33) dX7_feed_32 rfl rfl ?_
    refine go_icmp_ge (pc' := 36) (tgt := 73) dX7_feed_33 rfl (by decide) (fun h_33 => ?_) (fun h_33 => absurd (Int32.le_refl _) h_33)
    exact k g h1 h (fun _ _ _ => rfl) (fun _ _ => rfl) rfl
  | succ m ih =>
    intro i g hi h1 h k
    have hin : i < c := by omega
    refine go_iload (pc' := 32) dX7_feed_30 rfl rfl ?_
    refine go_iload_n (pc' := 33) dX7_feed_32 rfl rfl ?_
    refine go_icmp_ge (pc' := 36) (tgt := 73) dX7_feed_33 rfl (by decide) (fun h_33 => absurd h_33 (nI_ge hin (by omega))) (fun h_33 => ?_)
    refine go_aload_n (pc' := 37) dX7_feed_36 rfl rfl ?_
    refine go_getR (pc' := 40) dX7_feed_37 rfl flRX7_22 rfl rfl ?_
    refine go_aload_n (pc' := 41) dX7_feed_40 rfl rfl ?_
    refine go_getI (pc' := 44) dX7_feed_41 rfl flRX7_64 rfl rfl ?_
    rw [h1]
    refine go_lload_n (pc' := 45) dX7_feed_44 rfl rfl ?_
    refine go_bipush (pc' := 47) 8 dX7_feed_45 rfl (by decide) ?_
    refine go_iload (pc' := 49) dX7_feed_47 rfl rfl ?_
    refine go_imul (pc' := 50) dX7_feed_49 rfl ?_
    refine go_lshr (pc' := 51) dX7_feed_50 rfl ?_
    refine go_ldc2 (pc' := 54) dX7_feed_51 rfl clRX7_68 ?_
    refine go_land (pc' := 55) dX7_feed_54 rfl ?_
    refine go_l2i (pc' := 56) dX7_feed_55 rfl ?_
    rw [by_m x i (by omega)]
    refine go_iast (pc' := 57) (L + i) dX7_feed_56 rfl rfl rfl (by omega) (by decide) ?_
    refine go_gen (fun g1 e1 => ?_)
    have n1 : g1.1 59 6 = nI (L + i) := by rw [e1]; exact (rd_ui (by omega)).trans h1
    refine go_aload_n (pc' := 58) dX7_feed_57 rfl rfl ?_
    refine go_dup (pc' := 59) dX7_feed_58 rfl rfl ?_
    refine go_getI (pc' := 62) dX7_feed_59 rfl flRX7_64 rfl rfl ?_
    rw [n1]
    refine go_iconst (pc' := 63) 1 dX7_feed_62 rfl (by decide) ?_
    refine go_iadd (pc' := 64) dX7_feed_63 rfl ?_
    rw [nI_1]
    refine go_putI (pc' := 67) dX7_feed_64 rfl flRX7_64 rfl rfl ft7_6 ?_
    refine go_iinc (pc' := 70) _ dX7_feed_67 rfl rfl (pg_inc _) (by decide) rfl ?_
    refine go_goto (pc' := 30) dX7_feed_70 (by decide) ?_
    refine ih (i + 1) _ (by omega) (by simp only [pg_ui_at]; rw [if_pos ⟨trivial, trivial⟩]; rfl) (fun j hj => ?_) (fun g' a b f1 f2 f3 => k g' a b (fun a n5 n6 => ?_) (fun j hj => ?_) ?_)
    · refine (rd_ui (by omega)).trans ?_
      rw [e1]
      refine (pg_ui_at g.1 64 (L + i) _ 64 j).trans ?_
      by_cases e : j = L + i
      · subst e; rw [if_pos ⟨rfl, rfl⟩, fd_at]
      · rw [if_neg (fun q => e q.2)]; exact h j (by omega)
    · rw [f1 a n5 n6]
      refine (pg_ui_ne g1.1 59 6 _ a n5).trans ?_
      rw [e1]
      exact pg_ui_ne g.1 64 _ _ a n6
    · rw [f2 j hj]
      refine (rd_ui (by omega)).trans ?_
      rw [e1]
      exact rd_ui (by omega)
    · rw [f3, e1]

set_option maxHeartbeats 4000000 in
set_option maxRecDepth 20000 in
theorem tX7_feed {sc : pg_Sc} {g : pg_S} {K : Int32 → pg_S → Prop} {B : Nat → Nat} {L : Nat} {x : Int64} {y : Int32} (hT : MTP g B L) (k1 : ¬ IN y 1 8 → K (-1) g) (k2 : IN y 1 8 → 200 < L + pn y → K (-2) g) (k : IN y 1 8 → L + pn y ≤ 200 → ∀ g', MTP g' (fdB B L x) (L + pn y) → (∀ a, a ≠ 59 → a ≠ 64 → g'.1 a = g.1 a) → (∀ j, j ≠ 6 → g'.1 59 j = g.1 59 j) → g'.2 = g.2 → K (nI (L + pn y)) g') : pg_Cal sc 2 mX7_feed [.ref 59, .long x, .int y] g (pg_ki K) := by
  refine pg_Cal.of rfl (Nat.le_of_ble_eq_true rfl) rfl ?_
  have hL := hT.2.1
  refine go_iload_n (pc' := 1) dX7_feed_0 rfl rfl ?_
  refine go_iconst (pc' := 2) 1 dX7_feed_1 rfl (by decide) ?_
  refine go_bipush (pc' := 4) 8 dX7_feed_2 rfl (by decide) ?_
  refine go_cSi3 (pc' := 7) (M' := mX7_in) (d' := 1) dX7_feed_4 rfl csRX7_60 (by decide) rfl (Nat.le_of_ble_eq_true rfl) ?_
  refine tX7_in ?_
  refine go_if_ne (pc' := 10) (tgt := 12) dX7_feed_7 rfl (by decide) (fun h_7 => ?_) (fun h_7 => ?_)
  · have h_7 := pg_b1 h_7
    obtain ⟨c, hc1, hc8, rfl⟩ := in_ex 1 8 rfl rfl (by decide) (by decide) h_7
    have hp : pn (nI c) = c := nI_clamp (by omega)
    rw [hp] at k k2
    refine go_aload_n (pc' := 13) dX7_feed_12 rfl rfl ?_
    refine go_getI (pc' := 16) dX7_feed_13 rfl flRX7_64 rfl rfl ?_
    rw [hT.1]
    refine go_iload_n (pc' := 17) dX7_feed_16 rfl rfl ?_
    refine go_iadd (pc' := 18) dX7_feed_17 rfl ?_
    rw [nI_add]
    refine go_sipush (pc' := 21) 200 dX7_feed_18 rfl (by decide) ?_
    refine go_icmp_le (pc' := 24) (tgt := 27) dX7_feed_21 rfl (by decide) (fun h_21 => ?_) (fun h_21 => ?_)
    · have hle : L + c ≤ 200 := (nI_leI (b := 200) (by omega) (by decide)).mp h_21
      refine go_iconst (pc' := 28) 0 dX7_feed_27 rfl (by decide) ?_
      refine go_istore (pc' := 30) dX7_feed_28 rfl (by decide) rfl ?_
      refine lfd7 hc8 hle c 0 g (by omega) hT.1 (fun j hj => by rw [fd_old x (by omega)]; exact (hT.2.2 j (by omega)).2) (fun g1 a1 b1 c1 d1 e1 => ?_)
      refine go_aload_n (pc' := 74) dX7_feed_73 rfl rfl ?_
      refine go_getI (pc' := 77) dX7_feed_74 rfl flRX7_64 rfl rfl ?_
      rw [a1]
      refine go_iret dX7_feed_77 (pg_narI _) ?_
      exact k h_7 hle g1 ⟨a1, hle, fun j hj => ⟨fd_lt x (fun j hj => (hT.2.2 j hj).1) j, b1 j hj⟩⟩ c1 d1 e1
    · have hgt : 200 < L + c := by
        rcases Nat.lt_or_ge 200 (L + c) with q | q
        · exact q
        · exact absurd (nI_le (b := 200) q (by decide)) h_21
      refine go_bipush (pc' := 26) (-2) dX7_feed_24 rfl (by decide) ?_
      refine go_iret dX7_feed_26 (pg_narI _) ?_
      exact k2 h_7 hgt
  · have h_7 := pg_b0 h_7
    refine go_iconst (pc' := 11) (-1) dX7_feed_10 rfl (by decide) ?_
    refine go_iret dX7_feed_11 (pg_narI _) ?_
    exact k1 h_7

