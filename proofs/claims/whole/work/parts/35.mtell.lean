def MG (B : Nat → Nat) (L : Nat) (s : Sg) (g : pg_S) : Prop := g.1 59 12 = (if s.1 = true then 1 else 0) ∧ MK B L s.2 g ∧ s.2 ≤ L
theorem MK.good {g : pg_S} {B : Nat → Nat} {L p : Nat} {v : Int32} (h : MK B L p g) : MK B L p (pg_ui g.1 59 12 v, g.2) := by
  obtain ⟨h1, h2, h3, h4, h5, h6⟩ := h
  have e : ∀ j, j ≠ 12 → pg_ui g.1 59 12 v 59 j = g.1 59 j := fun j hj => by rw [pg_ui_at, if_neg (fun q => hj q.2)]
  exact ⟨(e 9 (by decide)).trans h1, (e 8 (by decide)).trans h2, (e 7 (by decide)).trans h3, h4, fun q => (e 11 (by decide)).trans (h5 q), fun q => (e 11 (by decide)).trans (h6 q)⟩
def mayF (B : Nat → Nat) (L c : Nat) (s : Sg) : Sg := if s.1 = true ∧ tnF B L s.2 = c then (true, enF B L s.2) else s
def FX (g g' : pg_S) : Prop := (∀ a, a ≠ 59 → a ≠ 61 → g'.1 a = g.1 a) ∧ (∀ j, j ∉ ([7, 8, 9, 11, 12] : List Nat) → g'.1 59 j = g.1 59 j) ∧ ∀ a, a ≠ 59 → g'.2 a = g.2 a
theorem FX.rf {g : pg_S} : FX g g := ⟨fun _ _ _ => rfl, fun _ _ => rfl, fun _ _ => rfl⟩
theorem FX.tr {g g' g'' : pg_S} (h : FX g g') (h' : FX g' g'') : FX g g'' := ⟨fun a q r => (h'.1 a q r).trans (h.1 a q r), fun j q => (h'.2.1 j q).trans (h.2.1 j q), fun a q => (h'.2.2 a q).trans (h.2.2 a q)⟩
theorem FX.w {g g' : pg_S} (h : FW [7, 8, 9, 11, 12] g g') : FX g g' := ⟨fun a q _ => h.1 a q, h.2.1, h.2.2⟩
theorem FX.r {g g' : pg_S} (h : FR 61 62 g g') : FX g g' := ⟨fun a _ q => h.1 a (by omega), fun j _ => by rw [h.1 59 (by decide)], fun a _ => by rw [h.2]⟩
theorem MTP.fx {g g' : pg_S} {B : Nat → Nat} {L : Nat} (h : MTP g B L) (f : FX g g') : MTP g' B L := by
  obtain ⟨h1, h2, h3⟩ := h
  exact ⟨(f.2.1 6 (by decide)).trans h1, h2, fun j hj => ⟨(h3 j hj).1, by rw [f.1 64 (by decide) (by decide)]; exact (h3 j hj).2⟩⟩
theorem MR.fw {g g' : pg_S} {r n : Nat} {T : TW} {l : List Nat} (h : MR g r T n) (f : FW l g g') (hr : r ≠ 59) : MR g' r T n := by
  unfold MR at h ⊢
  rw [f.1 r hr]
  exact h
theorem MG.r {g g' : pg_S} {B : Nat → Nat} {L : Nat} {s : Sg} (h : MG B L s g) (f : FR 61 62 g g') : MG B L s g' := by
  unfold MG MK at h ⊢
  rw [f.1 59 (by decide), f.2]
  exact h
def PM (B : Nat → Nat) (L : Nat) (g : pg_S) : PR → Prop
  | .inl q => MG B L (false, q) g
  | .inr (q, T, n) => MG B L (true, q) g ∧ MR g 61 T n
set_option maxHeartbeats 4000000 in
set_option maxRecDepth 20000 in
theorem tX7_wantWord {sc : pg_Sc} {g : pg_S} {K : pg_S → Prop} {B : Nat → Nat} {L : Nat} {s : Sg} {c : Nat} {x : Int64} (h : MTP g B L) (m : MG B L s g) (hc : c < 20) (hx : x = nL (cdN c)) (k : ∀ g', MTP g' B L → MG B L (wWord B L c s) g' → FW [7, 8, 9, 11, 12] g g' → K g') : pg_Cal sc 4 mX7_wantWord [.ref 59, .long x] g (pg_kv K) := by
  refine pg_Cal.of rfl (Nat.le_of_ble_eq_true rfl) rfl ?_
  have hL := h.2.1
  obtain ⟨m1, m2, m3⟩ := m
  have h3 := so_le B L s.2
  refine go_aload_n (pc' := 1) dX7_wantWord_0 rfl rfl ?_
  refine go_aload_n (pc' := 2) dX7_wantWord_1 rfl rfl ?_
  refine go_getI (pc' := 5) dX7_wantWord_2 rfl flRX7_138 rfl rfl ?_
  rw [m1]
  refine go_if_eq (pc' := 8) (tgt := 20) dX7_wantWord_5 rfl (by decide) (fun h_5 => ?_) (fun h_5 => ?_)
  · refine go_iconst (pc' := 21) 0 dX7_wantWord_20 rfl (by decide) ?_
    refine go_putZ (pc' := 24) (by decide) dX7_wantWord_21 rfl flRX7_138 rfl rfl ft7_12 ?_
    refine go_gen (fun g1 e1 => ?_)
    have F1 : FW [7, 8, 9, 11, 12] g g1 := by rw [e1]; exact FW.ui (by decide)
    have T1 := h.fw F1 (by decide)
    have g12 : g1.1 59 12 = 0 := by rw [e1]; simp [pg_ui_at]
    refine go_aload_n (pc' := 25) dX7_wantWord_24 rfl rfl ?_
    refine go_getI (pc' := 28) dX7_wantWord_25 rfl flRX7_138 rfl rfl ?_
    rw [g12]
    refine go_if_eq (pc' := 31) (tgt := 35) dX7_wantWord_28 rfl (by decide) (fun h_28 => ?_) (fun h_28 => absurd (rfl) h_28)
    refine go_vret dX7_wantWord_35 rfl ?_
    have e : wWord B L c s = (false, s.2) := if_neg (fun q => pg_b0 h_5 q.1)
    rw [e] at k
    exact k g1 T1 ⟨by rw [e1]; simp [pg_ui_at], by rw [e1]; exact m2.good, m3⟩ F1
  · refine go_aload_n (pc' := 9) dX7_wantWord_8 rfl rfl ?_
    refine go_lload_n (pc' := 10) dX7_wantWord_9 rfl rfl ?_
    refine go_cVi1 (pc' := 13) (M' := mX7_isWord) (d' := 1) dX7_wantWord_10 rfl cvRX7_104 rfl rfl (by decide) rfl (Nat.le_of_ble_eq_true rfl) ?_
    refine tX7_isWord (c := c) h m2 m3 hc hx ?_
    refine go_if_eq (pc' := 16) (tgt := 20) dX7_wantWord_13 rfl (by decide) (fun h_13 => ?_) (fun h_13 => ?_)
    · have h_13 := pg_b0 h_13
      refine go_iconst (pc' := 21) 0 dX7_wantWord_20 rfl (by decide) ?_
      refine go_putZ (pc' := 24) (by decide) dX7_wantWord_21 rfl flRX7_138 rfl rfl ft7_12 ?_
      refine go_gen (fun g1 e1 => ?_)
      have F1 : FW [7, 8, 9, 11, 12] g g1 := by rw [e1]; exact FW.ui (by decide)
      have T1 := h.fw F1 (by decide)
      have g12 : g1.1 59 12 = 0 := by rw [e1]; simp [pg_ui_at]
      refine go_aload_n (pc' := 25) dX7_wantWord_24 rfl rfl ?_
      refine go_getI (pc' := 28) dX7_wantWord_25 rfl flRX7_138 rfl rfl ?_
      rw [g12]
      refine go_if_eq (pc' := 31) (tgt := 35) dX7_wantWord_28 rfl (by decide) (fun h_28 => ?_) (fun h_28 => absurd (rfl) h_28)
      refine go_vret dX7_wantWord_35 rfl ?_
      have e : wWord B L c s = (false, s.2) := if_neg (fun q => h_13 q.2)
      rw [e] at k
      exact k g1 T1 ⟨by rw [e1]; simp [pg_ui_at], by rw [e1]; exact m2.good, m3⟩ F1
    · have h_13 := pg_b1 h_13
      refine go_iconst (pc' := 17) 1 dX7_wantWord_16 rfl (by decide) ?_
      refine go_goto (pc' := 21) dX7_wantWord_17 (by decide) ?_
      refine go_putZ (pc' := 24) (by decide) dX7_wantWord_21 rfl flRX7_138 rfl rfl ft7_12 ?_
      refine go_gen (fun g1 e1 => ?_)
      have F1 : FW [7, 8, 9, 11, 12] g g1 := by rw [e1]; exact FW.ui (by decide)
      have T1 := h.fw F1 (by decide)
      have g12 : g1.1 59 12 = 1 := by rw [e1]; simp [pg_ui_at]
      refine go_aload_n (pc' := 25) dX7_wantWord_24 rfl rfl ?_
      refine go_getI (pc' := 28) dX7_wantWord_25 rfl flRX7_138 rfl rfl ?_
      rw [g12]
      refine go_if_eq (pc' := 31) (tgt := 35) dX7_wantWord_28 rfl (by decide) (fun h_28 => absurd h_28 (by decide)) (fun h_28 => ?_)
      refine go_aload_n (pc' := 32) dX7_wantWord_31 rfl rfl ?_
      refine go_cVv0 (pc' := 35) (M' := mX7_advance) (d' := 3) dX7_wantWord_32 rfl cvRX7_142 rfl rfl (by decide) rfl (Nat.le_of_ble_eq_true rfl) ?_
      refine tX7_advance T1 (by rw [e1]; exact m2.good.1) (en_le m3) (fun g2 T2 a2 f2 => ?_)
      have a3 : g2.1 59 12 = 1 := (f2.2.1 12 (by decide)).trans g12
      refine go_vret dX7_wantWord_35 rfl ?_
      have e : wWord B L c s = (true, enF B L s.2) := if_pos ⟨pg_b1 h_5, h_13⟩
      rw [e] at k
      exact k g2 T2 ⟨a3, a2, en_le m3⟩ (FW.tr F1 (f2.wd (by decide)))

set_option maxHeartbeats 4000000 in
set_option maxRecDepth 20000 in
theorem tX7_wantEnd {sc : pg_Sc} {g : pg_S} {K : pg_S → Prop} {B : Nat → Nat} {L : Nat} {s : Sg}  (h : MTP g B L) (m : MG B L s g) (k : ∀ g', MTP g' B L → MG B L (wEnd B L s) g' → FW [7, 8, 9, 11, 12] g g' → K g') : pg_Cal sc 4 mX7_wantEnd [.ref 59] g (pg_kv K) := by
  refine pg_Cal.of rfl (Nat.le_of_ble_eq_true rfl) rfl ?_
  have hL := h.2.1
  obtain ⟨m1, m2, m3⟩ := m
  have h3 := so_le B L s.2
  refine go_aload_n (pc' := 1) dX7_wantEnd_0 rfl rfl ?_
  refine go_aload_n (pc' := 2) dX7_wantEnd_1 rfl rfl ?_
  refine go_getI (pc' := 5) dX7_wantEnd_2 rfl flRX7_138 rfl rfl ?_
  rw [m1]
  refine go_if_eq (pc' := 8) (tgt := 21) dX7_wantEnd_5 rfl (by decide) (fun h_5 => ?_) (fun h_5 => ?_)
  · refine go_iconst (pc' := 22) 0 dX7_wantEnd_21 rfl (by decide) ?_
    refine go_putZ (pc' := 25) (by decide) dX7_wantEnd_22 rfl flRX7_138 rfl rfl ft7_12 ?_
    refine go_gen (fun g1 e1 => ?_)
    have F1 : FW [7, 8, 9, 11, 12] g g1 := by rw [e1]; exact FW.ui (by decide)
    have T1 := h.fw F1 (by decide)
    have g12 : g1.1 59 12 = 0 := by rw [e1]; simp [pg_ui_at]
    refine go_aload_n (pc' := 26) dX7_wantEnd_25 rfl rfl ?_
    refine go_getI (pc' := 29) dX7_wantEnd_26 rfl flRX7_138 rfl rfl ?_
    rw [g12]
    refine go_if_eq (pc' := 32) (tgt := 36) dX7_wantEnd_29 rfl (by decide) (fun h_29 => ?_) (fun h_29 => absurd (rfl) h_29)
    refine go_vret dX7_wantEnd_36 rfl ?_
    have e : wEnd B L s = (false, s.2) := if_neg (fun q => pg_b0 h_5 q.1)
    rw [e] at k
    exact k g1 T1 ⟨by rw [e1]; simp [pg_ui_at], by rw [e1]; exact m2.good, m3⟩ F1
  · refine go_aload_n (pc' := 9) dX7_wantEnd_8 rfl rfl ?_
    refine go_bipush (pc' := 11) 59 dX7_wantEnd_9 rfl (by decide) ?_
    refine go_cVi1 (pc' := 14) (M' := mX7_isMark) (d' := 1) dX7_wantEnd_11 rfl cvRX7_145 rfl rfl (by decide) rfl (Nat.le_of_ble_eq_true rfl) ?_
    refine tX7_isMark h m2 m3 ?_
    refine go_if_eq (pc' := 17) (tgt := 21) dX7_wantEnd_14 rfl (by decide) (fun h_14 => ?_) (fun h_14 => ?_)
    · have h_14 := pg_b0 h_14
      refine go_iconst (pc' := 22) 0 dX7_wantEnd_21 rfl (by decide) ?_
      refine go_putZ (pc' := 25) (by decide) dX7_wantEnd_22 rfl flRX7_138 rfl rfl ft7_12 ?_
      refine go_gen (fun g1 e1 => ?_)
      have F1 : FW [7, 8, 9, 11, 12] g g1 := by rw [e1]; exact FW.ui (by decide)
      have T1 := h.fw F1 (by decide)
      have g12 : g1.1 59 12 = 0 := by rw [e1]; simp [pg_ui_at]
      refine go_aload_n (pc' := 26) dX7_wantEnd_25 rfl rfl ?_
      refine go_getI (pc' := 29) dX7_wantEnd_26 rfl flRX7_138 rfl rfl ?_
      rw [g12]
      refine go_if_eq (pc' := 32) (tgt := 36) dX7_wantEnd_29 rfl (by decide) (fun h_29 => ?_) (fun h_29 => absurd (rfl) h_29)
      refine go_vret dX7_wantEnd_36 rfl ?_
      have e : wEnd B L s = (false, s.2) := if_neg (fun q => h_14 q.2)
      rw [e] at k
      exact k g1 T1 ⟨by rw [e1]; simp [pg_ui_at], by rw [e1]; exact m2.good, m3⟩ F1
    · have h_14 := pg_b1 h_14
      refine go_iconst (pc' := 18) 1 dX7_wantEnd_17 rfl (by decide) ?_
      refine go_goto (pc' := 22) dX7_wantEnd_18 (by decide) ?_
      refine go_putZ (pc' := 25) (by decide) dX7_wantEnd_22 rfl flRX7_138 rfl rfl ft7_12 ?_
      refine go_gen (fun g1 e1 => ?_)
      have F1 : FW [7, 8, 9, 11, 12] g g1 := by rw [e1]; exact FW.ui (by decide)
      have T1 := h.fw F1 (by decide)
      have g12 : g1.1 59 12 = 1 := by rw [e1]; simp [pg_ui_at]
      refine go_aload_n (pc' := 26) dX7_wantEnd_25 rfl rfl ?_
      refine go_getI (pc' := 29) dX7_wantEnd_26 rfl flRX7_138 rfl rfl ?_
      rw [g12]
      refine go_if_eq (pc' := 32) (tgt := 36) dX7_wantEnd_29 rfl (by decide) (fun h_29 => absurd h_29 (by decide)) (fun h_29 => ?_)
      refine go_aload_n (pc' := 33) dX7_wantEnd_32 rfl rfl ?_
      refine go_cVv0 (pc' := 36) (M' := mX7_advance) (d' := 3) dX7_wantEnd_33 rfl cvRX7_142 rfl rfl (by decide) rfl (Nat.le_of_ble_eq_true rfl) ?_
      refine tX7_advance T1 (by rw [e1]; exact m2.good.1) (en_le m3) (fun g2 T2 a2 f2 => ?_)
      have a3 : g2.1 59 12 = 1 := (f2.2.1 12 (by decide)).trans g12
      refine go_vret dX7_wantEnd_36 rfl ?_
      have e : wEnd B L s = (true, enF B L s.2) := if_pos ⟨pg_b1 h_5, h_14⟩
      rw [e] at k
      exact k g2 T2 ⟨a3, a2, en_le m3⟩ (FW.tr F1 (f2.wd (by decide)))

set_option maxHeartbeats 4000000 in
set_option maxRecDepth 20000 in
theorem tX7_wantNumber {sc : pg_Sc} {g : pg_S} {K : Int32 → pg_S → Prop} {B : Nat → Nat} {L : Nat} {s : Sg} {c : Nat} {y : Int32} (h : MTP g B L) (m : MG B L s g) (hc : c < 1000) (hy : y = nI c) (k : ∀ v g', MTP g' B L → MG B L (wNum B L c s) g' → (s.1 = true → nbF B L s.2 ≤ c → v = nI (nbF B L s.2)) → FW [7, 8, 9, 11, 12] g g' → K v g') : pg_Cal sc 4 mX7_wantNumber [.ref 59, .int 0, .int y] g (pg_ki K) := by
  refine pg_Cal.of rfl (Nat.le_of_ble_eq_true rfl) rfl ?_
  have hL := h.2.1
  obtain ⟨m1, m2, m3⟩ := m
  have h3 := so_le B L s.2
  have hio := nb_m (B := B) (p := s.2) m3 hc
  rw [← hy] at hio
  refine go_aload_n (pc' := 1) dX7_wantNumber_0 rfl rfl ?_
  refine go_getI (pc' := 4) dX7_wantNumber_1 rfl flRX7_93 rfl rfl ?_
  refine go_istore_n (pc' := 5) dX7_wantNumber_4 rfl (by decide) rfl ?_
  refine go_aload_n (pc' := 6) dX7_wantNumber_5 rfl rfl ?_
  refine go_aload_n (pc' := 7) dX7_wantNumber_6 rfl rfl ?_
  refine go_getI (pc' := 10) dX7_wantNumber_7 rfl flRX7_138 rfl rfl ?_
  rw [m1]
  refine go_if_eq (pc' := 13) (tgt := 34) dX7_wantNumber_10 rfl (by decide) (fun h_10 => ?_) (fun h_10 => ?_)
  · refine go_iconst (pc' := 35) 0 dX7_wantNumber_34 rfl (by decide) ?_
    refine go_putZ (pc' := 38) (by decide) dX7_wantNumber_35 rfl flRX7_138 rfl rfl ft7_12 ?_
    refine go_gen (fun g1 e1 => ?_)
    have F1 : FW [7, 8, 9, 11, 12] g g1 := by rw [e1]; exact FW.ui (by decide)
    have T1 := h.fw F1 (by decide)
    have g12 : g1.1 59 12 = 0 := by rw [e1]; simp [pg_ui_at]
    refine go_aload_n (pc' := 39) dX7_wantNumber_38 rfl rfl ?_
    refine go_getI (pc' := 42) dX7_wantNumber_39 rfl flRX7_138 rfl rfl ?_
    rw [g12]
    refine go_if_eq (pc' := 45) (tgt := 49) dX7_wantNumber_42 rfl (by decide) (fun h_42 => ?_) (fun h_42 => absurd (rfl) h_42)
    refine go_iload_n (pc' := 50) dX7_wantNumber_49 rfl rfl ?_
    refine go_iret dX7_wantNumber_50 (pg_narI _) ?_
    have e : wNum B L c s = (false, s.2) := if_neg (fun q => pg_b0 h_10 q.1)
    rw [e] at k
    exact k (g.1 59 11) g1 T1 ⟨by rw [e1]; simp [pg_ui_at], by rw [e1]; exact m2.good, m3⟩ (fun _ q2 => by rw [m2.2.2.2.2.1 (hio.mpr q2).1]; exact (nb_val m3 (Nat.lt_of_le_of_lt q2 hc)).2) F1
  · refine go_aload_n (pc' := 14) dX7_wantNumber_13 rfl rfl ?_
    refine go_getI (pc' := 17) dX7_wantNumber_14 rfl flRX7_86 rfl rfl ?_
    rw [m2.2.2.1]
    refine go_iconst (pc' := 18) 2 dX7_wantNumber_17 rfl (by decide) ?_
    refine go_icmp_ne (pc' := 21) (tgt := 34) dX7_wantNumber_18 rfl (by decide) (fun h_18 => ?_) (fun h_18 => ?_)
    · refine go_iconst (pc' := 35) 0 dX7_wantNumber_34 rfl (by decide) ?_
      refine go_putZ (pc' := 38) (by decide) dX7_wantNumber_35 rfl flRX7_138 rfl rfl ft7_12 ?_
      refine go_gen (fun g1 e1 => ?_)
      have F1 : FW [7, 8, 9, 11, 12] g g1 := by rw [e1]; exact FW.ui (by decide)
      have T1 := h.fw F1 (by decide)
      have g12 : g1.1 59 12 = 0 := by rw [e1]; simp [pg_ui_at]
      refine go_aload_n (pc' := 39) dX7_wantNumber_38 rfl rfl ?_
      refine go_getI (pc' := 42) dX7_wantNumber_39 rfl flRX7_138 rfl rfl ?_
      rw [g12]
      refine go_if_eq (pc' := 45) (tgt := 49) dX7_wantNumber_42 rfl (by decide) (fun h_42 => ?_) (fun h_42 => absurd (rfl) h_42)
      refine go_iload_n (pc' := 50) dX7_wantNumber_49 rfl rfl ?_
      refine go_iret dX7_wantNumber_50 (pg_narI _) ?_
      have e : wNum B L c s = (false, s.2) := if_neg (fun q => h_18 (by rw [(hio.mpr q.2).1]; rfl))
      rw [e] at k
      exact k (g.1 59 11) g1 T1 ⟨by rw [e1]; simp [pg_ui_at], by rw [e1]; exact m2.good, m3⟩ (fun _ q2 => by rw [m2.2.2.2.2.1 (hio.mpr q2).1]; exact (nb_val m3 (Nat.lt_of_le_of_lt q2 hc)).2) F1
    · have hso := (nI_eq (b := 2) (by omega) (by decide)).mp h_18
      have hv := m2.2.2.2.2.1 hso
      refine go_iload_n (pc' := 22) dX7_wantNumber_21 rfl rfl ?_
      refine go_iload_n (pc' := 23) dX7_wantNumber_22 rfl rfl ?_
      refine go_iload_n (pc' := 24) dX7_wantNumber_23 rfl rfl ?_
      refine go_cSi3 (pc' := 27) (M' := mX7_in) (d' := 1) dX7_wantNumber_24 rfl csRX7_60 (by decide) rfl (Nat.le_of_ble_eq_true rfl) ?_
      refine tX7_in ?_
      refine go_if_eq (pc' := 30) (tgt := 34) dX7_wantNumber_27 rfl (by decide) (fun h_27 => ?_) (fun h_27 => ?_)
      · have h_27 := pg_b0 h_27
        refine go_iconst (pc' := 35) 0 dX7_wantNumber_34 rfl (by decide) ?_
        refine go_putZ (pc' := 38) (by decide) dX7_wantNumber_35 rfl flRX7_138 rfl rfl ft7_12 ?_
        refine go_gen (fun g1 e1 => ?_)
        have F1 : FW [7, 8, 9, 11, 12] g g1 := by rw [e1]; exact FW.ui (by decide)
        have T1 := h.fw F1 (by decide)
        have g12 : g1.1 59 12 = 0 := by rw [e1]; simp [pg_ui_at]
        refine go_aload_n (pc' := 39) dX7_wantNumber_38 rfl rfl ?_
        refine go_getI (pc' := 42) dX7_wantNumber_39 rfl flRX7_138 rfl rfl ?_
        rw [g12]
        refine go_if_eq (pc' := 45) (tgt := 49) dX7_wantNumber_42 rfl (by decide) (fun h_42 => ?_) (fun h_42 => absurd (rfl) h_42)
        refine go_iload_n (pc' := 50) dX7_wantNumber_49 rfl rfl ?_
        refine go_iret dX7_wantNumber_50 (pg_narI _) ?_
        have e : wNum B L c s = (false, s.2) := if_neg (fun q => h_27 (by rw [hv]; exact (hio.mpr q.2).2))
        rw [e] at k
        exact k (g.1 59 11) g1 T1 ⟨by rw [e1]; simp [pg_ui_at], by rw [e1]; exact m2.good, m3⟩ (fun _ q2 => by rw [m2.2.2.2.2.1 (hio.mpr q2).1]; exact (nb_val m3 (Nat.lt_of_le_of_lt q2 hc)).2) F1
      · have h_27 := pg_b1 h_27
        refine go_iconst (pc' := 31) 1 dX7_wantNumber_30 rfl (by decide) ?_
        refine go_goto (pc' := 35) dX7_wantNumber_31 (by decide) ?_
        refine go_putZ (pc' := 38) (by decide) dX7_wantNumber_35 rfl flRX7_138 rfl rfl ft7_12 ?_
        refine go_gen (fun g1 e1 => ?_)
        have F1 : FW [7, 8, 9, 11, 12] g g1 := by rw [e1]; exact FW.ui (by decide)
        have T1 := h.fw F1 (by decide)
        have g12 : g1.1 59 12 = 1 := by rw [e1]; simp [pg_ui_at]
        refine go_aload_n (pc' := 39) dX7_wantNumber_38 rfl rfl ?_
        refine go_getI (pc' := 42) dX7_wantNumber_39 rfl flRX7_138 rfl rfl ?_
        rw [g12]
        refine go_if_eq (pc' := 45) (tgt := 49) dX7_wantNumber_42 rfl (by decide) (fun h_42 => absurd h_42 (by decide)) (fun h_42 => ?_)
        refine go_aload_n (pc' := 46) dX7_wantNumber_45 rfl rfl ?_
        refine go_cVv0 (pc' := 49) (M' := mX7_advance) (d' := 3) dX7_wantNumber_46 rfl cvRX7_142 rfl rfl (by decide) rfl (Nat.le_of_ble_eq_true rfl) ?_
        refine tX7_advance T1 (by rw [e1]; exact m2.good.1) (en_le m3) (fun g2 T2 a2 f2 => ?_)
        have a3 : g2.1 59 12 = 1 := (f2.2.1 12 (by decide)).trans g12
        refine go_iload_n (pc' := 50) dX7_wantNumber_49 rfl rfl ?_
        refine go_iret dX7_wantNumber_50 (pg_narI _) ?_
        have e : wNum B L c s = (true, enF B L s.2) := if_pos ⟨pg_b1 h_10, hio.mp ⟨hso, by rw [hv] at h_27; exact h_27.1, by rw [hv] at h_27; exact h_27.2⟩⟩
        rw [e] at k
        exact k (g.1 59 11) g2 T2 ⟨a3, a2, en_le m3⟩ (fun _ q2 => by rw [m2.2.2.2.2.1 (hio.mpr q2).1]; exact (nb_val m3 (Nat.lt_of_le_of_lt q2 hc)).2) (FW.tr F1 (f2.wd (by decide)))

set_option maxHeartbeats 4000000 in
set_option maxRecDepth 20000 in
theorem tX7_wantPeg {sc : pg_Sc} {g : pg_S} {K : Int32 → pg_S → Prop} {B : Nat → Nat} {L : Nat} {s : Sg}  (h : MTP g B L) (m : MG B L s g) (k : ∀ v g', MTP g' B L → MG B L (wPeg B L s) g' → (s.1 = true → 6 ≤ tnF B L s.2 ∧ tnF B L s.2 < 12 → v = nI (tnF B L s.2 - 6)) → FW [7, 8, 9, 11, 12] g g' → K v g') : pg_Cal sc 4 mX7_wantPeg [.ref 59] g (pg_ki K) := by
  refine pg_Cal.of rfl (Nat.le_of_ble_eq_true rfl) rfl ?_
  have hL := h.2.1
  obtain ⟨m1, m2, m3⟩ := m
  have h3 := so_le B L s.2
  refine go_aload_n (pc' := 1) dX7_wantPeg_0 rfl rfl ?_
  refine go_cVi0 (pc' := 4) (M' := mX7_pegHere) (d' := 2) dX7_wantPeg_1 rfl cvRX7_148 rfl rfl (by decide) rfl (Nat.le_of_ble_eq_true rfl) ?_
  refine tX7_pegHere h m2 m3 ?_
  refine go_istore_n (pc' := 5) dX7_wantPeg_4 rfl (by decide) rfl ?_
  refine go_aload_n (pc' := 6) dX7_wantPeg_5 rfl rfl ?_
  refine go_aload_n (pc' := 7) dX7_wantPeg_6 rfl rfl ?_
  refine go_getI (pc' := 10) dX7_wantPeg_7 rfl flRX7_138 rfl rfl ?_
  rw [m1]
  refine go_if_eq (pc' := 13) (tgt := 21) dX7_wantPeg_10 rfl (by decide) (fun h_10 => ?_) (fun h_10 => ?_)
  · refine go_iconst (pc' := 22) 0 dX7_wantPeg_21 rfl (by decide) ?_
    refine go_putZ (pc' := 25) (by decide) dX7_wantPeg_22 rfl flRX7_138 rfl rfl ft7_12 ?_
    refine go_gen (fun g1 e1 => ?_)
    have F1 : FW [7, 8, 9, 11, 12] g g1 := by rw [e1]; exact FW.ui (by decide)
    have T1 := h.fw F1 (by decide)
    have g12 : g1.1 59 12 = 0 := by rw [e1]; simp [pg_ui_at]
    refine go_aload_n (pc' := 26) dX7_wantPeg_25 rfl rfl ?_
    refine go_getI (pc' := 29) dX7_wantPeg_26 rfl flRX7_138 rfl rfl ?_
    rw [g12]
    refine go_if_eq (pc' := 32) (tgt := 36) dX7_wantPeg_29 rfl (by decide) (fun h_29 => ?_) (fun h_29 => absurd (rfl) h_29)
    refine go_iload_n (pc' := 37) dX7_wantPeg_36 rfl rfl ?_
    refine go_iret dX7_wantPeg_37 (pg_narI _) ?_
    have e : wPeg B L s = (false, s.2) := if_neg (fun q => pg_b0 h_10 q.1)
    rw [e] at k
    exact k (if 6 ≤ tnF B L s.2 ∧ tnF B L s.2 < 12 then nI (tnF B L s.2 - 6) else -1) g1 T1 ⟨by rw [e1]; simp [pg_ui_at], by rw [e1]; exact m2.good, m3⟩ (fun _ q2 => if_pos q2) F1
  · refine go_iload_n (pc' := 14) dX7_wantPeg_13 rfl rfl ?_
    refine go_if_lt (pc' := 17) (tgt := 21) dX7_wantPeg_14 rfl (by decide) (fun h_14 => ?_) (fun h_14 => ?_)
    · refine go_iconst (pc' := 22) 0 dX7_wantPeg_21 rfl (by decide) ?_
      refine go_putZ (pc' := 25) (by decide) dX7_wantPeg_22 rfl flRX7_138 rfl rfl ft7_12 ?_
      refine go_gen (fun g1 e1 => ?_)
      have F1 : FW [7, 8, 9, 11, 12] g g1 := by rw [e1]; exact FW.ui (by decide)
      have T1 := h.fw F1 (by decide)
      have g12 : g1.1 59 12 = 0 := by rw [e1]; simp [pg_ui_at]
      refine go_aload_n (pc' := 26) dX7_wantPeg_25 rfl rfl ?_
      refine go_getI (pc' := 29) dX7_wantPeg_26 rfl flRX7_138 rfl rfl ?_
      rw [g12]
      refine go_if_eq (pc' := 32) (tgt := 36) dX7_wantPeg_29 rfl (by decide) (fun h_29 => ?_) (fun h_29 => absurd (rfl) h_29)
      refine go_iload_n (pc' := 37) dX7_wantPeg_36 rfl rfl ?_
      refine go_iret dX7_wantPeg_37 (pg_narI _) ?_
      have e : wPeg B L s = (false, s.2) := if_neg (fun q => by rw [if_pos q.2] at h_14; exact nI_n0 (by omega) h_14)
      rw [e] at k
      exact k (if 6 ≤ tnF B L s.2 ∧ tnF B L s.2 < 12 then nI (tnF B L s.2 - 6) else -1) g1 T1 ⟨by rw [e1]; simp [pg_ui_at], by rw [e1]; exact m2.good, m3⟩ (fun _ q2 => if_pos q2) F1
    · refine go_iconst (pc' := 18) 1 dX7_wantPeg_17 rfl (by decide) ?_
      refine go_goto (pc' := 22) dX7_wantPeg_18 (by decide) ?_
      refine go_putZ (pc' := 25) (by decide) dX7_wantPeg_22 rfl flRX7_138 rfl rfl ft7_12 ?_
      refine go_gen (fun g1 e1 => ?_)
      have F1 : FW [7, 8, 9, 11, 12] g g1 := by rw [e1]; exact FW.ui (by decide)
      have T1 := h.fw F1 (by decide)
      have g12 : g1.1 59 12 = 1 := by rw [e1]; simp [pg_ui_at]
      refine go_aload_n (pc' := 26) dX7_wantPeg_25 rfl rfl ?_
      refine go_getI (pc' := 29) dX7_wantPeg_26 rfl flRX7_138 rfl rfl ?_
      rw [g12]
      refine go_if_eq (pc' := 32) (tgt := 36) dX7_wantPeg_29 rfl (by decide) (fun h_29 => absurd h_29 (by decide)) (fun h_29 => ?_)
      refine go_aload_n (pc' := 33) dX7_wantPeg_32 rfl rfl ?_
      refine go_cVv0 (pc' := 36) (M' := mX7_advance) (d' := 3) dX7_wantPeg_33 rfl cvRX7_142 rfl rfl (by decide) rfl (Nat.le_of_ble_eq_true rfl) ?_
      refine tX7_advance T1 (by rw [e1]; exact m2.good.1) (en_le m3) (fun g2 T2 a2 f2 => ?_)
      have a3 : g2.1 59 12 = 1 := (f2.2.1 12 (by decide)).trans g12
      refine go_iload_n (pc' := 37) dX7_wantPeg_36 rfl rfl ?_
      refine go_iret dX7_wantPeg_37 (pg_narI _) ?_
      have e : wPeg B L s = (true, enF B L s.2) := if_pos ⟨pg_b1 h_10, by
        by_cases z : 6 ≤ tnF B L s.2 ∧ tnF B L s.2 < 12
        · exact z
        · rw [if_neg z] at h_14; exact absurd (show (-1 : Int32) < 0 by decide) h_14⟩
      rw [e] at k
      exact k (if 6 ≤ tnF B L s.2 ∧ tnF B L s.2 < 12 then nI (tnF B L s.2 - 6) else -1) g2 T2 ⟨a3, a2, en_le m3⟩ (fun _ q2 => if_pos q2) (FW.tr F1 (f2.wd (by decide)))

set_option maxHeartbeats 4000000 in
set_option maxRecDepth 20000 in
theorem tX7_may {sc : pg_Sc} {g : pg_S} {K : Int32 → pg_S → Prop} {B : Nat → Nat} {L : Nat} {s : Sg} {c : Nat} {x : Int64} (h : MTP g B L) (m : MG B L s g) (hc : c < 20) (hx : x = nL (cdN c)) (k : ∀ g', MTP g' B L → MG B L (mayF B L c s) g' → FW [7, 8, 9, 11, 12] g g' → K (if s.1 = true ∧ tnF B L s.2 = c then 1 else 0) g') : pg_Cal sc 4 mX7_may [.ref 59, .long x] g (pg_ki K) := by
  refine pg_Cal.of rfl (Nat.le_of_ble_eq_true rfl) rfl ?_
  have hL := h.2.1
  obtain ⟨m1, m2, m3⟩ := m
  have h3 := so_le B L s.2
  refine go_aload_n (pc' := 1) dX7_may_0 rfl rfl ?_
  refine go_getI (pc' := 4) dX7_may_1 rfl flRX7_138 rfl rfl ?_
  rw [m1]
  refine go_if_eq (pc' := 7) (tgt := 19) dX7_may_4 rfl (by decide) (fun h_4 => ?_) (fun h_4 => ?_)
  · refine go_iconst (pc' := 20) 0 dX7_may_19 rfl (by decide) ?_
    refine go_istore_n (pc' := 21) dX7_may_20 rfl (by decide) rfl ?_
    refine go_iload_n (pc' := 22) dX7_may_21 rfl rfl ?_
    refine go_if_eq (pc' := 25) (tgt := 29) dX7_may_22 rfl (by decide) (fun h_22 => ?_) (fun h_22 => absurd (rfl) h_22)
    refine go_iload_n (pc' := 30) dX7_may_29 rfl rfl ?_
    refine go_iret dX7_may_30 (by first | exact pg_nar1 | exact pg_nar0 | exact pg_narB) ?_
    have hq : ¬ (s.1 = true ∧ tnF B L s.2 = c) := fun q => pg_b0 h_4 q.1
    have e : mayF B L c s = s := if_neg hq
    rw [e, if_neg hq] at k
    exact k g h ⟨m1, m2, m3⟩ FW.rf
  · refine go_aload_n (pc' := 8) dX7_may_7 rfl rfl ?_
    refine go_lload_n (pc' := 9) dX7_may_8 rfl rfl ?_
    refine go_cVi1 (pc' := 12) (M' := mX7_isWord) (d' := 1) dX7_may_9 rfl cvRX7_104 rfl rfl (by decide) rfl (Nat.le_of_ble_eq_true rfl) ?_
    refine tX7_isWord (c := c) h m2 m3 hc hx ?_
    refine go_if_eq (pc' := 15) (tgt := 19) dX7_may_12 rfl (by decide) (fun h_12 => ?_) (fun h_12 => ?_)
    · have h_12 := pg_b0 h_12
      refine go_iconst (pc' := 20) 0 dX7_may_19 rfl (by decide) ?_
      refine go_istore_n (pc' := 21) dX7_may_20 rfl (by decide) rfl ?_
      refine go_iload_n (pc' := 22) dX7_may_21 rfl rfl ?_
      refine go_if_eq (pc' := 25) (tgt := 29) dX7_may_22 rfl (by decide) (fun h_22 => ?_) (fun h_22 => absurd (rfl) h_22)
      refine go_iload_n (pc' := 30) dX7_may_29 rfl rfl ?_
      refine go_iret dX7_may_30 (by first | exact pg_nar1 | exact pg_nar0 | exact pg_narB) ?_
      have hq : ¬ (s.1 = true ∧ tnF B L s.2 = c) := fun q => h_12 q.2
      have e : mayF B L c s = s := if_neg hq
      rw [e, if_neg hq] at k
      exact k g h ⟨m1, m2, m3⟩ FW.rf
    · have h_12 := pg_b1 h_12
      refine go_iconst (pc' := 16) 1 dX7_may_15 rfl (by decide) ?_
      refine go_goto (pc' := 20) dX7_may_16 (by decide) ?_
      refine go_istore_n (pc' := 21) dX7_may_20 rfl (by decide) rfl ?_
      refine go_iload_n (pc' := 22) dX7_may_21 rfl rfl ?_
      refine go_if_eq (pc' := 25) (tgt := 29) dX7_may_22 rfl (by decide) (fun h_22 => absurd h_22 (by decide)) (fun h_22 => ?_)
      refine go_aload_n (pc' := 26) dX7_may_25 rfl rfl ?_
      refine go_cVv0 (pc' := 29) (M' := mX7_advance) (d' := 3) dX7_may_26 rfl cvRX7_142 rfl rfl (by decide) rfl (Nat.le_of_ble_eq_true rfl) ?_
      refine tX7_advance h m2.1 (en_le m3) (fun g2 T2 a2 f2 => ?_)
      refine go_iload_n (pc' := 30) dX7_may_29 rfl rfl ?_
      refine go_iret dX7_may_30 (by first | exact pg_nar1 | exact pg_nar0 | exact pg_narB) ?_
      have hq : s.1 = true ∧ tnF B L s.2 = c := ⟨pg_b1 h_4, h_12⟩
      have e : mayF B L c s = (true, enF B L s.2) := if_pos hq
      rw [e, if_pos hq] at k
      exact k g2 T2 ⟨(f2.2.1 12 (by decide)).trans (m1.trans (if_pos hq.1)), a2, en_le m3⟩ (f2.wd (by decide))

theorem madm61 {g : pg_S} {T : TW} {n : Nat} {kd pg ag pl : Int32} (h : MR g 61 T n) (hn : n < 8) : MR (pg_ui (pg_ui (pg_ui (pg_ui (pg_ui (pg_ui g.1 61 (13 + 5 * n + 0) kd) 61 (13 + 5 * n + 1) pg) 61 (13 + 5 * n + 2) ag) 61 (13 + 5 * n + 3) pl) 61 (13 + 5 * n + 4) 0) 61 5 (nI (n + 1)), g.2) 61 (admF T n kd pg ag pl) (n + 1) := by
  obtain ⟨h1, h2, h3, h4, h5⟩ := h
  have e : ∀ j, (j < 13 + 5 * n ∨ 13 + 5 * n + 5 ≤ j) → j ≠ 5 → pg_ui (pg_ui (pg_ui (pg_ui (pg_ui (pg_ui g.1 61 (13 + 5 * n + 0) kd) 61 (13 + 5 * n + 1) pg) 61 (13 + 5 * n + 2) ag) 61 (13 + 5 * n + 3) pl) 61 (13 + 5 * n + 4) 0) 61 5 (nI (n + 1)) 61 j = g.1 61 j := by
    intro j hj h5
    rw [pg_ui_at, if_neg (by omega), pg_ui_at, if_neg (by omega), pg_ui_at, if_neg (by omega), pg_ui_at, if_neg (by omega), pg_ui_at, if_neg (by omega), pg_ui_at, if_neg (by omega)]
  refine ⟨by unfold admF; rw [tu_eq], ⟨?_, ?_, ?_⟩, fun j hj => ?_, fun j hj => ?_, fun a ha j hj => ?_⟩
  · unfold admF
    rw [tu_eq]
    simp [pg_ui_at]
  · refine (e 4 (by omega) (by omega)).trans (h2.2.1.trans ?_)
    unfold admF
    simp [tu]
  · refine (e 6 (by omega) (by omega)).trans (h2.2.2.trans ?_)
    unfold admF
    simp [tu]
  · refine (e j (by omega) (by omega)).trans ((h3 j hj).trans ?_)
    unfold admF
    simp [tu]
  · refine (e (7 + j) (by omega) (by omega)).trans ((h4 j hj).trans ?_)
    unfold admF
    simp [tu]
  · by_cases ej : j = n
    · subst ej
      show pg_ui (pg_ui (pg_ui (pg_ui (pg_ui (pg_ui g.1 61 (13 + 5 * j + 0) kd) 61 (13 + 5 * j + 1) pg) 61 (13 + 5 * j + 2) ag) 61 (13 + 5 * j + 3) pl) 61 (13 + 5 * j + 4) 0) 61 5 (nI (j + 1)) 61 (13 + 5 * j + a) = _
      unfold admF
      rcases (show a = 0 ∨ a = 1 ∨ a = 2 ∨ a = 3 ∨ a = 4 by omega) with rfl | rfl | rfl | rfl | rfl <;> simp [pg_ui_at, tu] <;> omega
    · refine (e (13 + 5 * j + a) (by omega) (by omega)).trans ((h5 a ha j (by omega)).trans ?_)
      unfold admF
      simp [tu, ej]
      omega
set_option maxHeartbeats 4000000 in
set_option maxRecDepth 20000 in
theorem tX7_wantOne {sc : pg_Sc} {g : pg_S} {K : pg_S → Prop} {B : Nat → Nat} {L kd n p : Nat} {T : TW} (h : MTP g B L) (m : MG B L (true, p) g) (hR : MR g 61 T n) (hn : n ≤ 8) (k : ∀ g', MTP g' B L → PM B L g' (perF B L kd T n p) → FX g g' → K g') : pg_Cal sc 5 mX7_wantOne [.ref 59, .int (nI kd)] g (pg_kv K) := by
  refine pg_Cal.of rfl (Nat.le_of_ble_eq_true rfl) rfl ?_
  have hL := h.2.1
  obtain ⟨m1, m2, m3⟩ := m
  refine go_aload_n (pc' := 1) dX7_wantOne_0 rfl rfl ?_
  refine go_aload_n (pc' := 2) dX7_wantOne_1 rfl rfl ?_
  refine go_getR (pc' := 5) dX7_wantOne_2 rfl flRX7_13 rfl rfl ?_
  refine go_iconst (pc' := 6) 5 dX7_wantOne_5 rfl (by decide) ?_
  refine go_iald (pc' := 7) 5 dX7_wantOne_6 rfl rfl rfl (by omega) (by decide) ?_
  rw [hR.people]
  refine go_bipush (pc' := 9) 8 dX7_wantOne_7 rfl (by decide) ?_
  refine go_icmp_ge (pc' := 12) (tgt := 16) dX7_wantOne_9 rfl (by decide) (fun h_9 => ?_) (fun h_9 => ?_)
  · refine go_iconst (pc' := 17) 0 dX7_wantOne_16 rfl (by decide) ?_
    refine go_putZ (pc' := 20) (by decide) dX7_wantOne_17 rfl flRX7_138 rfl rfl ft7_12 ?_
    refine go_gen (fun g1 e1 => ?_)
    have F1 : FW [7, 8, 9, 11, 12] g g1 := by rw [e1]; exact FW.ui (by decide)
    have T1 := h.fw F1 (by decide)
    have g12 : g1.1 59 12 = 0 := by rw [e1]; simp [pg_ui_at]
    refine go_aload_n (pc' := 21) dX7_wantOne_20 rfl rfl ?_
    refine go_getI (pc' := 24) dX7_wantOne_21 rfl flRX7_138 rfl rfl ?_
    rw [g12]
    refine go_if_eq (pc' := 27) (tgt := 31) dX7_wantOne_24 rfl (by decide) (fun h_24 => ?_) (fun h_24 => absurd (rfl) h_24)
    have hn8 : ¬ n < 8 := by have := (nI_leI (a := 8) (by decide) (by omega)).mp h_9; omega
    have mA : MG B L (s1F B L n p) g1 := by
      rw [s1_n hn8]
      exact ⟨by rw [e1]; simp [pg_ui_at], by rw [e1]; exact m2.good, m3⟩
    have TA := T1
    have XA : FX g g1 := FX.w F1
    have hA := hR.fw F1 (by decide)
    refine go_aload_n (pc' := 32) dX7_wantOne_31 rfl rfl ?_
    refine go_ldc2 (pc' := 35) dX7_wantOne_32 rfl clRX7_152 ?_
    refine go_cVv1 (pc' := 38) (M' := mX7_wantWord) (d' := 4) dX7_wantOne_35 rfl cvRX7_154 rfl rfl (by decide) rfl (Nat.le_of_ble_eq_true rfl) ?_
    refine tX7_wantWord (c := 16) TA mA (by decide) (by decide +kernel) (fun gB TB mB FB => ?_)
    have mB : MG B L (s2F B L n p) gB := mB
    have XB := FX.tr XA (FX.w FB)
    have hB := hA.fw FB (by decide)
    refine go_aload_n (pc' := 39) dX7_wantOne_38 rfl rfl ?_
    refine go_iconst (pc' := 40) 0 dX7_wantOne_39 rfl (by decide) ?_
    refine go_bipush (pc' := 42) 11 dX7_wantOne_40 rfl (by decide) ?_
    refine go_cVi2 (pc' := 45) (M' := mX7_wantNumber) (d' := 4) dX7_wantOne_42 rfl cvRX7_158 rfl rfl (by decide) rfl (Nat.le_of_ble_eq_true rfl) ?_
    refine tX7_wantNumber (c := 11) TB mB (by decide) rfl (fun v1 gC TC mC hv1 FC => ?_)
    have mC : MG B L (s3F B L n p) gC := mC
    have XC := FX.tr XB (FX.w FC)
    have hC := hB.fw FC (by decide)
    refine go_istore_n (pc' := 46) dX7_wantOne_45 rfl (by decide) rfl ?_
    refine go_aload_n (pc' := 47) dX7_wantOne_46 rfl rfl ?_
    refine go_ldc2 (pc' := 50) dX7_wantOne_47 rfl clRX7_162 ?_
    refine go_cVi1 (pc' := 53) (M' := mX7_may) (d' := 4) dX7_wantOne_50 rfl cvRX7_164 rfl rfl (by decide) rfl (Nat.le_of_ble_eq_true rfl) ?_
    refine tX7_may (c := 17) TC mC (by decide) (by decide +kernel) (fun gD TD mD FD => ?_)
    have XD := FX.tr XC (FX.w FD)
    have hD := hC.fw FD (by decide)
    refine go_if_eq (pc' := 56) (tgt := 66) dX7_wantOne_53 rfl (by decide) (fun h_53 => ?_) (fun h_53 => ?_)
    · have h_53 := pg_b0 h_53
      refine go_iconst (pc' := 67) 0 dX7_wantOne_66 rfl (by decide) ?_
      refine go_istore_n (pc' := 68) dX7_wantOne_67 rfl (by decide) rfl ?_
      have eE : s4F B L (s3F B L n p) = s3F B L n p := if_neg h_53
      have eM : mayF B L 17 (s3F B L n p) = s3F B L n p := if_neg h_53
      have mE : MG B L (s4F B L (s3F B L n p)) gD := by rw [eE, ← eM]; exact mD
      have TE := TD
      have XE := XD
      have hE := hD
      have va : (s4F B L (s3F B L n p)).1 = true → (0 : Int32) = nI (ageN B L (s3F B L n p)) := fun _ => by unfold ageN; rw [if_neg h_53]; rfl
      refine go_aload_n (pc' := 69) dX7_wantOne_68 rfl rfl ?_
      refine go_ldc2 (pc' := 72) dX7_wantOne_69 rfl clRX7_167 ?_
      refine go_cVi1 (pc' := 75) (M' := mX7_may) (d' := 4) dX7_wantOne_72 rfl cvRX7_164 rfl rfl (by decide) rfl (Nat.le_of_ble_eq_true rfl) ?_
      refine tX7_may (c := 18) TE mE (by decide) (by decide +kernel) (fun gF TF mF FF => ?_)
      have XF := FX.tr XE (FX.w FF)
      have hF := hE.fw FF (by decide)
      refine go_if_eq (pc' := 78) (tgt := 85) dX7_wantOne_75 rfl (by decide) (fun h_75 => ?_) (fun h_75 => ?_)
      · have h_75 := pg_b0 h_75
        refine go_iconst (pc' := 86) 0 dX7_wantOne_85 rfl (by decide) ?_
        refine go_istore (pc' := 88) dX7_wantOne_86 rfl (by decide) rfl ?_
        have eG : s5F B L (s4F B L (s3F B L n p)) = s4F B L (s3F B L n p) := if_neg h_75
        have eN : mayF B L 18 (s4F B L (s3F B L n p)) = s4F B L (s3F B L n p) := if_neg h_75
        have mG : MG B L (s5F B L (s4F B L (s3F B L n p))) gF := by rw [eG, ← eN]; exact mF
        have TG := TF
        have XG := XF
        have hG := hF
        have vp : (s5F B L (s4F B L (s3F B L n p))).1 = true → (0 : Int32) = nI (pegN B L (s4F B L (s3F B L n p))) := fun _ => by unfold pegN; rw [if_neg h_75]; rfl
        refine go_aload_n (pc' := 89) dX7_wantOne_88 rfl rfl ?_
        refine go_cVv0 (pc' := 92) (M' := mX7_wantEnd) (d' := 4) dX7_wantOne_89 rfl cvRX7_172 rfl rfl (by decide) rfl (Nat.le_of_ble_eq_true rfl) ?_
        refine tX7_wantEnd TG mG (fun gH TH mH FH => ?_)
        have XH := FX.tr XG (FX.w FH)
        have hH := hG.fw FH (by decide)
        refine go_aload_n (pc' := 93) dX7_wantOne_92 rfl rfl ?_
        refine go_getI (pc' := 96) dX7_wantOne_93 rfl flRX7_138 rfl rfl ?_
        rw [mH.1]
        refine go_if_eq (pc' := 99) (tgt := 171) dX7_wantOne_96 rfl (by decide) (fun h_96 => ?_) (fun h_96 => ?_)
        · refine go_vret dX7_wantOne_171 rfl ?_
          have eF : perF B L kd T n p = .inl (wEnd B L (s5F B L (s4F B L (s3F B L n p)))).2 := by
            unfold perF finF
            rw [if_neg (pg_b0 h_96)]
          rw [eF] at k
          have ez : (wEnd B L (s5F B L (s4F B L (s3F B L n p)))).1 = false := by
            cases hz : (wEnd B L (s5F B L (s4F B L (s3F B L n p)))).1 with
            | false => rfl
            | true => exact absurd hz (pg_b0 h_96)
          exact k gH TH (show MG B L (false, _) gH by rw [← ez]; exact mH) XH
        · have z6 := pg_b1 h_96
          have z5 := wE_1 z6
          have z4 := (s5_1 z5).1
          have z3 := (s4_1 z4).1
          have z2 := wN_1 (s := s2F B L n p) z3
          have z1 : (s1F B L n p).1 = true := wW_1 z2.1
          have zn : n < 8 := by
            by_cases q : n < 8
            · exact q
            · rw [s1_n q] at z1
              exact absurd z1 (show ¬ false = true by decide)
          have va := va z4
          have vp := vp z5
          have vl := hv1 z2.1 z2.2
          refine go_bipush (pc' := 101) 13 dX7_wantOne_99 rfl (by decide) ?_
          refine go_iconst (pc' := 102) 5 dX7_wantOne_101 rfl (by decide) ?_
          refine go_aload_n (pc' := 103) dX7_wantOne_102 rfl rfl ?_
          refine go_getR (pc' := 106) dX7_wantOne_103 rfl flRX7_13 rfl rfl ?_
          refine go_iconst (pc' := 107) 5 dX7_wantOne_106 rfl (by decide) ?_
          refine go_iald (pc' := 108) 5 dX7_wantOne_107 rfl rfl rfl (by omega) (by decide) ?_
          rw [hH.people]
          refine go_imul (pc' := 109) dX7_wantOne_108 rfl ?_
          refine go_iadd (pc' := 110) dX7_wantOne_109 rfl ?_
          rw [show (13 : Int32) + 5 * nI n = nI (13 + 5 * n) by rw [show (13 : Int32) = nI 13 from rfl, show (5 : Int32) = nI 5 from rfl, pk_mul, nI_add]]
          refine go_istore (pc' := 112) dX7_wantOne_110 rfl (by decide) rfl ?_
          refine go_aload_n (pc' := 113) dX7_wantOne_112 rfl rfl ?_
          refine go_getR (pc' := 116) dX7_wantOne_113 rfl flRX7_13 rfl rfl ?_
          refine go_iload (pc' := 118) dX7_wantOne_116 rfl rfl ?_
          refine go_iload_n (pc' := 119) dX7_wantOne_118 rfl rfl ?_
          refine go_iast (pc' := 120) (13 + 5 * n + 0) dX7_wantOne_119 rfl rfl rfl (by omega) (by decide) ?_
          refine go_gen (fun gN1 eN1 => ?_)
          have nN1 : gN1.1 61 5 = nI n := by rw [eN1]; exact (rd_ui (by omega)).trans hH.people
          refine go_aload_n (pc' := 121) dX7_wantOne_120 rfl rfl ?_
          refine go_getR (pc' := 124) dX7_wantOne_121 rfl flRX7_13 rfl rfl ?_
          refine go_iload (pc' := 126) dX7_wantOne_124 rfl rfl ?_
          refine go_iconst (pc' := 127) 1 dX7_wantOne_126 rfl (by decide) ?_
          refine go_iadd (pc' := 128) dX7_wantOne_127 rfl ?_
          refine go_iload (pc' := 130) dX7_wantOne_128 rfl rfl ?_
          rw [vp]
          refine go_iast (pc' := 131) (13 + 5 * n + 1) dX7_wantOne_130 rfl rfl (by rw [show (1 : Int32) = nI 1 from rfl, nI_add]) (by omega) (by decide) ?_
          refine go_gen (fun gN2 eN2 => ?_)
          have nN2 : gN2.1 61 5 = nI n := by rw [eN2]; exact (rd_ui (by omega)).trans nN1
          refine go_aload_n (pc' := 132) dX7_wantOne_131 rfl rfl ?_
          refine go_getR (pc' := 135) dX7_wantOne_132 rfl flRX7_13 rfl rfl ?_
          refine go_iload (pc' := 137) dX7_wantOne_135 rfl rfl ?_
          refine go_iconst (pc' := 138) 2 dX7_wantOne_137 rfl (by decide) ?_
          refine go_iadd (pc' := 139) dX7_wantOne_138 rfl ?_
          refine go_iload_n (pc' := 140) dX7_wantOne_139 rfl rfl ?_
          rw [← vp, va]
          refine go_iast (pc' := 141) (13 + 5 * n + 2) dX7_wantOne_140 rfl rfl (by rw [show (2 : Int32) = nI 2 from rfl, nI_add]) (by omega) (by decide) ?_
          refine go_gen (fun gN3 eN3 => ?_)
          have nN3 : gN3.1 61 5 = nI n := by rw [eN3]; exact (rd_ui (by omega)).trans nN2
          refine go_aload_n (pc' := 142) dX7_wantOne_141 rfl rfl ?_
          refine go_getR (pc' := 145) dX7_wantOne_142 rfl flRX7_13 rfl rfl ?_
          refine go_iload (pc' := 147) dX7_wantOne_145 rfl rfl ?_
          refine go_iconst (pc' := 148) 3 dX7_wantOne_147 rfl (by decide) ?_
          refine go_iadd (pc' := 149) dX7_wantOne_148 rfl ?_
          refine go_iload_n (pc' := 150) dX7_wantOne_149 rfl rfl ?_
          rw [vl]
          refine go_iast (pc' := 151) (13 + 5 * n + 3) dX7_wantOne_150 rfl rfl (by rw [show (3 : Int32) = nI 3 from rfl, nI_add]) (by omega) (by decide) ?_
          refine go_gen (fun gN4 eN4 => ?_)
          have nN4 : gN4.1 61 5 = nI n := by rw [eN4]; exact (rd_ui (by omega)).trans nN3
          refine go_aload_n (pc' := 152) dX7_wantOne_151 rfl rfl ?_
          refine go_getR (pc' := 155) dX7_wantOne_152 rfl flRX7_13 rfl rfl ?_
          refine go_iload (pc' := 157) dX7_wantOne_155 rfl rfl ?_
          refine go_iconst (pc' := 158) 4 dX7_wantOne_157 rfl (by decide) ?_
          refine go_iadd (pc' := 159) dX7_wantOne_158 rfl ?_
          refine go_iconst (pc' := 160) 0 dX7_wantOne_159 rfl (by decide) ?_
          refine go_iast (pc' := 161) (13 + 5 * n + 4) dX7_wantOne_160 rfl rfl (by rw [show (4 : Int32) = nI 4 from rfl, nI_add]) (by omega) (by decide) ?_
          refine go_gen (fun gN5 eN5 => ?_)
          have nN5 : gN5.1 61 5 = nI n := by rw [eN5]; exact (rd_ui (by omega)).trans nN4
          refine go_aload_n (pc' := 162) dX7_wantOne_161 rfl rfl ?_
          refine go_getR (pc' := 165) dX7_wantOne_162 rfl flRX7_13 rfl rfl ?_
          refine go_iconst (pc' := 166) 5 dX7_wantOne_165 rfl (by decide) ?_
          refine go_dup2 (pc' := 167) dX7_wantOne_166 rfl rfl rfl ?_
          refine go_iald (pc' := 168) 5 dX7_wantOne_167 rfl rfl rfl (by omega) (by decide) ?_
          rw [nN5]
          refine go_iconst (pc' := 169) 1 dX7_wantOne_168 rfl (by decide) ?_
          refine go_iadd (pc' := 170) dX7_wantOne_169 rfl ?_
          rw [nI_1]
          refine go_iast (pc' := 171) 5 dX7_wantOne_170 rfl rfl rfl (by omega) (by decide) ?_
          refine go_gen (fun gN eN6 => ?_)
          refine go_vret dX7_wantOne_171 rfl ?_
          have eF : perF B L kd T n p = .inr ((wEnd B L (s5F B L (s4F B L (s3F B L n p)))).2, admF T n (nI kd) (nI (pegN B L (s4F B L (s3F B L n p)))) (nI (ageN B L (s3F B L n p))) (nI (nbF B L (s2F B L n p).2)), n + 1) := by
            unfold perF finF
            rw [if_pos z6]
          rw [eF] at k
          have fr : FR 61 62 gH gN := by
            rw [eN6, eN5, eN4, eN3, eN2, eN1]
            exact FR.tr (FR.tr (FR.tr (FR.tr (FR.tr (FR.ui (by decide)) (FR.ui (by decide))) (FR.ui (by decide))) (FR.ui (by decide))) (FR.ui (by decide))) (FR.ui (by decide))
          have mN := mH.r fr
          refine k gN (TH.fx (FX.r fr)) ⟨show MG B L (true, _) gN by rw [← z6]; exact mN, ?_⟩ (FX.tr XH (FX.r fr))
          have hh := madm61 (kd := nI kd) (pg := nI (pegN B L (s4F B L (s3F B L n p)))) (ag := nI (ageN B L (s3F B L n p))) (pl := nI (nbF B L (s2F B L n p).2)) hH zn
          rw [eN6, eN5, eN4, eN3, eN2, eN1]
          exact hh
      · have h_75 := pg_b1 h_75
        refine go_aload_n (pc' := 79) dX7_wantOne_78 rfl rfl ?_
        refine go_cVi0 (pc' := 82) (M' := mX7_wantPeg) (d' := 4) dX7_wantOne_79 rfl cvRX7_169 rfl rfl (by decide) rfl (Nat.le_of_ble_eq_true rfl) ?_
        have eN : mayF B L 18 (s4F B L (s3F B L n p)) = (true, enF B L (s4F B L (s3F B L n p)).2) := if_pos h_75
        rw [eN] at mF
        refine tX7_wantPeg TF mF (fun v3 gG TG mG hv3 FG => ?_)
        have XG := FX.tr XF (FX.w FG)
        have hG := hF.fw FG (by decide)
        refine go_goto (pc' := 86) dX7_wantOne_82 (by decide) ?_
        refine go_istore (pc' := 88) dX7_wantOne_86 rfl (by decide) rfl ?_
        have eG : s5F B L (s4F B L (s3F B L n p)) = wPeg B L (true, enF B L (s4F B L (s3F B L n p)).2) := if_pos h_75
        have mG : MG B L (s5F B L (s4F B L (s3F B L n p))) gG := by rw [eG]; exact mG
        have vp : (s5F B L (s4F B L (s3F B L n p))).1 = true → v3 = nI (pegN B L (s4F B L (s3F B L n p))) := fun q => by
          rw [eG] at q
          unfold pegN
          rw [if_pos h_75]
          unfold wPeg at q
          by_cases z : 6 ≤ tnF B L (enF B L (s4F B L (s3F B L n p)).2) ∧ tnF B L (enF B L (s4F B L (s3F B L n p)).2) < 12
          · exact hv3 rfl z
          · rw [if_neg (fun y => z y.2)] at q
            exact absurd q (show ¬ false = true by decide)
        refine go_aload_n (pc' := 89) dX7_wantOne_88 rfl rfl ?_
        refine go_cVv0 (pc' := 92) (M' := mX7_wantEnd) (d' := 4) dX7_wantOne_89 rfl cvRX7_172 rfl rfl (by decide) rfl (Nat.le_of_ble_eq_true rfl) ?_
        refine tX7_wantEnd TG mG (fun gH TH mH FH => ?_)
        have XH := FX.tr XG (FX.w FH)
        have hH := hG.fw FH (by decide)
        refine go_aload_n (pc' := 93) dX7_wantOne_92 rfl rfl ?_
        refine go_getI (pc' := 96) dX7_wantOne_93 rfl flRX7_138 rfl rfl ?_
        rw [mH.1]
        refine go_if_eq (pc' := 99) (tgt := 171) dX7_wantOne_96 rfl (by decide) (fun h_96 => ?_) (fun h_96 => ?_)
        · refine go_vret dX7_wantOne_171 rfl ?_
          have eF : perF B L kd T n p = .inl (wEnd B L (s5F B L (s4F B L (s3F B L n p)))).2 := by
            unfold perF finF
            rw [if_neg (pg_b0 h_96)]
          rw [eF] at k
          have ez : (wEnd B L (s5F B L (s4F B L (s3F B L n p)))).1 = false := by
            cases hz : (wEnd B L (s5F B L (s4F B L (s3F B L n p)))).1 with
            | false => rfl
            | true => exact absurd hz (pg_b0 h_96)
          exact k gH TH (show MG B L (false, _) gH by rw [← ez]; exact mH) XH
        · have z6 := pg_b1 h_96
          have z5 := wE_1 z6
          have z4 := (s5_1 z5).1
          have z3 := (s4_1 z4).1
          have z2 := wN_1 (s := s2F B L n p) z3
          have z1 : (s1F B L n p).1 = true := wW_1 z2.1
          have zn : n < 8 := by
            by_cases q : n < 8
            · exact q
            · rw [s1_n q] at z1
              exact absurd z1 (show ¬ false = true by decide)
          have va := va z4
          have vp := vp z5
          have vl := hv1 z2.1 z2.2
          refine go_bipush (pc' := 101) 13 dX7_wantOne_99 rfl (by decide) ?_
          refine go_iconst (pc' := 102) 5 dX7_wantOne_101 rfl (by decide) ?_
          refine go_aload_n (pc' := 103) dX7_wantOne_102 rfl rfl ?_
          refine go_getR (pc' := 106) dX7_wantOne_103 rfl flRX7_13 rfl rfl ?_
          refine go_iconst (pc' := 107) 5 dX7_wantOne_106 rfl (by decide) ?_
          refine go_iald (pc' := 108) 5 dX7_wantOne_107 rfl rfl rfl (by omega) (by decide) ?_
          rw [hH.people]
          refine go_imul (pc' := 109) dX7_wantOne_108 rfl ?_
          refine go_iadd (pc' := 110) dX7_wantOne_109 rfl ?_
          rw [show (13 : Int32) + 5 * nI n = nI (13 + 5 * n) by rw [show (13 : Int32) = nI 13 from rfl, show (5 : Int32) = nI 5 from rfl, pk_mul, nI_add]]
          refine go_istore (pc' := 112) dX7_wantOne_110 rfl (by decide) rfl ?_
          refine go_aload_n (pc' := 113) dX7_wantOne_112 rfl rfl ?_
          refine go_getR (pc' := 116) dX7_wantOne_113 rfl flRX7_13 rfl rfl ?_
          refine go_iload (pc' := 118) dX7_wantOne_116 rfl rfl ?_
          refine go_iload_n (pc' := 119) dX7_wantOne_118 rfl rfl ?_
          refine go_iast (pc' := 120) (13 + 5 * n + 0) dX7_wantOne_119 rfl rfl rfl (by omega) (by decide) ?_
          refine go_gen (fun gN1 eN1 => ?_)
          have nN1 : gN1.1 61 5 = nI n := by rw [eN1]; exact (rd_ui (by omega)).trans hH.people
          refine go_aload_n (pc' := 121) dX7_wantOne_120 rfl rfl ?_
          refine go_getR (pc' := 124) dX7_wantOne_121 rfl flRX7_13 rfl rfl ?_
          refine go_iload (pc' := 126) dX7_wantOne_124 rfl rfl ?_
          refine go_iconst (pc' := 127) 1 dX7_wantOne_126 rfl (by decide) ?_
          refine go_iadd (pc' := 128) dX7_wantOne_127 rfl ?_
          refine go_iload (pc' := 130) dX7_wantOne_128 rfl rfl ?_
          rw [vp]
          refine go_iast (pc' := 131) (13 + 5 * n + 1) dX7_wantOne_130 rfl rfl (by rw [show (1 : Int32) = nI 1 from rfl, nI_add]) (by omega) (by decide) ?_
          refine go_gen (fun gN2 eN2 => ?_)
          have nN2 : gN2.1 61 5 = nI n := by rw [eN2]; exact (rd_ui (by omega)).trans nN1
          refine go_aload_n (pc' := 132) dX7_wantOne_131 rfl rfl ?_
          refine go_getR (pc' := 135) dX7_wantOne_132 rfl flRX7_13 rfl rfl ?_
          refine go_iload (pc' := 137) dX7_wantOne_135 rfl rfl ?_
          refine go_iconst (pc' := 138) 2 dX7_wantOne_137 rfl (by decide) ?_
          refine go_iadd (pc' := 139) dX7_wantOne_138 rfl ?_
          refine go_iload_n (pc' := 140) dX7_wantOne_139 rfl rfl ?_
          rw [va]
          refine go_iast (pc' := 141) (13 + 5 * n + 2) dX7_wantOne_140 rfl rfl (by rw [show (2 : Int32) = nI 2 from rfl, nI_add]) (by omega) (by decide) ?_
          refine go_gen (fun gN3 eN3 => ?_)
          have nN3 : gN3.1 61 5 = nI n := by rw [eN3]; exact (rd_ui (by omega)).trans nN2
          refine go_aload_n (pc' := 142) dX7_wantOne_141 rfl rfl ?_
          refine go_getR (pc' := 145) dX7_wantOne_142 rfl flRX7_13 rfl rfl ?_
          refine go_iload (pc' := 147) dX7_wantOne_145 rfl rfl ?_
          refine go_iconst (pc' := 148) 3 dX7_wantOne_147 rfl (by decide) ?_
          refine go_iadd (pc' := 149) dX7_wantOne_148 rfl ?_
          refine go_iload_n (pc' := 150) dX7_wantOne_149 rfl rfl ?_
          rw [vl]
          refine go_iast (pc' := 151) (13 + 5 * n + 3) dX7_wantOne_150 rfl rfl (by rw [show (3 : Int32) = nI 3 from rfl, nI_add]) (by omega) (by decide) ?_
          refine go_gen (fun gN4 eN4 => ?_)
          have nN4 : gN4.1 61 5 = nI n := by rw [eN4]; exact (rd_ui (by omega)).trans nN3
          refine go_aload_n (pc' := 152) dX7_wantOne_151 rfl rfl ?_
          refine go_getR (pc' := 155) dX7_wantOne_152 rfl flRX7_13 rfl rfl ?_
          refine go_iload (pc' := 157) dX7_wantOne_155 rfl rfl ?_
          refine go_iconst (pc' := 158) 4 dX7_wantOne_157 rfl (by decide) ?_
          refine go_iadd (pc' := 159) dX7_wantOne_158 rfl ?_
          refine go_iconst (pc' := 160) 0 dX7_wantOne_159 rfl (by decide) ?_
          refine go_iast (pc' := 161) (13 + 5 * n + 4) dX7_wantOne_160 rfl rfl (by rw [show (4 : Int32) = nI 4 from rfl, nI_add]) (by omega) (by decide) ?_
          refine go_gen (fun gN5 eN5 => ?_)
          have nN5 : gN5.1 61 5 = nI n := by rw [eN5]; exact (rd_ui (by omega)).trans nN4
          refine go_aload_n (pc' := 162) dX7_wantOne_161 rfl rfl ?_
          refine go_getR (pc' := 165) dX7_wantOne_162 rfl flRX7_13 rfl rfl ?_
          refine go_iconst (pc' := 166) 5 dX7_wantOne_165 rfl (by decide) ?_
          refine go_dup2 (pc' := 167) dX7_wantOne_166 rfl rfl rfl ?_
          refine go_iald (pc' := 168) 5 dX7_wantOne_167 rfl rfl rfl (by omega) (by decide) ?_
          rw [nN5]
          refine go_iconst (pc' := 169) 1 dX7_wantOne_168 rfl (by decide) ?_
          refine go_iadd (pc' := 170) dX7_wantOne_169 rfl ?_
          rw [nI_1]
          refine go_iast (pc' := 171) 5 dX7_wantOne_170 rfl rfl rfl (by omega) (by decide) ?_
          refine go_gen (fun gN eN6 => ?_)
          refine go_vret dX7_wantOne_171 rfl ?_
          have eF : perF B L kd T n p = .inr ((wEnd B L (s5F B L (s4F B L (s3F B L n p)))).2, admF T n (nI kd) (nI (pegN B L (s4F B L (s3F B L n p)))) (nI (ageN B L (s3F B L n p))) (nI (nbF B L (s2F B L n p).2)), n + 1) := by
            unfold perF finF
            rw [if_pos z6]
          rw [eF] at k
          have fr : FR 61 62 gH gN := by
            rw [eN6, eN5, eN4, eN3, eN2, eN1]
            exact FR.tr (FR.tr (FR.tr (FR.tr (FR.tr (FR.ui (by decide)) (FR.ui (by decide))) (FR.ui (by decide))) (FR.ui (by decide))) (FR.ui (by decide))) (FR.ui (by decide))
          have mN := mH.r fr
          refine k gN (TH.fx (FX.r fr)) ⟨show MG B L (true, _) gN by rw [← z6]; exact mN, ?_⟩ (FX.tr XH (FX.r fr))
          have hh := madm61 (kd := nI kd) (pg := nI (pegN B L (s4F B L (s3F B L n p)))) (ag := nI (ageN B L (s3F B L n p))) (pl := nI (nbF B L (s2F B L n p).2)) hH zn
          rw [eN6, eN5, eN4, eN3, eN2, eN1]
          exact hh
    · have h_53 := pg_b1 h_53
      refine go_aload_n (pc' := 57) dX7_wantOne_56 rfl rfl ?_
      refine go_iconst (pc' := 58) 0 dX7_wantOne_57 rfl (by decide) ?_
      refine go_bipush (pc' := 60) 99 dX7_wantOne_58 rfl (by decide) ?_
      refine go_cVi2 (pc' := 63) (M' := mX7_wantNumber) (d' := 4) dX7_wantOne_60 rfl cvRX7_158 rfl rfl (by decide) rfl (Nat.le_of_ble_eq_true rfl) ?_
      have eM : mayF B L 17 (s3F B L n p) = (true, enF B L (s3F B L n p).2) := if_pos h_53
      rw [eM] at mD
      refine tX7_wantNumber (c := 99) TD mD (by decide) rfl (fun v2 gE TE mE hv2 FE => ?_)
      have XE := FX.tr XD (FX.w FE)
      have hE := hD.fw FE (by decide)
      refine go_goto (pc' := 67) dX7_wantOne_63 (by decide) ?_
      refine go_istore_n (pc' := 68) dX7_wantOne_67 rfl (by decide) rfl ?_
      have eE : s4F B L (s3F B L n p) = wNum B L 99 (true, enF B L (s3F B L n p).2) := if_pos h_53
      have mE : MG B L (s4F B L (s3F B L n p)) gE := by rw [eE]; exact mE
      have va : (s4F B L (s3F B L n p)).1 = true → v2 = nI (ageN B L (s3F B L n p)) := fun q => by
        have q2 := (s4_1 q).2
        unfold ageN at q2 ⊢
        rw [if_pos h_53] at q2 ⊢
        exact hv2 rfl q2
      refine go_aload_n (pc' := 69) dX7_wantOne_68 rfl rfl ?_
      refine go_ldc2 (pc' := 72) dX7_wantOne_69 rfl clRX7_167 ?_
      refine go_cVi1 (pc' := 75) (M' := mX7_may) (d' := 4) dX7_wantOne_72 rfl cvRX7_164 rfl rfl (by decide) rfl (Nat.le_of_ble_eq_true rfl) ?_
      refine tX7_may (c := 18) TE mE (by decide) (by decide +kernel) (fun gF TF mF FF => ?_)
      have XF := FX.tr XE (FX.w FF)
      have hF := hE.fw FF (by decide)
      refine go_if_eq (pc' := 78) (tgt := 85) dX7_wantOne_75 rfl (by decide) (fun h_75 => ?_) (fun h_75 => ?_)
      · have h_75 := pg_b0 h_75
        refine go_iconst (pc' := 86) 0 dX7_wantOne_85 rfl (by decide) ?_
        refine go_istore (pc' := 88) dX7_wantOne_86 rfl (by decide) rfl ?_
        have eG : s5F B L (s4F B L (s3F B L n p)) = s4F B L (s3F B L n p) := if_neg h_75
        have eN : mayF B L 18 (s4F B L (s3F B L n p)) = s4F B L (s3F B L n p) := if_neg h_75
        have mG : MG B L (s5F B L (s4F B L (s3F B L n p))) gF := by rw [eG, ← eN]; exact mF
        have TG := TF
        have XG := XF
        have hG := hF
        have vp : (s5F B L (s4F B L (s3F B L n p))).1 = true → (0 : Int32) = nI (pegN B L (s4F B L (s3F B L n p))) := fun _ => by unfold pegN; rw [if_neg h_75]; rfl
        refine go_aload_n (pc' := 89) dX7_wantOne_88 rfl rfl ?_
        refine go_cVv0 (pc' := 92) (M' := mX7_wantEnd) (d' := 4) dX7_wantOne_89 rfl cvRX7_172 rfl rfl (by decide) rfl (Nat.le_of_ble_eq_true rfl) ?_
        refine tX7_wantEnd TG mG (fun gH TH mH FH => ?_)
        have XH := FX.tr XG (FX.w FH)
        have hH := hG.fw FH (by decide)
        refine go_aload_n (pc' := 93) dX7_wantOne_92 rfl rfl ?_
        refine go_getI (pc' := 96) dX7_wantOne_93 rfl flRX7_138 rfl rfl ?_
        rw [mH.1]
        refine go_if_eq (pc' := 99) (tgt := 171) dX7_wantOne_96 rfl (by decide) (fun h_96 => ?_) (fun h_96 => ?_)
        · refine go_vret dX7_wantOne_171 rfl ?_
          have eF : perF B L kd T n p = .inl (wEnd B L (s5F B L (s4F B L (s3F B L n p)))).2 := by
            unfold perF finF
            rw [if_neg (pg_b0 h_96)]
          rw [eF] at k
          have ez : (wEnd B L (s5F B L (s4F B L (s3F B L n p)))).1 = false := by
            cases hz : (wEnd B L (s5F B L (s4F B L (s3F B L n p)))).1 with
            | false => rfl
            | true => exact absurd hz (pg_b0 h_96)
          exact k gH TH (show MG B L (false, _) gH by rw [← ez]; exact mH) XH
        · have z6 := pg_b1 h_96
          have z5 := wE_1 z6
          have z4 := (s5_1 z5).1
          have z3 := (s4_1 z4).1
          have z2 := wN_1 (s := s2F B L n p) z3
          have z1 : (s1F B L n p).1 = true := wW_1 z2.1
          have zn : n < 8 := by
            by_cases q : n < 8
            · exact q
            · rw [s1_n q] at z1
              exact absurd z1 (show ¬ false = true by decide)
          have va := va z4
          have vp := vp z5
          have vl := hv1 z2.1 z2.2
          refine go_bipush (pc' := 101) 13 dX7_wantOne_99 rfl (by decide) ?_
          refine go_iconst (pc' := 102) 5 dX7_wantOne_101 rfl (by decide) ?_
          refine go_aload_n (pc' := 103) dX7_wantOne_102 rfl rfl ?_
          refine go_getR (pc' := 106) dX7_wantOne_103 rfl flRX7_13 rfl rfl ?_
          refine go_iconst (pc' := 107) 5 dX7_wantOne_106 rfl (by decide) ?_
          refine go_iald (pc' := 108) 5 dX7_wantOne_107 rfl rfl rfl (by omega) (by decide) ?_
          rw [hH.people]
          refine go_imul (pc' := 109) dX7_wantOne_108 rfl ?_
          refine go_iadd (pc' := 110) dX7_wantOne_109 rfl ?_
          rw [show (13 : Int32) + 5 * nI n = nI (13 + 5 * n) by rw [show (13 : Int32) = nI 13 from rfl, show (5 : Int32) = nI 5 from rfl, pk_mul, nI_add]]
          refine go_istore (pc' := 112) dX7_wantOne_110 rfl (by decide) rfl ?_
          refine go_aload_n (pc' := 113) dX7_wantOne_112 rfl rfl ?_
          refine go_getR (pc' := 116) dX7_wantOne_113 rfl flRX7_13 rfl rfl ?_
          refine go_iload (pc' := 118) dX7_wantOne_116 rfl rfl ?_
          refine go_iload_n (pc' := 119) dX7_wantOne_118 rfl rfl ?_
          refine go_iast (pc' := 120) (13 + 5 * n + 0) dX7_wantOne_119 rfl rfl rfl (by omega) (by decide) ?_
          refine go_gen (fun gN1 eN1 => ?_)
          have nN1 : gN1.1 61 5 = nI n := by rw [eN1]; exact (rd_ui (by omega)).trans hH.people
          refine go_aload_n (pc' := 121) dX7_wantOne_120 rfl rfl ?_
          refine go_getR (pc' := 124) dX7_wantOne_121 rfl flRX7_13 rfl rfl ?_
          refine go_iload (pc' := 126) dX7_wantOne_124 rfl rfl ?_
          refine go_iconst (pc' := 127) 1 dX7_wantOne_126 rfl (by decide) ?_
          refine go_iadd (pc' := 128) dX7_wantOne_127 rfl ?_
          refine go_iload (pc' := 130) dX7_wantOne_128 rfl rfl ?_
          rw [vp]
          refine go_iast (pc' := 131) (13 + 5 * n + 1) dX7_wantOne_130 rfl rfl (by rw [show (1 : Int32) = nI 1 from rfl, nI_add]) (by omega) (by decide) ?_
          refine go_gen (fun gN2 eN2 => ?_)
          have nN2 : gN2.1 61 5 = nI n := by rw [eN2]; exact (rd_ui (by omega)).trans nN1
          refine go_aload_n (pc' := 132) dX7_wantOne_131 rfl rfl ?_
          refine go_getR (pc' := 135) dX7_wantOne_132 rfl flRX7_13 rfl rfl ?_
          refine go_iload (pc' := 137) dX7_wantOne_135 rfl rfl ?_
          refine go_iconst (pc' := 138) 2 dX7_wantOne_137 rfl (by decide) ?_
          refine go_iadd (pc' := 139) dX7_wantOne_138 rfl ?_
          refine go_iload_n (pc' := 140) dX7_wantOne_139 rfl rfl ?_
          rw [va]
          refine go_iast (pc' := 141) (13 + 5 * n + 2) dX7_wantOne_140 rfl rfl (by rw [show (2 : Int32) = nI 2 from rfl, nI_add]) (by omega) (by decide) ?_
          refine go_gen (fun gN3 eN3 => ?_)
          have nN3 : gN3.1 61 5 = nI n := by rw [eN3]; exact (rd_ui (by omega)).trans nN2
          refine go_aload_n (pc' := 142) dX7_wantOne_141 rfl rfl ?_
          refine go_getR (pc' := 145) dX7_wantOne_142 rfl flRX7_13 rfl rfl ?_
          refine go_iload (pc' := 147) dX7_wantOne_145 rfl rfl ?_
          refine go_iconst (pc' := 148) 3 dX7_wantOne_147 rfl (by decide) ?_
          refine go_iadd (pc' := 149) dX7_wantOne_148 rfl ?_
          refine go_iload_n (pc' := 150) dX7_wantOne_149 rfl rfl ?_
          rw [vl]
          refine go_iast (pc' := 151) (13 + 5 * n + 3) dX7_wantOne_150 rfl rfl (by rw [show (3 : Int32) = nI 3 from rfl, nI_add]) (by omega) (by decide) ?_
          refine go_gen (fun gN4 eN4 => ?_)
          have nN4 : gN4.1 61 5 = nI n := by rw [eN4]; exact (rd_ui (by omega)).trans nN3
          refine go_aload_n (pc' := 152) dX7_wantOne_151 rfl rfl ?_
          refine go_getR (pc' := 155) dX7_wantOne_152 rfl flRX7_13 rfl rfl ?_
          refine go_iload (pc' := 157) dX7_wantOne_155 rfl rfl ?_
          refine go_iconst (pc' := 158) 4 dX7_wantOne_157 rfl (by decide) ?_
          refine go_iadd (pc' := 159) dX7_wantOne_158 rfl ?_
          refine go_iconst (pc' := 160) 0 dX7_wantOne_159 rfl (by decide) ?_
          refine go_iast (pc' := 161) (13 + 5 * n + 4) dX7_wantOne_160 rfl rfl (by rw [show (4 : Int32) = nI 4 from rfl, nI_add]) (by omega) (by decide) ?_
          refine go_gen (fun gN5 eN5 => ?_)
          have nN5 : gN5.1 61 5 = nI n := by rw [eN5]; exact (rd_ui (by omega)).trans nN4
          refine go_aload_n (pc' := 162) dX7_wantOne_161 rfl rfl ?_
          refine go_getR (pc' := 165) dX7_wantOne_162 rfl flRX7_13 rfl rfl ?_
          refine go_iconst (pc' := 166) 5 dX7_wantOne_165 rfl (by decide) ?_
          refine go_dup2 (pc' := 167) dX7_wantOne_166 rfl rfl rfl ?_
          refine go_iald (pc' := 168) 5 dX7_wantOne_167 rfl rfl rfl (by omega) (by decide) ?_
          rw [nN5]
          refine go_iconst (pc' := 169) 1 dX7_wantOne_168 rfl (by decide) ?_
          refine go_iadd (pc' := 170) dX7_wantOne_169 rfl ?_
          rw [nI_1]
          refine go_iast (pc' := 171) 5 dX7_wantOne_170 rfl rfl rfl (by omega) (by decide) ?_
          refine go_gen (fun gN eN6 => ?_)
          refine go_vret dX7_wantOne_171 rfl ?_
          have eF : perF B L kd T n p = .inr ((wEnd B L (s5F B L (s4F B L (s3F B L n p)))).2, admF T n (nI kd) (nI (pegN B L (s4F B L (s3F B L n p)))) (nI (ageN B L (s3F B L n p))) (nI (nbF B L (s2F B L n p).2)), n + 1) := by
            unfold perF finF
            rw [if_pos z6]
          rw [eF] at k
          have fr : FR 61 62 gH gN := by
            rw [eN6, eN5, eN4, eN3, eN2, eN1]
            exact FR.tr (FR.tr (FR.tr (FR.tr (FR.tr (FR.ui (by decide)) (FR.ui (by decide))) (FR.ui (by decide))) (FR.ui (by decide))) (FR.ui (by decide))) (FR.ui (by decide))
          have mN := mH.r fr
          refine k gN (TH.fx (FX.r fr)) ⟨show MG B L (true, _) gN by rw [← z6]; exact mN, ?_⟩ (FX.tr XH (FX.r fr))
          have hh := madm61 (kd := nI kd) (pg := nI (pegN B L (s4F B L (s3F B L n p)))) (ag := nI (ageN B L (s3F B L n p))) (pl := nI (nbF B L (s2F B L n p).2)) hH zn
          rw [eN6, eN5, eN4, eN3, eN2, eN1]
          exact hh
      · have h_75 := pg_b1 h_75
        refine go_aload_n (pc' := 79) dX7_wantOne_78 rfl rfl ?_
        refine go_cVi0 (pc' := 82) (M' := mX7_wantPeg) (d' := 4) dX7_wantOne_79 rfl cvRX7_169 rfl rfl (by decide) rfl (Nat.le_of_ble_eq_true rfl) ?_
        have eN : mayF B L 18 (s4F B L (s3F B L n p)) = (true, enF B L (s4F B L (s3F B L n p)).2) := if_pos h_75
        rw [eN] at mF
        refine tX7_wantPeg TF mF (fun v3 gG TG mG hv3 FG => ?_)
        have XG := FX.tr XF (FX.w FG)
        have hG := hF.fw FG (by decide)
        refine go_goto (pc' := 86) dX7_wantOne_82 (by decide) ?_
        refine go_istore (pc' := 88) dX7_wantOne_86 rfl (by decide) rfl ?_
        have eG : s5F B L (s4F B L (s3F B L n p)) = wPeg B L (true, enF B L (s4F B L (s3F B L n p)).2) := if_pos h_75
        have mG : MG B L (s5F B L (s4F B L (s3F B L n p))) gG := by rw [eG]; exact mG
        have vp : (s5F B L (s4F B L (s3F B L n p))).1 = true → v3 = nI (pegN B L (s4F B L (s3F B L n p))) := fun q => by
          rw [eG] at q
          unfold pegN
          rw [if_pos h_75]
          unfold wPeg at q
          by_cases z : 6 ≤ tnF B L (enF B L (s4F B L (s3F B L n p)).2) ∧ tnF B L (enF B L (s4F B L (s3F B L n p)).2) < 12
          · exact hv3 rfl z
          · rw [if_neg (fun y => z y.2)] at q
            exact absurd q (show ¬ false = true by decide)
        refine go_aload_n (pc' := 89) dX7_wantOne_88 rfl rfl ?_
        refine go_cVv0 (pc' := 92) (M' := mX7_wantEnd) (d' := 4) dX7_wantOne_89 rfl cvRX7_172 rfl rfl (by decide) rfl (Nat.le_of_ble_eq_true rfl) ?_
        refine tX7_wantEnd TG mG (fun gH TH mH FH => ?_)
        have XH := FX.tr XG (FX.w FH)
        have hH := hG.fw FH (by decide)
        refine go_aload_n (pc' := 93) dX7_wantOne_92 rfl rfl ?_
        refine go_getI (pc' := 96) dX7_wantOne_93 rfl flRX7_138 rfl rfl ?_
        rw [mH.1]
        refine go_if_eq (pc' := 99) (tgt := 171) dX7_wantOne_96 rfl (by decide) (fun h_96 => ?_) (fun h_96 => ?_)
        · refine go_vret dX7_wantOne_171 rfl ?_
          have eF : perF B L kd T n p = .inl (wEnd B L (s5F B L (s4F B L (s3F B L n p)))).2 := by
            unfold perF finF
            rw [if_neg (pg_b0 h_96)]
          rw [eF] at k
          have ez : (wEnd B L (s5F B L (s4F B L (s3F B L n p)))).1 = false := by
            cases hz : (wEnd B L (s5F B L (s4F B L (s3F B L n p)))).1 with
            | false => rfl
            | true => exact absurd hz (pg_b0 h_96)
          exact k gH TH (show MG B L (false, _) gH by rw [← ez]; exact mH) XH
        · have z6 := pg_b1 h_96
          have z5 := wE_1 z6
          have z4 := (s5_1 z5).1
          have z3 := (s4_1 z4).1
          have z2 := wN_1 (s := s2F B L n p) z3
          have z1 : (s1F B L n p).1 = true := wW_1 z2.1
          have zn : n < 8 := by
            by_cases q : n < 8
            · exact q
            · rw [s1_n q] at z1
              exact absurd z1 (show ¬ false = true by decide)
          have va := va z4
          have vp := vp z5
          have vl := hv1 z2.1 z2.2
          refine go_bipush (pc' := 101) 13 dX7_wantOne_99 rfl (by decide) ?_
          refine go_iconst (pc' := 102) 5 dX7_wantOne_101 rfl (by decide) ?_
          refine go_aload_n (pc' := 103) dX7_wantOne_102 rfl rfl ?_
          refine go_getR (pc' := 106) dX7_wantOne_103 rfl flRX7_13 rfl rfl ?_
          refine go_iconst (pc' := 107) 5 dX7_wantOne_106 rfl (by decide) ?_
          refine go_iald (pc' := 108) 5 dX7_wantOne_107 rfl rfl rfl (by omega) (by decide) ?_
          rw [hH.people]
          refine go_imul (pc' := 109) dX7_wantOne_108 rfl ?_
          refine go_iadd (pc' := 110) dX7_wantOne_109 rfl ?_
          rw [show (13 : Int32) + 5 * nI n = nI (13 + 5 * n) by rw [show (13 : Int32) = nI 13 from rfl, show (5 : Int32) = nI 5 from rfl, pk_mul, nI_add]]
          refine go_istore (pc' := 112) dX7_wantOne_110 rfl (by decide) rfl ?_
          refine go_aload_n (pc' := 113) dX7_wantOne_112 rfl rfl ?_
          refine go_getR (pc' := 116) dX7_wantOne_113 rfl flRX7_13 rfl rfl ?_
          refine go_iload (pc' := 118) dX7_wantOne_116 rfl rfl ?_
          refine go_iload_n (pc' := 119) dX7_wantOne_118 rfl rfl ?_
          refine go_iast (pc' := 120) (13 + 5 * n + 0) dX7_wantOne_119 rfl rfl rfl (by omega) (by decide) ?_
          refine go_gen (fun gN1 eN1 => ?_)
          have nN1 : gN1.1 61 5 = nI n := by rw [eN1]; exact (rd_ui (by omega)).trans hH.people
          refine go_aload_n (pc' := 121) dX7_wantOne_120 rfl rfl ?_
          refine go_getR (pc' := 124) dX7_wantOne_121 rfl flRX7_13 rfl rfl ?_
          refine go_iload (pc' := 126) dX7_wantOne_124 rfl rfl ?_
          refine go_iconst (pc' := 127) 1 dX7_wantOne_126 rfl (by decide) ?_
          refine go_iadd (pc' := 128) dX7_wantOne_127 rfl ?_
          refine go_iload (pc' := 130) dX7_wantOne_128 rfl rfl ?_
          rw [vp]
          refine go_iast (pc' := 131) (13 + 5 * n + 1) dX7_wantOne_130 rfl rfl (by rw [show (1 : Int32) = nI 1 from rfl, nI_add]) (by omega) (by decide) ?_
          refine go_gen (fun gN2 eN2 => ?_)
          have nN2 : gN2.1 61 5 = nI n := by rw [eN2]; exact (rd_ui (by omega)).trans nN1
          refine go_aload_n (pc' := 132) dX7_wantOne_131 rfl rfl ?_
          refine go_getR (pc' := 135) dX7_wantOne_132 rfl flRX7_13 rfl rfl ?_
          refine go_iload (pc' := 137) dX7_wantOne_135 rfl rfl ?_
          refine go_iconst (pc' := 138) 2 dX7_wantOne_137 rfl (by decide) ?_
          refine go_iadd (pc' := 139) dX7_wantOne_138 rfl ?_
          refine go_iload_n (pc' := 140) dX7_wantOne_139 rfl rfl ?_
          rw [va]
          refine go_iast (pc' := 141) (13 + 5 * n + 2) dX7_wantOne_140 rfl rfl (by rw [show (2 : Int32) = nI 2 from rfl, nI_add]) (by omega) (by decide) ?_
          refine go_gen (fun gN3 eN3 => ?_)
          have nN3 : gN3.1 61 5 = nI n := by rw [eN3]; exact (rd_ui (by omega)).trans nN2
          refine go_aload_n (pc' := 142) dX7_wantOne_141 rfl rfl ?_
          refine go_getR (pc' := 145) dX7_wantOne_142 rfl flRX7_13 rfl rfl ?_
          refine go_iload (pc' := 147) dX7_wantOne_145 rfl rfl ?_
          refine go_iconst (pc' := 148) 3 dX7_wantOne_147 rfl (by decide) ?_
          refine go_iadd (pc' := 149) dX7_wantOne_148 rfl ?_
          refine go_iload_n (pc' := 150) dX7_wantOne_149 rfl rfl ?_
          rw [vl]
          refine go_iast (pc' := 151) (13 + 5 * n + 3) dX7_wantOne_150 rfl rfl (by rw [show (3 : Int32) = nI 3 from rfl, nI_add]) (by omega) (by decide) ?_
          refine go_gen (fun gN4 eN4 => ?_)
          have nN4 : gN4.1 61 5 = nI n := by rw [eN4]; exact (rd_ui (by omega)).trans nN3
          refine go_aload_n (pc' := 152) dX7_wantOne_151 rfl rfl ?_
          refine go_getR (pc' := 155) dX7_wantOne_152 rfl flRX7_13 rfl rfl ?_
          refine go_iload (pc' := 157) dX7_wantOne_155 rfl rfl ?_
          refine go_iconst (pc' := 158) 4 dX7_wantOne_157 rfl (by decide) ?_
          refine go_iadd (pc' := 159) dX7_wantOne_158 rfl ?_
          refine go_iconst (pc' := 160) 0 dX7_wantOne_159 rfl (by decide) ?_
          refine go_iast (pc' := 161) (13 + 5 * n + 4) dX7_wantOne_160 rfl rfl (by rw [show (4 : Int32) = nI 4 from rfl, nI_add]) (by omega) (by decide) ?_
          refine go_gen (fun gN5 eN5 => ?_)
          have nN5 : gN5.1 61 5 = nI n := by rw [eN5]; exact (rd_ui (by omega)).trans nN4
          refine go_aload_n (pc' := 162) dX7_wantOne_161 rfl rfl ?_
          refine go_getR (pc' := 165) dX7_wantOne_162 rfl flRX7_13 rfl rfl ?_
          refine go_iconst (pc' := 166) 5 dX7_wantOne_165 rfl (by decide) ?_
          refine go_dup2 (pc' := 167) dX7_wantOne_166 rfl rfl rfl ?_
          refine go_iald (pc' := 168) 5 dX7_wantOne_167 rfl rfl rfl (by omega) (by decide) ?_
          rw [nN5]
          refine go_iconst (pc' := 169) 1 dX7_wantOne_168 rfl (by decide) ?_
          refine go_iadd (pc' := 170) dX7_wantOne_169 rfl ?_
          rw [nI_1]
          refine go_iast (pc' := 171) 5 dX7_wantOne_170 rfl rfl rfl (by omega) (by decide) ?_
          refine go_gen (fun gN eN6 => ?_)
          refine go_vret dX7_wantOne_171 rfl ?_
          have eF : perF B L kd T n p = .inr ((wEnd B L (s5F B L (s4F B L (s3F B L n p)))).2, admF T n (nI kd) (nI (pegN B L (s4F B L (s3F B L n p)))) (nI (ageN B L (s3F B L n p))) (nI (nbF B L (s2F B L n p).2)), n + 1) := by
            unfold perF finF
            rw [if_pos z6]
          rw [eF] at k
          have fr : FR 61 62 gH gN := by
            rw [eN6, eN5, eN4, eN3, eN2, eN1]
            exact FR.tr (FR.tr (FR.tr (FR.tr (FR.tr (FR.ui (by decide)) (FR.ui (by decide))) (FR.ui (by decide))) (FR.ui (by decide))) (FR.ui (by decide))) (FR.ui (by decide))
          have mN := mH.r fr
          refine k gN (TH.fx (FX.r fr)) ⟨show MG B L (true, _) gN by rw [← z6]; exact mN, ?_⟩ (FX.tr XH (FX.r fr))
          have hh := madm61 (kd := nI kd) (pg := nI (pegN B L (s4F B L (s3F B L n p)))) (ag := nI (ageN B L (s3F B L n p))) (pl := nI (nbF B L (s2F B L n p).2)) hH zn
          rw [eN6, eN5, eN4, eN3, eN2, eN1]
          exact hh
  · refine go_iconst (pc' := 13) 1 dX7_wantOne_12 rfl (by decide) ?_
    refine go_goto (pc' := 17) dX7_wantOne_13 (by decide) ?_
    refine go_putZ (pc' := 20) (by decide) dX7_wantOne_17 rfl flRX7_138 rfl rfl ft7_12 ?_
    refine go_gen (fun g1 e1 => ?_)
    have F1 : FW [7, 8, 9, 11, 12] g g1 := by rw [e1]; exact FW.ui (by decide)
    have T1 := h.fw F1 (by decide)
    have g12 : g1.1 59 12 = 1 := by rw [e1]; simp [pg_ui_at]
    refine go_aload_n (pc' := 21) dX7_wantOne_20 rfl rfl ?_
    refine go_getI (pc' := 24) dX7_wantOne_21 rfl flRX7_138 rfl rfl ?_
    rw [g12]
    refine go_if_eq (pc' := 27) (tgt := 31) dX7_wantOne_24 rfl (by decide) (fun h_24 => absurd h_24 (by decide)) (fun h_24 => ?_)
    refine go_aload_n (pc' := 28) dX7_wantOne_27 rfl rfl ?_
    refine go_cVv0 (pc' := 31) (M' := mX7_advance) (d' := 3) dX7_wantOne_28 rfl cvRX7_142 rfl rfl (by decide) rfl (Nat.le_of_ble_eq_true rfl) ?_
    refine tX7_advance T1 (by rw [e1]; exact m2.good.1) (en_le m3) (fun g2 T2 a2 f2 => ?_)
    have hn8 : n < 8 := by
      rcases Nat.lt_or_ge n 8 with q | q
      · exact q
      · exact absurd (nI_le (a := 8) q (by omega)) h_9
    have mA : MG B L (s1F B L n p) g2 := by
      rw [s1_y hn8]
      exact ⟨(f2.2.1 12 (by decide)).trans g12, a2, en_le m3⟩
    have TA := T2
    have F2 : FW [7, 8, 9, 11, 12] g g2 := FW.tr F1 (f2.wd (by decide))
    have XA : FX g g2 := FX.w F2
    have hA := hR.fw F2 (by decide)
    refine go_aload_n (pc' := 32) dX7_wantOne_31 rfl rfl ?_
    refine go_ldc2 (pc' := 35) dX7_wantOne_32 rfl clRX7_152 ?_
    refine go_cVv1 (pc' := 38) (M' := mX7_wantWord) (d' := 4) dX7_wantOne_35 rfl cvRX7_154 rfl rfl (by decide) rfl (Nat.le_of_ble_eq_true rfl) ?_
    refine tX7_wantWord (c := 16) TA mA (by decide) (by decide +kernel) (fun gB TB mB FB => ?_)
    have mB : MG B L (s2F B L n p) gB := mB
    have XB := FX.tr XA (FX.w FB)
    have hB := hA.fw FB (by decide)
    refine go_aload_n (pc' := 39) dX7_wantOne_38 rfl rfl ?_
    refine go_iconst (pc' := 40) 0 dX7_wantOne_39 rfl (by decide) ?_
    refine go_bipush (pc' := 42) 11 dX7_wantOne_40 rfl (by decide) ?_
    refine go_cVi2 (pc' := 45) (M' := mX7_wantNumber) (d' := 4) dX7_wantOne_42 rfl cvRX7_158 rfl rfl (by decide) rfl (Nat.le_of_ble_eq_true rfl) ?_
    refine tX7_wantNumber (c := 11) TB mB (by decide) rfl (fun v1 gC TC mC hv1 FC => ?_)
    have mC : MG B L (s3F B L n p) gC := mC
    have XC := FX.tr XB (FX.w FC)
    have hC := hB.fw FC (by decide)
    refine go_istore_n (pc' := 46) dX7_wantOne_45 rfl (by decide) rfl ?_
    refine go_aload_n (pc' := 47) dX7_wantOne_46 rfl rfl ?_
    refine go_ldc2 (pc' := 50) dX7_wantOne_47 rfl clRX7_162 ?_
    refine go_cVi1 (pc' := 53) (M' := mX7_may) (d' := 4) dX7_wantOne_50 rfl cvRX7_164 rfl rfl (by decide) rfl (Nat.le_of_ble_eq_true rfl) ?_
    refine tX7_may (c := 17) TC mC (by decide) (by decide +kernel) (fun gD TD mD FD => ?_)
    have XD := FX.tr XC (FX.w FD)
    have hD := hC.fw FD (by decide)
    refine go_if_eq (pc' := 56) (tgt := 66) dX7_wantOne_53 rfl (by decide) (fun h_53 => ?_) (fun h_53 => ?_)
    · have h_53 := pg_b0 h_53
      refine go_iconst (pc' := 67) 0 dX7_wantOne_66 rfl (by decide) ?_
      refine go_istore_n (pc' := 68) dX7_wantOne_67 rfl (by decide) rfl ?_
      have eE : s4F B L (s3F B L n p) = s3F B L n p := if_neg h_53
      have eM : mayF B L 17 (s3F B L n p) = s3F B L n p := if_neg h_53
      have mE : MG B L (s4F B L (s3F B L n p)) gD := by rw [eE, ← eM]; exact mD
      have TE := TD
      have XE := XD
      have hE := hD
      have va : (s4F B L (s3F B L n p)).1 = true → (0 : Int32) = nI (ageN B L (s3F B L n p)) := fun _ => by unfold ageN; rw [if_neg h_53]; rfl
      refine go_aload_n (pc' := 69) dX7_wantOne_68 rfl rfl ?_
      refine go_ldc2 (pc' := 72) dX7_wantOne_69 rfl clRX7_167 ?_
      refine go_cVi1 (pc' := 75) (M' := mX7_may) (d' := 4) dX7_wantOne_72 rfl cvRX7_164 rfl rfl (by decide) rfl (Nat.le_of_ble_eq_true rfl) ?_
      refine tX7_may (c := 18) TE mE (by decide) (by decide +kernel) (fun gF TF mF FF => ?_)
      have XF := FX.tr XE (FX.w FF)
      have hF := hE.fw FF (by decide)
      refine go_if_eq (pc' := 78) (tgt := 85) dX7_wantOne_75 rfl (by decide) (fun h_75 => ?_) (fun h_75 => ?_)
      · have h_75 := pg_b0 h_75
        refine go_iconst (pc' := 86) 0 dX7_wantOne_85 rfl (by decide) ?_
        refine go_istore (pc' := 88) dX7_wantOne_86 rfl (by decide) rfl ?_
        have eG : s5F B L (s4F B L (s3F B L n p)) = s4F B L (s3F B L n p) := if_neg h_75
        have eN : mayF B L 18 (s4F B L (s3F B L n p)) = s4F B L (s3F B L n p) := if_neg h_75
        have mG : MG B L (s5F B L (s4F B L (s3F B L n p))) gF := by rw [eG, ← eN]; exact mF
        have TG := TF
        have XG := XF
        have hG := hF
        have vp : (s5F B L (s4F B L (s3F B L n p))).1 = true → (0 : Int32) = nI (pegN B L (s4F B L (s3F B L n p))) := fun _ => by unfold pegN; rw [if_neg h_75]; rfl
        refine go_aload_n (pc' := 89) dX7_wantOne_88 rfl rfl ?_
        refine go_cVv0 (pc' := 92) (M' := mX7_wantEnd) (d' := 4) dX7_wantOne_89 rfl cvRX7_172 rfl rfl (by decide) rfl (Nat.le_of_ble_eq_true rfl) ?_
        refine tX7_wantEnd TG mG (fun gH TH mH FH => ?_)
        have XH := FX.tr XG (FX.w FH)
        have hH := hG.fw FH (by decide)
        refine go_aload_n (pc' := 93) dX7_wantOne_92 rfl rfl ?_
        refine go_getI (pc' := 96) dX7_wantOne_93 rfl flRX7_138 rfl rfl ?_
        rw [mH.1]
        refine go_if_eq (pc' := 99) (tgt := 171) dX7_wantOne_96 rfl (by decide) (fun h_96 => ?_) (fun h_96 => ?_)
        · refine go_vret dX7_wantOne_171 rfl ?_
          have eF : perF B L kd T n p = .inl (wEnd B L (s5F B L (s4F B L (s3F B L n p)))).2 := by
            unfold perF finF
            rw [if_neg (pg_b0 h_96)]
          rw [eF] at k
          have ez : (wEnd B L (s5F B L (s4F B L (s3F B L n p)))).1 = false := by
            cases hz : (wEnd B L (s5F B L (s4F B L (s3F B L n p)))).1 with
            | false => rfl
            | true => exact absurd hz (pg_b0 h_96)
          exact k gH TH (show MG B L (false, _) gH by rw [← ez]; exact mH) XH
        · have z6 := pg_b1 h_96
          have z5 := wE_1 z6
          have z4 := (s5_1 z5).1
          have z3 := (s4_1 z4).1
          have z2 := wN_1 (s := s2F B L n p) z3
          have z1 : (s1F B L n p).1 = true := wW_1 z2.1
          have zn : n < 8 := by
            by_cases q : n < 8
            · exact q
            · rw [s1_n q] at z1
              exact absurd z1 (show ¬ false = true by decide)
          have va := va z4
          have vp := vp z5
          have vl := hv1 z2.1 z2.2
          refine go_bipush (pc' := 101) 13 dX7_wantOne_99 rfl (by decide) ?_
          refine go_iconst (pc' := 102) 5 dX7_wantOne_101 rfl (by decide) ?_
          refine go_aload_n (pc' := 103) dX7_wantOne_102 rfl rfl ?_
          refine go_getR (pc' := 106) dX7_wantOne_103 rfl flRX7_13 rfl rfl ?_
          refine go_iconst (pc' := 107) 5 dX7_wantOne_106 rfl (by decide) ?_
          refine go_iald (pc' := 108) 5 dX7_wantOne_107 rfl rfl rfl (by omega) (by decide) ?_
          rw [hH.people]
          refine go_imul (pc' := 109) dX7_wantOne_108 rfl ?_
          refine go_iadd (pc' := 110) dX7_wantOne_109 rfl ?_
          rw [show (13 : Int32) + 5 * nI n = nI (13 + 5 * n) by rw [show (13 : Int32) = nI 13 from rfl, show (5 : Int32) = nI 5 from rfl, pk_mul, nI_add]]
          refine go_istore (pc' := 112) dX7_wantOne_110 rfl (by decide) rfl ?_
          refine go_aload_n (pc' := 113) dX7_wantOne_112 rfl rfl ?_
          refine go_getR (pc' := 116) dX7_wantOne_113 rfl flRX7_13 rfl rfl ?_
          refine go_iload (pc' := 118) dX7_wantOne_116 rfl rfl ?_
          refine go_iload_n (pc' := 119) dX7_wantOne_118 rfl rfl ?_
          refine go_iast (pc' := 120) (13 + 5 * n + 0) dX7_wantOne_119 rfl rfl rfl (by omega) (by decide) ?_
          refine go_gen (fun gN1 eN1 => ?_)
          have nN1 : gN1.1 61 5 = nI n := by rw [eN1]; exact (rd_ui (by omega)).trans hH.people
          refine go_aload_n (pc' := 121) dX7_wantOne_120 rfl rfl ?_
          refine go_getR (pc' := 124) dX7_wantOne_121 rfl flRX7_13 rfl rfl ?_
          refine go_iload (pc' := 126) dX7_wantOne_124 rfl rfl ?_
          refine go_iconst (pc' := 127) 1 dX7_wantOne_126 rfl (by decide) ?_
          refine go_iadd (pc' := 128) dX7_wantOne_127 rfl ?_
          refine go_iload (pc' := 130) dX7_wantOne_128 rfl rfl ?_
          rw [vp]
          refine go_iast (pc' := 131) (13 + 5 * n + 1) dX7_wantOne_130 rfl rfl (by rw [show (1 : Int32) = nI 1 from rfl, nI_add]) (by omega) (by decide) ?_
          refine go_gen (fun gN2 eN2 => ?_)
          have nN2 : gN2.1 61 5 = nI n := by rw [eN2]; exact (rd_ui (by omega)).trans nN1
          refine go_aload_n (pc' := 132) dX7_wantOne_131 rfl rfl ?_
          refine go_getR (pc' := 135) dX7_wantOne_132 rfl flRX7_13 rfl rfl ?_
          refine go_iload (pc' := 137) dX7_wantOne_135 rfl rfl ?_
          refine go_iconst (pc' := 138) 2 dX7_wantOne_137 rfl (by decide) ?_
          refine go_iadd (pc' := 139) dX7_wantOne_138 rfl ?_
          refine go_iload_n (pc' := 140) dX7_wantOne_139 rfl rfl ?_
          rw [← vp, va]
          refine go_iast (pc' := 141) (13 + 5 * n + 2) dX7_wantOne_140 rfl rfl (by rw [show (2 : Int32) = nI 2 from rfl, nI_add]) (by omega) (by decide) ?_
          refine go_gen (fun gN3 eN3 => ?_)
          have nN3 : gN3.1 61 5 = nI n := by rw [eN3]; exact (rd_ui (by omega)).trans nN2
          refine go_aload_n (pc' := 142) dX7_wantOne_141 rfl rfl ?_
          refine go_getR (pc' := 145) dX7_wantOne_142 rfl flRX7_13 rfl rfl ?_
          refine go_iload (pc' := 147) dX7_wantOne_145 rfl rfl ?_
          refine go_iconst (pc' := 148) 3 dX7_wantOne_147 rfl (by decide) ?_
          refine go_iadd (pc' := 149) dX7_wantOne_148 rfl ?_
          refine go_iload_n (pc' := 150) dX7_wantOne_149 rfl rfl ?_
          rw [vl]
          refine go_iast (pc' := 151) (13 + 5 * n + 3) dX7_wantOne_150 rfl rfl (by rw [show (3 : Int32) = nI 3 from rfl, nI_add]) (by omega) (by decide) ?_
          refine go_gen (fun gN4 eN4 => ?_)
          have nN4 : gN4.1 61 5 = nI n := by rw [eN4]; exact (rd_ui (by omega)).trans nN3
          refine go_aload_n (pc' := 152) dX7_wantOne_151 rfl rfl ?_
          refine go_getR (pc' := 155) dX7_wantOne_152 rfl flRX7_13 rfl rfl ?_
          refine go_iload (pc' := 157) dX7_wantOne_155 rfl rfl ?_
          refine go_iconst (pc' := 158) 4 dX7_wantOne_157 rfl (by decide) ?_
          refine go_iadd (pc' := 159) dX7_wantOne_158 rfl ?_
          refine go_iconst (pc' := 160) 0 dX7_wantOne_159 rfl (by decide) ?_
          refine go_iast (pc' := 161) (13 + 5 * n + 4) dX7_wantOne_160 rfl rfl (by rw [show (4 : Int32) = nI 4 from rfl, nI_add]) (by omega) (by decide) ?_
          refine go_gen (fun gN5 eN5 => ?_)
          have nN5 : gN5.1 61 5 = nI n := by rw [eN5]; exact (rd_ui (by omega)).trans nN4
          refine go_aload_n (pc' := 162) dX7_wantOne_161 rfl rfl ?_
          refine go_getR (pc' := 165) dX7_wantOne_162 rfl flRX7_13 rfl rfl ?_
          refine go_iconst (pc' := 166) 5 dX7_wantOne_165 rfl (by decide) ?_
          refine go_dup2 (pc' := 167) dX7_wantOne_166 rfl rfl rfl ?_
          refine go_iald (pc' := 168) 5 dX7_wantOne_167 rfl rfl rfl (by omega) (by decide) ?_
          rw [nN5]
          refine go_iconst (pc' := 169) 1 dX7_wantOne_168 rfl (by decide) ?_
          refine go_iadd (pc' := 170) dX7_wantOne_169 rfl ?_
          rw [nI_1]
          refine go_iast (pc' := 171) 5 dX7_wantOne_170 rfl rfl rfl (by omega) (by decide) ?_
          refine go_gen (fun gN eN6 => ?_)
          refine go_vret dX7_wantOne_171 rfl ?_
          have eF : perF B L kd T n p = .inr ((wEnd B L (s5F B L (s4F B L (s3F B L n p)))).2, admF T n (nI kd) (nI (pegN B L (s4F B L (s3F B L n p)))) (nI (ageN B L (s3F B L n p))) (nI (nbF B L (s2F B L n p).2)), n + 1) := by
            unfold perF finF
            rw [if_pos z6]
          rw [eF] at k
          have fr : FR 61 62 gH gN := by
            rw [eN6, eN5, eN4, eN3, eN2, eN1]
            exact FR.tr (FR.tr (FR.tr (FR.tr (FR.tr (FR.ui (by decide)) (FR.ui (by decide))) (FR.ui (by decide))) (FR.ui (by decide))) (FR.ui (by decide))) (FR.ui (by decide))
          have mN := mH.r fr
          refine k gN (TH.fx (FX.r fr)) ⟨show MG B L (true, _) gN by rw [← z6]; exact mN, ?_⟩ (FX.tr XH (FX.r fr))
          have hh := madm61 (kd := nI kd) (pg := nI (pegN B L (s4F B L (s3F B L n p)))) (ag := nI (ageN B L (s3F B L n p))) (pl := nI (nbF B L (s2F B L n p).2)) hH zn
          rw [eN6, eN5, eN4, eN3, eN2, eN1]
          exact hh
      · have h_75 := pg_b1 h_75
        refine go_aload_n (pc' := 79) dX7_wantOne_78 rfl rfl ?_
        refine go_cVi0 (pc' := 82) (M' := mX7_wantPeg) (d' := 4) dX7_wantOne_79 rfl cvRX7_169 rfl rfl (by decide) rfl (Nat.le_of_ble_eq_true rfl) ?_
        have eN : mayF B L 18 (s4F B L (s3F B L n p)) = (true, enF B L (s4F B L (s3F B L n p)).2) := if_pos h_75
        rw [eN] at mF
        refine tX7_wantPeg TF mF (fun v3 gG TG mG hv3 FG => ?_)
        have XG := FX.tr XF (FX.w FG)
        have hG := hF.fw FG (by decide)
        refine go_goto (pc' := 86) dX7_wantOne_82 (by decide) ?_
        refine go_istore (pc' := 88) dX7_wantOne_86 rfl (by decide) rfl ?_
        have eG : s5F B L (s4F B L (s3F B L n p)) = wPeg B L (true, enF B L (s4F B L (s3F B L n p)).2) := if_pos h_75
        have mG : MG B L (s5F B L (s4F B L (s3F B L n p))) gG := by rw [eG]; exact mG
        have vp : (s5F B L (s4F B L (s3F B L n p))).1 = true → v3 = nI (pegN B L (s4F B L (s3F B L n p))) := fun q => by
          rw [eG] at q
          unfold pegN
          rw [if_pos h_75]
          unfold wPeg at q
          by_cases z : 6 ≤ tnF B L (enF B L (s4F B L (s3F B L n p)).2) ∧ tnF B L (enF B L (s4F B L (s3F B L n p)).2) < 12
          · exact hv3 rfl z
          · rw [if_neg (fun y => z y.2)] at q
            exact absurd q (show ¬ false = true by decide)
        refine go_aload_n (pc' := 89) dX7_wantOne_88 rfl rfl ?_
        refine go_cVv0 (pc' := 92) (M' := mX7_wantEnd) (d' := 4) dX7_wantOne_89 rfl cvRX7_172 rfl rfl (by decide) rfl (Nat.le_of_ble_eq_true rfl) ?_
        refine tX7_wantEnd TG mG (fun gH TH mH FH => ?_)
        have XH := FX.tr XG (FX.w FH)
        have hH := hG.fw FH (by decide)
        refine go_aload_n (pc' := 93) dX7_wantOne_92 rfl rfl ?_
        refine go_getI (pc' := 96) dX7_wantOne_93 rfl flRX7_138 rfl rfl ?_
        rw [mH.1]
        refine go_if_eq (pc' := 99) (tgt := 171) dX7_wantOne_96 rfl (by decide) (fun h_96 => ?_) (fun h_96 => ?_)
        · refine go_vret dX7_wantOne_171 rfl ?_
          have eF : perF B L kd T n p = .inl (wEnd B L (s5F B L (s4F B L (s3F B L n p)))).2 := by
            unfold perF finF
            rw [if_neg (pg_b0 h_96)]
          rw [eF] at k
          have ez : (wEnd B L (s5F B L (s4F B L (s3F B L n p)))).1 = false := by
            cases hz : (wEnd B L (s5F B L (s4F B L (s3F B L n p)))).1 with
            | false => rfl
            | true => exact absurd hz (pg_b0 h_96)
          exact k gH TH (show MG B L (false, _) gH by rw [← ez]; exact mH) XH
        · have z6 := pg_b1 h_96
          have z5 := wE_1 z6
          have z4 := (s5_1 z5).1
          have z3 := (s4_1 z4).1
          have z2 := wN_1 (s := s2F B L n p) z3
          have z1 : (s1F B L n p).1 = true := wW_1 z2.1
          have zn : n < 8 := by
            by_cases q : n < 8
            · exact q
            · rw [s1_n q] at z1
              exact absurd z1 (show ¬ false = true by decide)
          have va := va z4
          have vp := vp z5
          have vl := hv1 z2.1 z2.2
          refine go_bipush (pc' := 101) 13 dX7_wantOne_99 rfl (by decide) ?_
          refine go_iconst (pc' := 102) 5 dX7_wantOne_101 rfl (by decide) ?_
          refine go_aload_n (pc' := 103) dX7_wantOne_102 rfl rfl ?_
          refine go_getR (pc' := 106) dX7_wantOne_103 rfl flRX7_13 rfl rfl ?_
          refine go_iconst (pc' := 107) 5 dX7_wantOne_106 rfl (by decide) ?_
          refine go_iald (pc' := 108) 5 dX7_wantOne_107 rfl rfl rfl (by omega) (by decide) ?_
          rw [hH.people]
          refine go_imul (pc' := 109) dX7_wantOne_108 rfl ?_
          refine go_iadd (pc' := 110) dX7_wantOne_109 rfl ?_
          rw [show (13 : Int32) + 5 * nI n = nI (13 + 5 * n) by rw [show (13 : Int32) = nI 13 from rfl, show (5 : Int32) = nI 5 from rfl, pk_mul, nI_add]]
          refine go_istore (pc' := 112) dX7_wantOne_110 rfl (by decide) rfl ?_
          refine go_aload_n (pc' := 113) dX7_wantOne_112 rfl rfl ?_
          refine go_getR (pc' := 116) dX7_wantOne_113 rfl flRX7_13 rfl rfl ?_
          refine go_iload (pc' := 118) dX7_wantOne_116 rfl rfl ?_
          refine go_iload_n (pc' := 119) dX7_wantOne_118 rfl rfl ?_
          refine go_iast (pc' := 120) (13 + 5 * n + 0) dX7_wantOne_119 rfl rfl rfl (by omega) (by decide) ?_
          refine go_gen (fun gN1 eN1 => ?_)
          have nN1 : gN1.1 61 5 = nI n := by rw [eN1]; exact (rd_ui (by omega)).trans hH.people
          refine go_aload_n (pc' := 121) dX7_wantOne_120 rfl rfl ?_
          refine go_getR (pc' := 124) dX7_wantOne_121 rfl flRX7_13 rfl rfl ?_
          refine go_iload (pc' := 126) dX7_wantOne_124 rfl rfl ?_
          refine go_iconst (pc' := 127) 1 dX7_wantOne_126 rfl (by decide) ?_
          refine go_iadd (pc' := 128) dX7_wantOne_127 rfl ?_
          refine go_iload (pc' := 130) dX7_wantOne_128 rfl rfl ?_
          rw [vp]
          refine go_iast (pc' := 131) (13 + 5 * n + 1) dX7_wantOne_130 rfl rfl (by rw [show (1 : Int32) = nI 1 from rfl, nI_add]) (by omega) (by decide) ?_
          refine go_gen (fun gN2 eN2 => ?_)
          have nN2 : gN2.1 61 5 = nI n := by rw [eN2]; exact (rd_ui (by omega)).trans nN1
          refine go_aload_n (pc' := 132) dX7_wantOne_131 rfl rfl ?_
          refine go_getR (pc' := 135) dX7_wantOne_132 rfl flRX7_13 rfl rfl ?_
          refine go_iload (pc' := 137) dX7_wantOne_135 rfl rfl ?_
          refine go_iconst (pc' := 138) 2 dX7_wantOne_137 rfl (by decide) ?_
          refine go_iadd (pc' := 139) dX7_wantOne_138 rfl ?_
          refine go_iload_n (pc' := 140) dX7_wantOne_139 rfl rfl ?_
          rw [va]
          refine go_iast (pc' := 141) (13 + 5 * n + 2) dX7_wantOne_140 rfl rfl (by rw [show (2 : Int32) = nI 2 from rfl, nI_add]) (by omega) (by decide) ?_
          refine go_gen (fun gN3 eN3 => ?_)
          have nN3 : gN3.1 61 5 = nI n := by rw [eN3]; exact (rd_ui (by omega)).trans nN2
          refine go_aload_n (pc' := 142) dX7_wantOne_141 rfl rfl ?_
          refine go_getR (pc' := 145) dX7_wantOne_142 rfl flRX7_13 rfl rfl ?_
          refine go_iload (pc' := 147) dX7_wantOne_145 rfl rfl ?_
          refine go_iconst (pc' := 148) 3 dX7_wantOne_147 rfl (by decide) ?_
          refine go_iadd (pc' := 149) dX7_wantOne_148 rfl ?_
          refine go_iload_n (pc' := 150) dX7_wantOne_149 rfl rfl ?_
          rw [vl]
          refine go_iast (pc' := 151) (13 + 5 * n + 3) dX7_wantOne_150 rfl rfl (by rw [show (3 : Int32) = nI 3 from rfl, nI_add]) (by omega) (by decide) ?_
          refine go_gen (fun gN4 eN4 => ?_)
          have nN4 : gN4.1 61 5 = nI n := by rw [eN4]; exact (rd_ui (by omega)).trans nN3
          refine go_aload_n (pc' := 152) dX7_wantOne_151 rfl rfl ?_
          refine go_getR (pc' := 155) dX7_wantOne_152 rfl flRX7_13 rfl rfl ?_
          refine go_iload (pc' := 157) dX7_wantOne_155 rfl rfl ?_
          refine go_iconst (pc' := 158) 4 dX7_wantOne_157 rfl (by decide) ?_
          refine go_iadd (pc' := 159) dX7_wantOne_158 rfl ?_
          refine go_iconst (pc' := 160) 0 dX7_wantOne_159 rfl (by decide) ?_
          refine go_iast (pc' := 161) (13 + 5 * n + 4) dX7_wantOne_160 rfl rfl (by rw [show (4 : Int32) = nI 4 from rfl, nI_add]) (by omega) (by decide) ?_
          refine go_gen (fun gN5 eN5 => ?_)
          have nN5 : gN5.1 61 5 = nI n := by rw [eN5]; exact (rd_ui (by omega)).trans nN4
          refine go_aload_n (pc' := 162) dX7_wantOne_161 rfl rfl ?_
          refine go_getR (pc' := 165) dX7_wantOne_162 rfl flRX7_13 rfl rfl ?_
          refine go_iconst (pc' := 166) 5 dX7_wantOne_165 rfl (by decide) ?_
          refine go_dup2 (pc' := 167) dX7_wantOne_166 rfl rfl rfl ?_
          refine go_iald (pc' := 168) 5 dX7_wantOne_167 rfl rfl rfl (by omega) (by decide) ?_
          rw [nN5]
          refine go_iconst (pc' := 169) 1 dX7_wantOne_168 rfl (by decide) ?_
          refine go_iadd (pc' := 170) dX7_wantOne_169 rfl ?_
          rw [nI_1]
          refine go_iast (pc' := 171) 5 dX7_wantOne_170 rfl rfl rfl (by omega) (by decide) ?_
          refine go_gen (fun gN eN6 => ?_)
          refine go_vret dX7_wantOne_171 rfl ?_
          have eF : perF B L kd T n p = .inr ((wEnd B L (s5F B L (s4F B L (s3F B L n p)))).2, admF T n (nI kd) (nI (pegN B L (s4F B L (s3F B L n p)))) (nI (ageN B L (s3F B L n p))) (nI (nbF B L (s2F B L n p).2)), n + 1) := by
            unfold perF finF
            rw [if_pos z6]
          rw [eF] at k
          have fr : FR 61 62 gH gN := by
            rw [eN6, eN5, eN4, eN3, eN2, eN1]
            exact FR.tr (FR.tr (FR.tr (FR.tr (FR.tr (FR.ui (by decide)) (FR.ui (by decide))) (FR.ui (by decide))) (FR.ui (by decide))) (FR.ui (by decide))) (FR.ui (by decide))
          have mN := mH.r fr
          refine k gN (TH.fx (FX.r fr)) ⟨show MG B L (true, _) gN by rw [← z6]; exact mN, ?_⟩ (FX.tr XH (FX.r fr))
          have hh := madm61 (kd := nI kd) (pg := nI (pegN B L (s4F B L (s3F B L n p)))) (ag := nI (ageN B L (s3F B L n p))) (pl := nI (nbF B L (s2F B L n p).2)) hH zn
          rw [eN6, eN5, eN4, eN3, eN2, eN1]
          exact hh
    · have h_53 := pg_b1 h_53
      refine go_aload_n (pc' := 57) dX7_wantOne_56 rfl rfl ?_
      refine go_iconst (pc' := 58) 0 dX7_wantOne_57 rfl (by decide) ?_
      refine go_bipush (pc' := 60) 99 dX7_wantOne_58 rfl (by decide) ?_
      refine go_cVi2 (pc' := 63) (M' := mX7_wantNumber) (d' := 4) dX7_wantOne_60 rfl cvRX7_158 rfl rfl (by decide) rfl (Nat.le_of_ble_eq_true rfl) ?_
      have eM : mayF B L 17 (s3F B L n p) = (true, enF B L (s3F B L n p).2) := if_pos h_53
      rw [eM] at mD
      refine tX7_wantNumber (c := 99) TD mD (by decide) rfl (fun v2 gE TE mE hv2 FE => ?_)
      have XE := FX.tr XD (FX.w FE)
      have hE := hD.fw FE (by decide)
      refine go_goto (pc' := 67) dX7_wantOne_63 (by decide) ?_
      refine go_istore_n (pc' := 68) dX7_wantOne_67 rfl (by decide) rfl ?_
      have eE : s4F B L (s3F B L n p) = wNum B L 99 (true, enF B L (s3F B L n p).2) := if_pos h_53
      have mE : MG B L (s4F B L (s3F B L n p)) gE := by rw [eE]; exact mE
      have va : (s4F B L (s3F B L n p)).1 = true → v2 = nI (ageN B L (s3F B L n p)) := fun q => by
        have q2 := (s4_1 q).2
        unfold ageN at q2 ⊢
        rw [if_pos h_53] at q2 ⊢
        exact hv2 rfl q2
      refine go_aload_n (pc' := 69) dX7_wantOne_68 rfl rfl ?_
      refine go_ldc2 (pc' := 72) dX7_wantOne_69 rfl clRX7_167 ?_
      refine go_cVi1 (pc' := 75) (M' := mX7_may) (d' := 4) dX7_wantOne_72 rfl cvRX7_164 rfl rfl (by decide) rfl (Nat.le_of_ble_eq_true rfl) ?_
      refine tX7_may (c := 18) TE mE (by decide) (by decide +kernel) (fun gF TF mF FF => ?_)
      have XF := FX.tr XE (FX.w FF)
      have hF := hE.fw FF (by decide)
      refine go_if_eq (pc' := 78) (tgt := 85) dX7_wantOne_75 rfl (by decide) (fun h_75 => ?_) (fun h_75 => ?_)
      · have h_75 := pg_b0 h_75
        refine go_iconst (pc' := 86) 0 dX7_wantOne_85 rfl (by decide) ?_
        refine go_istore (pc' := 88) dX7_wantOne_86 rfl (by decide) rfl ?_
        have eG : s5F B L (s4F B L (s3F B L n p)) = s4F B L (s3F B L n p) := if_neg h_75
        have eN : mayF B L 18 (s4F B L (s3F B L n p)) = s4F B L (s3F B L n p) := if_neg h_75
        have mG : MG B L (s5F B L (s4F B L (s3F B L n p))) gF := by rw [eG, ← eN]; exact mF
        have TG := TF
        have XG := XF
        have hG := hF
        have vp : (s5F B L (s4F B L (s3F B L n p))).1 = true → (0 : Int32) = nI (pegN B L (s4F B L (s3F B L n p))) := fun _ => by unfold pegN; rw [if_neg h_75]; rfl
        refine go_aload_n (pc' := 89) dX7_wantOne_88 rfl rfl ?_
        refine go_cVv0 (pc' := 92) (M' := mX7_wantEnd) (d' := 4) dX7_wantOne_89 rfl cvRX7_172 rfl rfl (by decide) rfl (Nat.le_of_ble_eq_true rfl) ?_
        refine tX7_wantEnd TG mG (fun gH TH mH FH => ?_)
        have XH := FX.tr XG (FX.w FH)
        have hH := hG.fw FH (by decide)
        refine go_aload_n (pc' := 93) dX7_wantOne_92 rfl rfl ?_
        refine go_getI (pc' := 96) dX7_wantOne_93 rfl flRX7_138 rfl rfl ?_
        rw [mH.1]
        refine go_if_eq (pc' := 99) (tgt := 171) dX7_wantOne_96 rfl (by decide) (fun h_96 => ?_) (fun h_96 => ?_)
        · refine go_vret dX7_wantOne_171 rfl ?_
          have eF : perF B L kd T n p = .inl (wEnd B L (s5F B L (s4F B L (s3F B L n p)))).2 := by
            unfold perF finF
            rw [if_neg (pg_b0 h_96)]
          rw [eF] at k
          have ez : (wEnd B L (s5F B L (s4F B L (s3F B L n p)))).1 = false := by
            cases hz : (wEnd B L (s5F B L (s4F B L (s3F B L n p)))).1 with
            | false => rfl
            | true => exact absurd hz (pg_b0 h_96)
          exact k gH TH (show MG B L (false, _) gH by rw [← ez]; exact mH) XH
        · have z6 := pg_b1 h_96
          have z5 := wE_1 z6
          have z4 := (s5_1 z5).1
          have z3 := (s4_1 z4).1
          have z2 := wN_1 (s := s2F B L n p) z3
          have z1 : (s1F B L n p).1 = true := wW_1 z2.1
          have zn : n < 8 := by
            by_cases q : n < 8
            · exact q
            · rw [s1_n q] at z1
              exact absurd z1 (show ¬ false = true by decide)
          have va := va z4
          have vp := vp z5
          have vl := hv1 z2.1 z2.2
          refine go_bipush (pc' := 101) 13 dX7_wantOne_99 rfl (by decide) ?_
          refine go_iconst (pc' := 102) 5 dX7_wantOne_101 rfl (by decide) ?_
          refine go_aload_n (pc' := 103) dX7_wantOne_102 rfl rfl ?_
          refine go_getR (pc' := 106) dX7_wantOne_103 rfl flRX7_13 rfl rfl ?_
          refine go_iconst (pc' := 107) 5 dX7_wantOne_106 rfl (by decide) ?_
          refine go_iald (pc' := 108) 5 dX7_wantOne_107 rfl rfl rfl (by omega) (by decide) ?_
          rw [hH.people]
          refine go_imul (pc' := 109) dX7_wantOne_108 rfl ?_
          refine go_iadd (pc' := 110) dX7_wantOne_109 rfl ?_
          rw [show (13 : Int32) + 5 * nI n = nI (13 + 5 * n) by rw [show (13 : Int32) = nI 13 from rfl, show (5 : Int32) = nI 5 from rfl, pk_mul, nI_add]]
          refine go_istore (pc' := 112) dX7_wantOne_110 rfl (by decide) rfl ?_
          refine go_aload_n (pc' := 113) dX7_wantOne_112 rfl rfl ?_
          refine go_getR (pc' := 116) dX7_wantOne_113 rfl flRX7_13 rfl rfl ?_
          refine go_iload (pc' := 118) dX7_wantOne_116 rfl rfl ?_
          refine go_iload_n (pc' := 119) dX7_wantOne_118 rfl rfl ?_
          refine go_iast (pc' := 120) (13 + 5 * n + 0) dX7_wantOne_119 rfl rfl rfl (by omega) (by decide) ?_
          refine go_gen (fun gN1 eN1 => ?_)
          have nN1 : gN1.1 61 5 = nI n := by rw [eN1]; exact (rd_ui (by omega)).trans hH.people
          refine go_aload_n (pc' := 121) dX7_wantOne_120 rfl rfl ?_
          refine go_getR (pc' := 124) dX7_wantOne_121 rfl flRX7_13 rfl rfl ?_
          refine go_iload (pc' := 126) dX7_wantOne_124 rfl rfl ?_
          refine go_iconst (pc' := 127) 1 dX7_wantOne_126 rfl (by decide) ?_
          refine go_iadd (pc' := 128) dX7_wantOne_127 rfl ?_
          refine go_iload (pc' := 130) dX7_wantOne_128 rfl rfl ?_
          rw [vp]
          refine go_iast (pc' := 131) (13 + 5 * n + 1) dX7_wantOne_130 rfl rfl (by rw [show (1 : Int32) = nI 1 from rfl, nI_add]) (by omega) (by decide) ?_
          refine go_gen (fun gN2 eN2 => ?_)
          have nN2 : gN2.1 61 5 = nI n := by rw [eN2]; exact (rd_ui (by omega)).trans nN1
          refine go_aload_n (pc' := 132) dX7_wantOne_131 rfl rfl ?_
          refine go_getR (pc' := 135) dX7_wantOne_132 rfl flRX7_13 rfl rfl ?_
          refine go_iload (pc' := 137) dX7_wantOne_135 rfl rfl ?_
          refine go_iconst (pc' := 138) 2 dX7_wantOne_137 rfl (by decide) ?_
          refine go_iadd (pc' := 139) dX7_wantOne_138 rfl ?_
          refine go_iload_n (pc' := 140) dX7_wantOne_139 rfl rfl ?_
          rw [va]
          refine go_iast (pc' := 141) (13 + 5 * n + 2) dX7_wantOne_140 rfl rfl (by rw [show (2 : Int32) = nI 2 from rfl, nI_add]) (by omega) (by decide) ?_
          refine go_gen (fun gN3 eN3 => ?_)
          have nN3 : gN3.1 61 5 = nI n := by rw [eN3]; exact (rd_ui (by omega)).trans nN2
          refine go_aload_n (pc' := 142) dX7_wantOne_141 rfl rfl ?_
          refine go_getR (pc' := 145) dX7_wantOne_142 rfl flRX7_13 rfl rfl ?_
          refine go_iload (pc' := 147) dX7_wantOne_145 rfl rfl ?_
          refine go_iconst (pc' := 148) 3 dX7_wantOne_147 rfl (by decide) ?_
          refine go_iadd (pc' := 149) dX7_wantOne_148 rfl ?_
          refine go_iload_n (pc' := 150) dX7_wantOne_149 rfl rfl ?_
          rw [vl]
          refine go_iast (pc' := 151) (13 + 5 * n + 3) dX7_wantOne_150 rfl rfl (by rw [show (3 : Int32) = nI 3 from rfl, nI_add]) (by omega) (by decide) ?_
          refine go_gen (fun gN4 eN4 => ?_)
          have nN4 : gN4.1 61 5 = nI n := by rw [eN4]; exact (rd_ui (by omega)).trans nN3
          refine go_aload_n (pc' := 152) dX7_wantOne_151 rfl rfl ?_
          refine go_getR (pc' := 155) dX7_wantOne_152 rfl flRX7_13 rfl rfl ?_
          refine go_iload (pc' := 157) dX7_wantOne_155 rfl rfl ?_
          refine go_iconst (pc' := 158) 4 dX7_wantOne_157 rfl (by decide) ?_
          refine go_iadd (pc' := 159) dX7_wantOne_158 rfl ?_
          refine go_iconst (pc' := 160) 0 dX7_wantOne_159 rfl (by decide) ?_
          refine go_iast (pc' := 161) (13 + 5 * n + 4) dX7_wantOne_160 rfl rfl (by rw [show (4 : Int32) = nI 4 from rfl, nI_add]) (by omega) (by decide) ?_
          refine go_gen (fun gN5 eN5 => ?_)
          have nN5 : gN5.1 61 5 = nI n := by rw [eN5]; exact (rd_ui (by omega)).trans nN4
          refine go_aload_n (pc' := 162) dX7_wantOne_161 rfl rfl ?_
          refine go_getR (pc' := 165) dX7_wantOne_162 rfl flRX7_13 rfl rfl ?_
          refine go_iconst (pc' := 166) 5 dX7_wantOne_165 rfl (by decide) ?_
          refine go_dup2 (pc' := 167) dX7_wantOne_166 rfl rfl rfl ?_
          refine go_iald (pc' := 168) 5 dX7_wantOne_167 rfl rfl rfl (by omega) (by decide) ?_
          rw [nN5]
          refine go_iconst (pc' := 169) 1 dX7_wantOne_168 rfl (by decide) ?_
          refine go_iadd (pc' := 170) dX7_wantOne_169 rfl ?_
          rw [nI_1]
          refine go_iast (pc' := 171) 5 dX7_wantOne_170 rfl rfl rfl (by omega) (by decide) ?_
          refine go_gen (fun gN eN6 => ?_)
          refine go_vret dX7_wantOne_171 rfl ?_
          have eF : perF B L kd T n p = .inr ((wEnd B L (s5F B L (s4F B L (s3F B L n p)))).2, admF T n (nI kd) (nI (pegN B L (s4F B L (s3F B L n p)))) (nI (ageN B L (s3F B L n p))) (nI (nbF B L (s2F B L n p).2)), n + 1) := by
            unfold perF finF
            rw [if_pos z6]
          rw [eF] at k
          have fr : FR 61 62 gH gN := by
            rw [eN6, eN5, eN4, eN3, eN2, eN1]
            exact FR.tr (FR.tr (FR.tr (FR.tr (FR.tr (FR.ui (by decide)) (FR.ui (by decide))) (FR.ui (by decide))) (FR.ui (by decide))) (FR.ui (by decide))) (FR.ui (by decide))
          have mN := mH.r fr
          refine k gN (TH.fx (FX.r fr)) ⟨show MG B L (true, _) gN by rw [← z6]; exact mN, ?_⟩ (FX.tr XH (FX.r fr))
          have hh := madm61 (kd := nI kd) (pg := nI (pegN B L (s4F B L (s3F B L n p)))) (ag := nI (ageN B L (s3F B L n p))) (pl := nI (nbF B L (s2F B L n p).2)) hH zn
          rw [eN6, eN5, eN4, eN3, eN2, eN1]
          exact hh
      · have h_75 := pg_b1 h_75
        refine go_aload_n (pc' := 79) dX7_wantOne_78 rfl rfl ?_
        refine go_cVi0 (pc' := 82) (M' := mX7_wantPeg) (d' := 4) dX7_wantOne_79 rfl cvRX7_169 rfl rfl (by decide) rfl (Nat.le_of_ble_eq_true rfl) ?_
        have eN : mayF B L 18 (s4F B L (s3F B L n p)) = (true, enF B L (s4F B L (s3F B L n p)).2) := if_pos h_75
        rw [eN] at mF
        refine tX7_wantPeg TF mF (fun v3 gG TG mG hv3 FG => ?_)
        have XG := FX.tr XF (FX.w FG)
        have hG := hF.fw FG (by decide)
        refine go_goto (pc' := 86) dX7_wantOne_82 (by decide) ?_
        refine go_istore (pc' := 88) dX7_wantOne_86 rfl (by decide) rfl ?_
        have eG : s5F B L (s4F B L (s3F B L n p)) = wPeg B L (true, enF B L (s4F B L (s3F B L n p)).2) := if_pos h_75
        have mG : MG B L (s5F B L (s4F B L (s3F B L n p))) gG := by rw [eG]; exact mG
        have vp : (s5F B L (s4F B L (s3F B L n p))).1 = true → v3 = nI (pegN B L (s4F B L (s3F B L n p))) := fun q => by
          rw [eG] at q
          unfold pegN
          rw [if_pos h_75]
          unfold wPeg at q
          by_cases z : 6 ≤ tnF B L (enF B L (s4F B L (s3F B L n p)).2) ∧ tnF B L (enF B L (s4F B L (s3F B L n p)).2) < 12
          · exact hv3 rfl z
          · rw [if_neg (fun y => z y.2)] at q
            exact absurd q (show ¬ false = true by decide)
        refine go_aload_n (pc' := 89) dX7_wantOne_88 rfl rfl ?_
        refine go_cVv0 (pc' := 92) (M' := mX7_wantEnd) (d' := 4) dX7_wantOne_89 rfl cvRX7_172 rfl rfl (by decide) rfl (Nat.le_of_ble_eq_true rfl) ?_
        refine tX7_wantEnd TG mG (fun gH TH mH FH => ?_)
        have XH := FX.tr XG (FX.w FH)
        have hH := hG.fw FH (by decide)
        refine go_aload_n (pc' := 93) dX7_wantOne_92 rfl rfl ?_
        refine go_getI (pc' := 96) dX7_wantOne_93 rfl flRX7_138 rfl rfl ?_
        rw [mH.1]
        refine go_if_eq (pc' := 99) (tgt := 171) dX7_wantOne_96 rfl (by decide) (fun h_96 => ?_) (fun h_96 => ?_)
        · refine go_vret dX7_wantOne_171 rfl ?_
          have eF : perF B L kd T n p = .inl (wEnd B L (s5F B L (s4F B L (s3F B L n p)))).2 := by
            unfold perF finF
            rw [if_neg (pg_b0 h_96)]
          rw [eF] at k
          have ez : (wEnd B L (s5F B L (s4F B L (s3F B L n p)))).1 = false := by
            cases hz : (wEnd B L (s5F B L (s4F B L (s3F B L n p)))).1 with
            | false => rfl
            | true => exact absurd hz (pg_b0 h_96)
          exact k gH TH (show MG B L (false, _) gH by rw [← ez]; exact mH) XH
        · have z6 := pg_b1 h_96
          have z5 := wE_1 z6
          have z4 := (s5_1 z5).1
          have z3 := (s4_1 z4).1
          have z2 := wN_1 (s := s2F B L n p) z3
          have z1 : (s1F B L n p).1 = true := wW_1 z2.1
          have zn : n < 8 := by
            by_cases q : n < 8
            · exact q
            · rw [s1_n q] at z1
              exact absurd z1 (show ¬ false = true by decide)
          have va := va z4
          have vp := vp z5
          have vl := hv1 z2.1 z2.2
          refine go_bipush (pc' := 101) 13 dX7_wantOne_99 rfl (by decide) ?_
          refine go_iconst (pc' := 102) 5 dX7_wantOne_101 rfl (by decide) ?_
          refine go_aload_n (pc' := 103) dX7_wantOne_102 rfl rfl ?_
          refine go_getR (pc' := 106) dX7_wantOne_103 rfl flRX7_13 rfl rfl ?_
          refine go_iconst (pc' := 107) 5 dX7_wantOne_106 rfl (by decide) ?_
          refine go_iald (pc' := 108) 5 dX7_wantOne_107 rfl rfl rfl (by omega) (by decide) ?_
          rw [hH.people]
          refine go_imul (pc' := 109) dX7_wantOne_108 rfl ?_
          refine go_iadd (pc' := 110) dX7_wantOne_109 rfl ?_
          rw [show (13 : Int32) + 5 * nI n = nI (13 + 5 * n) by rw [show (13 : Int32) = nI 13 from rfl, show (5 : Int32) = nI 5 from rfl, pk_mul, nI_add]]
          refine go_istore (pc' := 112) dX7_wantOne_110 rfl (by decide) rfl ?_
          refine go_aload_n (pc' := 113) dX7_wantOne_112 rfl rfl ?_
          refine go_getR (pc' := 116) dX7_wantOne_113 rfl flRX7_13 rfl rfl ?_
          refine go_iload (pc' := 118) dX7_wantOne_116 rfl rfl ?_
          refine go_iload_n (pc' := 119) dX7_wantOne_118 rfl rfl ?_
          refine go_iast (pc' := 120) (13 + 5 * n + 0) dX7_wantOne_119 rfl rfl rfl (by omega) (by decide) ?_
          refine go_gen (fun gN1 eN1 => ?_)
          have nN1 : gN1.1 61 5 = nI n := by rw [eN1]; exact (rd_ui (by omega)).trans hH.people
          refine go_aload_n (pc' := 121) dX7_wantOne_120 rfl rfl ?_
          refine go_getR (pc' := 124) dX7_wantOne_121 rfl flRX7_13 rfl rfl ?_
          refine go_iload (pc' := 126) dX7_wantOne_124 rfl rfl ?_
          refine go_iconst (pc' := 127) 1 dX7_wantOne_126 rfl (by decide) ?_
          refine go_iadd (pc' := 128) dX7_wantOne_127 rfl ?_
          refine go_iload (pc' := 130) dX7_wantOne_128 rfl rfl ?_
          rw [vp]
          refine go_iast (pc' := 131) (13 + 5 * n + 1) dX7_wantOne_130 rfl rfl (by rw [show (1 : Int32) = nI 1 from rfl, nI_add]) (by omega) (by decide) ?_
          refine go_gen (fun gN2 eN2 => ?_)
          have nN2 : gN2.1 61 5 = nI n := by rw [eN2]; exact (rd_ui (by omega)).trans nN1
          refine go_aload_n (pc' := 132) dX7_wantOne_131 rfl rfl ?_
          refine go_getR (pc' := 135) dX7_wantOne_132 rfl flRX7_13 rfl rfl ?_
          refine go_iload (pc' := 137) dX7_wantOne_135 rfl rfl ?_
          refine go_iconst (pc' := 138) 2 dX7_wantOne_137 rfl (by decide) ?_
          refine go_iadd (pc' := 139) dX7_wantOne_138 rfl ?_
          refine go_iload_n (pc' := 140) dX7_wantOne_139 rfl rfl ?_
          rw [va]
          refine go_iast (pc' := 141) (13 + 5 * n + 2) dX7_wantOne_140 rfl rfl (by rw [show (2 : Int32) = nI 2 from rfl, nI_add]) (by omega) (by decide) ?_
          refine go_gen (fun gN3 eN3 => ?_)
          have nN3 : gN3.1 61 5 = nI n := by rw [eN3]; exact (rd_ui (by omega)).trans nN2
          refine go_aload_n (pc' := 142) dX7_wantOne_141 rfl rfl ?_
          refine go_getR (pc' := 145) dX7_wantOne_142 rfl flRX7_13 rfl rfl ?_
          refine go_iload (pc' := 147) dX7_wantOne_145 rfl rfl ?_
          refine go_iconst (pc' := 148) 3 dX7_wantOne_147 rfl (by decide) ?_
          refine go_iadd (pc' := 149) dX7_wantOne_148 rfl ?_
          refine go_iload_n (pc' := 150) dX7_wantOne_149 rfl rfl ?_
          rw [vl]
          refine go_iast (pc' := 151) (13 + 5 * n + 3) dX7_wantOne_150 rfl rfl (by rw [show (3 : Int32) = nI 3 from rfl, nI_add]) (by omega) (by decide) ?_
          refine go_gen (fun gN4 eN4 => ?_)
          have nN4 : gN4.1 61 5 = nI n := by rw [eN4]; exact (rd_ui (by omega)).trans nN3
          refine go_aload_n (pc' := 152) dX7_wantOne_151 rfl rfl ?_
          refine go_getR (pc' := 155) dX7_wantOne_152 rfl flRX7_13 rfl rfl ?_
          refine go_iload (pc' := 157) dX7_wantOne_155 rfl rfl ?_
          refine go_iconst (pc' := 158) 4 dX7_wantOne_157 rfl (by decide) ?_
          refine go_iadd (pc' := 159) dX7_wantOne_158 rfl ?_
          refine go_iconst (pc' := 160) 0 dX7_wantOne_159 rfl (by decide) ?_
          refine go_iast (pc' := 161) (13 + 5 * n + 4) dX7_wantOne_160 rfl rfl (by rw [show (4 : Int32) = nI 4 from rfl, nI_add]) (by omega) (by decide) ?_
          refine go_gen (fun gN5 eN5 => ?_)
          have nN5 : gN5.1 61 5 = nI n := by rw [eN5]; exact (rd_ui (by omega)).trans nN4
          refine go_aload_n (pc' := 162) dX7_wantOne_161 rfl rfl ?_
          refine go_getR (pc' := 165) dX7_wantOne_162 rfl flRX7_13 rfl rfl ?_
          refine go_iconst (pc' := 166) 5 dX7_wantOne_165 rfl (by decide) ?_
          refine go_dup2 (pc' := 167) dX7_wantOne_166 rfl rfl rfl ?_
          refine go_iald (pc' := 168) 5 dX7_wantOne_167 rfl rfl rfl (by omega) (by decide) ?_
          rw [nN5]
          refine go_iconst (pc' := 169) 1 dX7_wantOne_168 rfl (by decide) ?_
          refine go_iadd (pc' := 170) dX7_wantOne_169 rfl ?_
          rw [nI_1]
          refine go_iast (pc' := 171) 5 dX7_wantOne_170 rfl rfl rfl (by omega) (by decide) ?_
          refine go_gen (fun gN eN6 => ?_)
          refine go_vret dX7_wantOne_171 rfl ?_
          have eF : perF B L kd T n p = .inr ((wEnd B L (s5F B L (s4F B L (s3F B L n p)))).2, admF T n (nI kd) (nI (pegN B L (s4F B L (s3F B L n p)))) (nI (ageN B L (s3F B L n p))) (nI (nbF B L (s2F B L n p).2)), n + 1) := by
            unfold perF finF
            rw [if_pos z6]
          rw [eF] at k
          have fr : FR 61 62 gH gN := by
            rw [eN6, eN5, eN4, eN3, eN2, eN1]
            exact FR.tr (FR.tr (FR.tr (FR.tr (FR.tr (FR.ui (by decide)) (FR.ui (by decide))) (FR.ui (by decide))) (FR.ui (by decide))) (FR.ui (by decide))) (FR.ui (by decide))
          have mN := mH.r fr
          refine k gN (TH.fx (FX.r fr)) ⟨show MG B L (true, _) gN by rw [← z6]; exact mN, ?_⟩ (FX.tr XH (FX.r fr))
          have hh := madm61 (kd := nI kd) (pg := nI (pegN B L (s4F B L (s3F B L n p)))) (ag := nI (ageN B L (s3F B L n p))) (pl := nI (nbF B L (s2F B L n p).2)) hH zn
          rw [eN6, eN5, eN4, eN3, eN2, eN1]
          exact hh

