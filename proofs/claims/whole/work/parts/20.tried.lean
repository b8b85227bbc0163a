def FM (g g' : pg_S) : Prop := (∀ a, a ≠ 60 → a ≠ 63 → g'.1 a = g.1 a) ∧ g'.2 = g.2
theorem FM.rf {g : pg_S} : FM g g := ⟨fun _ _ _ => rfl, rfl⟩
theorem FM.tr {g g' g'' : pg_S} (h : FM g g') (h' : FM g' g'') : FM g g'' := ⟨fun a q r => (h'.1 a q r).trans (h.1 a q r), h'.2.trans h.2⟩
theorem FM.a {g g' : pg_S} (h : FR 60 61 g g') : FM g g' := ⟨fun a q _ => h.1 a (by omega), h.2⟩
theorem FM.b {g g' : pg_S} (h : FR 63 64 g g') : FM g g' := ⟨fun a _ q => h.1 a (by omega), h.2⟩
theorem orF_lt {f : Nat → Int32} {b : Nat} (hb : b ≤ 31) : ∀ (m i u : Nat), (∀ j, i ≤ j → j < i + m → ∃ v, v < 2 ^ b ∧ f j = nI v) → u < 2 ^ b → ∃ v, v < 2 ^ b ∧ orF f m i (nI u) = nI v
  | 0, _, u, _, hu => ⟨u, hu, rfl⟩
  | m + 1, i, u, hf, hu => by
    obtain ⟨v, hv, ev⟩ := hf i (by omega) (by omega)
    unfold orF
    rw [ev, fa_or]
    exact orF_lt hb m (i + 1) _ (fun j h1 h2 => hf j (by omega) (by omega)) (Nat.or_lt_two_pow hu hv)
theorem plc_lt {T : TW} {n : Nat} (wf : WF T n) : ∃ v, v < 4096 ∧ orF (plcF T) n 0 0 = nI v := orF_lt (b := 12) (by decide) n 0 0 (fun j _ hj => by
  obtain ⟨v, hv, ev⟩ := wf.place (show j < n by omega)
  exact ⟨2 ^ v, Nat.pow_lt_pow_right (by omega) hv, by unfold plcF; rw [ev, pg_bit v (by omega)]⟩) (by decide)
theorem lon_lt {T : TW} {n : Nat} (wf : WF T n) : ∃ v, v < 256 ∧ orF (lonF T) n 0 0 = nI v := orF_lt (b := 8) (by decide) n 0 0 (fun j _ hj => by
  have hn := wf.1
  unfold lonF
  split
  · exact ⟨2 ^ j, Nat.pow_lt_pow_right (by omega) (by omega), pg_bit j (by omega)⟩
  · exact ⟨0, by decide, rfl⟩) (by decide)
theorem cntF_n {c : Nat → Bool} : ∀ (m i u : Nat), ∃ v, u ≤ v ∧ v ≤ u + m ∧ cntF c m i (nI u) = nI v
  | 0, _, u => ⟨u, Nat.le_refl _, Nat.le_refl _, rfl⟩
  | m + 1, i, u => by
    unfold cntF
    by_cases h : c i = true
    · rw [if_pos h, nI_1]
      obtain ⟨v, h1, h2, h3⟩ := cntF_n (c := c) m (i + 1) (u + 1)
      exact ⟨v, by omega, by omega, h3⟩
    · rw [if_neg h]
      obtain ⟨v, h1, h2, h3⟩ := cntF_n (c := c) m (i + 1) u
      exact ⟨v, by omega, by omega, h3⟩
theorem WF.tu2 {T : TW} {n i v : Nat} (h : WF T n) (hv : v < 6) : WF (tu T 2 i (nI v)) n := by
  obtain ⟨h1, h2, h3, h4, h5⟩ := h
  refine ⟨h1, fun j hj => ?_, ?_, fun j hj => ?_, fun p hp => ?_⟩
  · rw [tu_na (by omega)]; exact h2 j hj
  · rw [tu_na (by omega)]; exact h3
  · rw [tu_na (by omega)]; exact h4 j hj
  · obtain ⟨q1, q2, q3, q4, q5⟩ := h5 p hp
    rw [tu_na (b := 3) (by omega), tu_na (b := 4) (by omega), tu_na (b := 5) (by omega), tu_na (b := 6) (by omega)]
    refine ⟨?_, q2, q3, q4, q5⟩
    unfold tu
    split
    · exact ⟨v, hv, rfl⟩
    · exact q1
theorem WF.tu3 {T : TW} {n i v : Nat} (h : WF T n) (hv : v < 6) : WF (tu T 3 i (nI v)) n := by
  obtain ⟨h1, h2, h3, h4, h5⟩ := h
  refine ⟨h1, fun j hj => ?_, ?_, fun j hj => ?_, fun p hp => ?_⟩
  · rw [tu_na (by omega)]; exact h2 j hj
  · rw [tu_na (by omega)]; exact h3
  · rw [tu_na (by omega)]; exact h4 j hj
  · obtain ⟨q1, q2, q3, q4, q5⟩ := h5 p hp
    rw [tu_na (b := 2) (by omega), tu_na (b := 4) (by omega), tu_na (b := 5) (by omega), tu_na (b := 6) (by omega)]
    refine ⟨q1, ?_, q3, q4, q5⟩
    unfold tu
    split
    · exact ⟨v, hv, rfl⟩
    · exact q2
def seekF (n : Nat) (c : TW → Bool) : Nat → Nat → TW → Int32
  | 0, _, _ => -3
  | m + 1, i, T => if c T = true then nI i else seekF n c m (i + 1) (hourF n T)
def gatB (n : Nat) (T : TW) : Bool := decide (bcF (orF (plcF T) n 0 0) ≤ 1)
theorem gatB_iff {n : Nat} {T : TW} : gatB n T = true ↔ bcF (orF (plcF T) n 0 0) ≤ 1 := decide_eq_true_iff
def aloB (n p : Nat) (T : TW) : Bool := decide (cntF (besF T p) n 0 0 = 0)
theorem aloB_iff {n p : Nat} {T : TW} : aloB n p T = true ↔ cntF (besF T p) n 0 0 = 0 := decide_eq_true_iff
def bestF (f : Nat → Int32) : Nat → Nat → Int32 → Int32 → Int32
  | 0, _, b, _ => b
  | m + 1, v, b, x => if x < f v then bestF f m (v + 1) (nI v) (f v) else bestF f m (v + 1) b x
def tryF (n c a p : Nat) (T : TW) (v : Nat) : Int32 := bcF (hoursF n c (tu T a p (nI v)) 6 p)
def fndF (n : Nat) (T : TW) (x : Int32) : Nat → Int32 → Int32 → Int32
  | 0, _, s => s
  | m + 1, z, s => fndF n T x m (hourF n (drawF n (tu T 8 2 z)) 8 2) (if x < pairsF n (hourF n (drawF n (tu T 8 2 z))) then s + 1 else s)
set_option maxHeartbeats 4000000 in
set_option maxRecDepth 20000 in
theorem tX6_ahead {sc : pg_Sc} {g : pg_S} {K : Int32 → pg_S → Prop} {T : TW} {n : Nat} {y c x : Int32} (h : CR g 1 T n) (wf : WF T n) (k1 : ¬ (PP n y ∧ UP c 60 ∧ UP x 1) → K (-1) g) (k2 : PP n y → UP c 60 → UP x 1 → ∀ g', FR 10 19 g g' → K (if x = 0 then hoursF n (pn c) T 5 (pn y) else hoursF n (pn c) T 6 (pn y)) g') : pg_Cal sc 5 mX6_ahead [.ref 0, .int y, .int c, .int x] g (pg_ki K) := by
  refine pg_Cal.of rfl (Nat.le_of_ble_eq_true rfl) rfl ?_
  have hn := wf.1
  refine go_aload_n (pc' := 1) dX6_ahead_0 rfl rfl ?_
  refine go_iload_n (pc' := 2) dX6_ahead_1 rfl rfl ?_
  refine go_cVi1 (pc' := 5) (M' := mX6_isPerson) (d' := 1) dX6_ahead_2 rfl cvRX6_111 rfl rfl (by decide) rfl (Nat.le_of_ble_eq_true rfl) ?_
  refine tX6_isPerson h ?_
  refine go_if_eq (pc' := 8) (tgt := 25) dX6_ahead_5 rfl (by decide) (fun h_5 => ?_) (fun h_5 => ?_)
  · have h_5 := pg_b0 h_5
    refine go_iconst (pc' := 26) (-1) dX6_ahead_25 rfl (by decide) ?_
    refine go_iret dX6_ahead_26 (pg_narI _) ?_
    exact k1 (fun q => h_5 q.1)
  · have h_5 := pg_b1 h_5
    obtain ⟨p, hp, rfl⟩ := pp_ex h_5
    have ep : pn (nI p) = p := nI_clamp (by omega)
    rw [ep] at k2
    refine go_iload_n (pc' := 9) dX6_ahead_8 rfl rfl ?_
    refine go_bipush (pc' := 11) 60 dX6_ahead_9 rfl (by decide) ?_
    refine go_cSi2 (pc' := 14) (M' := mX6_upTo) (d' := 1) dX6_ahead_11 rfl csRX6_97 (by decide) rfl (Nat.le_of_ble_eq_true rfl) ?_
    refine tX6_upTo ?_
    refine go_if_eq (pc' := 17) (tgt := 25) dX6_ahead_14 rfl (by decide) (fun h_14 => ?_) (fun h_14 => ?_)
    · have h_14 := pg_b0 h_14
      refine go_iconst (pc' := 26) (-1) dX6_ahead_25 rfl (by decide) ?_
      refine go_iret dX6_ahead_26 (pg_narI _) ?_
      exact k1 (fun q => h_14 q.2.1)
    · have h_14 := pg_b1 h_14
      obtain ⟨m, hm, rfl⟩ := up_ex 60 rfl (by decide) h_14
      have em : pn (nI m) = m := nI_clamp (by omega)
      rw [em] at k2
      refine go_iload_n (pc' := 18) dX6_ahead_17 rfl rfl ?_
      refine go_iconst (pc' := 19) 1 dX6_ahead_18 rfl (by decide) ?_
      refine go_cSi2 (pc' := 22) (M' := mX6_upTo) (d' := 1) dX6_ahead_19 rfl csRX6_97 (by decide) rfl (Nat.le_of_ble_eq_true rfl) ?_
      refine tX6_upTo ?_
      refine go_if_ne (pc' := 25) (tgt := 27) dX6_ahead_22 rfl (by decide) (fun h_22 => ?_) (fun h_22 => ?_)
      · have h_22 := pg_b1 h_22
        refine go_aload_n (pc' := 28) dX6_ahead_27 rfl rfl ?_
        refine go_getR (pc' := 31) dX6_ahead_28 rfl flRX6_16 rfl rfl ?_
        refine go_aload_n (pc' := 32) dX6_ahead_31 rfl rfl ?_
        refine go_getR (pc' := 35) dX6_ahead_32 rfl flRX6_10 rfl rfl ?_
        refine go_cVv1 (pc' := 38) (M' := mX5_become) (d' := 1) dX6_ahead_35 rfl cvRX6_87 rfl rfl (by decide) rfl (Nat.le_of_ble_eq_true rfl) ?_
        refine tX5_become_10_1 h hn (fun g1 h1 f1 => ?_)
        refine go_aload_n (pc' := 39) dX6_ahead_38 rfl rfl ?_
        refine go_getR (pc' := 42) dX6_ahead_39 rfl flRX6_16 rfl rfl ?_
        refine go_iload_n (pc' := 43) dX6_ahead_42 rfl rfl ?_
        refine go_cVv1 (pc' := 46) (M' := mX5_spendHours) (d' := 4) dX6_ahead_43 rfl cvRX6_160 rfl rfl (by decide) rfl (Nat.le_of_ble_eq_true rfl) ?_
        refine tX5_spendHours_10 h1 wf (by omega) (fun g2 h2 f2 => ?_)
        refine go_iload_n (pc' := 47) dX6_ahead_46 rfl rfl ?_
        refine go_if_ne (pc' := 50) (tgt := 62) dX6_ahead_47 rfl (by decide) (fun h_47 => ?_) (fun h_47 => ?_)
        · refine go_aload_n (pc' := 63) dX6_ahead_62 rfl rfl ?_
          refine go_getR (pc' := 66) dX6_ahead_63 rfl flRX6_16 rfl rfl ?_
          refine go_getR (pc' := 69) dX6_ahead_66 rfl flRX6_127 rfl rfl ?_
          refine go_iload_n (pc' := 70) dX6_ahead_69 rfl rfl ?_
          refine go_iald (pc' := 71) _ dX6_ahead_70 rfl rfl rfl (by omega) (by decide) ?_
          rw [c10_know h2 (by omega)]
          refine go_iret dX6_ahead_71 (pg_narI _) ?_
          rw [if_neg h_47] at k2
          exact k2 h_5 h_14 h_22 _ (FR.tr f1 f2)
        · refine go_aload_n (pc' := 51) dX6_ahead_50 rfl rfl ?_
          refine go_getR (pc' := 54) dX6_ahead_51 rfl flRX6_16 rfl rfl ?_
          refine go_getR (pc' := 57) dX6_ahead_54 rfl flRX6_124 rfl rfl ?_
          refine go_iload_n (pc' := 58) dX6_ahead_57 rfl rfl ?_
          refine go_iald (pc' := 59) _ dX6_ahead_58 rfl rfl rfl (by omega) (by decide) ?_
          rw [c10_place h2 (by omega)]
          refine go_goto (pc' := 71) dX6_ahead_59 (by decide) ?_
          refine go_iret dX6_ahead_71 (pg_narI _) ?_
          rw [if_pos h_47] at k2
          exact k2 h_5 h_14 h_22 _ (FR.tr f1 f2)
      · have h_22 := pg_b0 h_22
        refine go_iconst (pc' := 26) (-1) dX6_ahead_25 rfl (by decide) ?_
        refine go_iret dX6_ahead_26 (pg_narI _) ?_
        exact k1 (fun q => h_22 q.2.2)

set_option maxHeartbeats 4000000 in
set_option maxRecDepth 20000 in
theorem lbeh {sc : pg_Sc} {Q : pg_Q} {n c p : Nat} {x : Int32} (hc : c < 2 ^ 31) : ∀ (m : Nat) (i : Nat) (T : TW) (g : pg_S), i + m = c → WF T n → MR g 60 T n → (∀ g', MR g' 60 (hoursF n m T) n → FR 60 61 g g' → pg_Go sc 5 mX7_behind 19 [(0, .ref 59), (1, .int (nI p)), (2, .int (nI c)), (3, .int x), (4, .int (nI c))] [] g' Q) → pg_Go sc 5 mX7_behind 3 [(0, .ref 59), (1, .int (nI p)), (2, .int (nI c)), (3, .int x), (4, .int (nI i))] [] g Q := by
  intro m
  induction m with
  | zero =>
    intro i T g hi wf h k
    obtain rfl : i = c := by omega
    refine go_iload (pc' := 5) dX7_behind_3 rfl rfl ?_
    refine go_iload_n (pc' := 6) dX7_behind_5 rfl rfl ?_
    refine go_icmp_ge (pc' := 9) (tgt := 19) dX7_behind_6 rfl (by decide) (fun h_6 => ?_) (fun h_6 => absurd (Int32.le_refl _) h_6)
    exact k _ h FR.rf
  | succ m ih =>
    intro i T g hi wf h k
    have hin : i < c := by omega
    refine go_iload (pc' := 5) dX7_behind_3 rfl rfl ?_
    refine go_iload_n (pc' := 6) dX7_behind_5 rfl rfl ?_
    refine go_icmp_ge (pc' := 9) (tgt := 19) dX7_behind_6 rfl (by decide) (fun h_6 => absurd h_6 (nI_ge hin hc)) (fun h_6 => ?_)
    refine go_aload_n (pc' := 10) dX7_behind_9 rfl rfl ?_
    refine go_cVv0 (pc' := 13) (M' := mX7_hourGoes) (d' := 4) dX7_behind_10 rfl cvRX7_251 rfl rfl (by decide) rfl (Nat.le_of_ble_eq_true rfl) ?_
    refine tX7_hourGoes h wf (fun g1 h1 f1 => ?_)
    refine go_iinc (pc' := 16) _ dX7_behind_13 rfl rfl (pg_inc _) (by decide) rfl ?_
    refine go_goto (pc' := 3) dX7_behind_16 (by decide) ?_
    exact ih (i + 1) _ _ (by omega) wf.hour h1 (fun g' a b => k g' a (FR.tr f1 b))

set_option maxHeartbeats 4000000 in
set_option maxRecDepth 20000 in
theorem tX7_behind {sc : pg_Sc} {g : pg_S} {K : Int32 → pg_S → Prop} {T T0 : TW} {n p c q : Nat} (h : MR g 60 T n) (h0 : MR g 63 T0 n) (wf : WF T n) (hp : p < n) (hq : q < 5) (hc : c < 2 ^ 31) (k : ∀ g', MR g' 60 T0 n → MR g' 63 T0 n → FR 60 61 g g' → K (hoursF n c T (2 + q) p) g') : pg_Cal sc 5 mX7_behind [.ref 59, .int (nI p), .int (nI c), .int (nI q)] g (pg_ki K) := by
  refine pg_Cal.of rfl (Nat.le_of_ble_eq_true rfl) rfl ?_
  refine go_iconst (pc' := 1) 0 dX7_behind_0 rfl (by decide) ?_
  refine go_istore (pc' := 3) dX7_behind_1 rfl (by decide) rfl ?_
  have hn := wf.1
  refine lbeh hc c 0 T g (by omega) wf h (fun g1 h1 f1 => ?_)
  have h01 := h0.fr f1 (by decide)
  refine go_aload_n (pc' := 20) dX7_behind_19 rfl rfl ?_
  refine go_iload_n (pc' := 21) dX7_behind_20 rfl rfl ?_
  refine go_iload_n (pc' := 22) dX7_behind_21 rfl rfl ?_
  refine go_cVi2 (pc' := 25) (M' := mX7_its) (d' := 1) dX7_behind_22 rfl cvRX7_217 rfl rfl (by decide) rfl (Nat.le_of_ble_eq_true rfl) ?_
  refine tX7_its (p := p) (q := q) (by omega) hq ?_
  rw [h1.at5 q hp hq]
  refine go_istore (pc' := 27) dX7_behind_25 rfl (by decide) rfl ?_
  refine go_aload_n (pc' := 28) dX7_behind_27 rfl rfl ?_
  refine go_getR (pc' := 31) dX7_behind_28 rfl flRX7_19 rfl rfl ?_
  refine go_aload_n (pc' := 32) dX7_behind_31 rfl rfl ?_
  refine go_getR (pc' := 35) dX7_behind_32 rfl flRX7_7 rfl rfl ?_
  refine go_cSv2 (pc' := 38) (M' := mX7_moveAll) (d' := 1) dX7_behind_35 rfl csRX7_193 (by decide) rfl (Nat.le_of_ble_eq_true rfl) ?_
  refine tX7_mv_63_60 h01 hn (fun g2 h2 f2 => ?_)
  refine go_iload (pc' := 40) dX7_behind_38 rfl rfl ?_
  refine go_iret dX7_behind_40 (pg_narI _) ?_
  exact k _ h2 (h01.fr f2 (by decide)) (FR.tr f1 f2)

set_option maxHeartbeats 4000000 in
set_option maxRecDepth 20000 in
theorem tX7_ahead {sc : pg_Sc} {g : pg_S} {K : Int32 → pg_S → Prop} {T : TW} {n : Nat} {y c x : Int32} (h : MR g 60 T n) (wf : WF T n) (k1 : ¬ (PP n y ∧ UP c 60 ∧ UP x 1) → K (-1) g) (k2 : PP n y → UP c 60 → UP x 1 → ∀ g', MR g' 60 T n → FM g g' → K (if x = 0 then hoursF n (pn c) T 5 (pn y) else hoursF n (pn c) T 6 (pn y)) g') : pg_Cal sc 6 mX7_ahead [.ref 59, .int y, .int c, .int x] g (pg_ki K) := by
  refine pg_Cal.of rfl (Nat.le_of_ble_eq_true rfl) rfl ?_
  have hn := wf.1
  refine go_aload_n (pc' := 1) dX7_ahead_0 rfl rfl ?_
  refine go_iload_n (pc' := 2) dX7_ahead_1 rfl rfl ?_
  refine go_cVi1 (pc' := 5) (M' := mX7_isOne) (d' := 2) dX7_ahead_2 rfl cvRX7_220 rfl rfl (by decide) rfl (Nat.le_of_ble_eq_true rfl) ?_
  refine tX7_isOne h wf ?_
  refine go_if_eq (pc' := 8) (tgt := 27) dX7_ahead_5 rfl (by decide) (fun h_5 => ?_) (fun h_5 => ?_)
  · have h_5 := pg_b0 h_5
    refine go_iconst (pc' := 28) (-1) dX7_ahead_27 rfl (by decide) ?_
    refine go_iret dX7_ahead_28 (pg_narI _) ?_
    exact k1 (fun q => h_5 q.1)
  · have h_5 := pg_b1 h_5
    obtain ⟨p, hp, rfl⟩ := pp_ex h_5
    have ep : pn (nI p) = p := nI_clamp (by omega)
    rw [ep] at k2
    refine go_iload_n (pc' := 9) dX7_ahead_8 rfl rfl ?_
    refine go_iconst (pc' := 10) 0 dX7_ahead_9 rfl (by decide) ?_
    refine go_bipush (pc' := 12) 60 dX7_ahead_10 rfl (by decide) ?_
    refine go_cSi3 (pc' := 15) (M' := mX7_in) (d' := 1) dX7_ahead_12 rfl csRX7_60 (by decide) rfl (Nat.le_of_ble_eq_true rfl) ?_
    refine tX7_in ?_
    refine go_if_eq (pc' := 18) (tgt := 27) dX7_ahead_15 rfl (by decide) (fun h_15 => ?_) (fun h_15 => ?_)
    · have h_15 := pg_b0 h_15
      refine go_iconst (pc' := 28) (-1) dX7_ahead_27 rfl (by decide) ?_
      refine go_iret dX7_ahead_28 (pg_narI _) ?_
      exact k1 (fun q => h_15 q.2.1)
    · have h_15 := pg_b1 h_15
      obtain ⟨m, hm, rfl⟩ := up_ex 60 rfl (by decide) h_15
      have em : pn (nI m) = m := nI_clamp (by omega)
      rw [em] at k2
      refine go_iload_n (pc' := 19) dX7_ahead_18 rfl rfl ?_
      refine go_iconst (pc' := 20) 0 dX7_ahead_19 rfl (by decide) ?_
      refine go_iconst (pc' := 21) 1 dX7_ahead_20 rfl (by decide) ?_
      refine go_cSi3 (pc' := 24) (M' := mX7_in) (d' := 1) dX7_ahead_21 rfl csRX7_60 (by decide) rfl (Nat.le_of_ble_eq_true rfl) ?_
      refine tX7_in ?_
      refine go_if_ne (pc' := 27) (tgt := 29) dX7_ahead_24 rfl (by decide) (fun h_24 => ?_) (fun h_24 => ?_)
      · have h_24 := pg_b1 h_24
        refine go_aload_n (pc' := 30) dX7_ahead_29 rfl rfl ?_
        refine go_getR (pc' := 33) dX7_ahead_30 rfl flRX7_7 rfl rfl ?_
        refine go_aload_n (pc' := 34) dX7_ahead_33 rfl rfl ?_
        refine go_getR (pc' := 37) dX7_ahead_34 rfl flRX7_19 rfl rfl ?_
        refine go_cSv2 (pc' := 40) (M' := mX7_moveAll) (d' := 1) dX7_ahead_37 rfl csRX7_193 (by decide) rfl (Nat.le_of_ble_eq_true rfl) ?_
        refine tX7_mv_60_63 h hn (fun g1 h1 f1 => ?_)
        have h11 := h.fr f1 (by decide)
        refine go_aload_n (pc' := 41) dX7_ahead_40 rfl rfl ?_
        refine go_iload_n (pc' := 42) dX7_ahead_41 rfl rfl ?_
        refine go_iload_n (pc' := 43) dX7_ahead_42 rfl rfl ?_
        refine go_iload_n (pc' := 44) dX7_ahead_43 rfl rfl ?_
        refine go_if_ne (pc' := 47) (tgt := 51) dX7_ahead_44 rfl (by decide) (fun h_44 => ?_) (fun h_44 => ?_)
        · refine go_iconst (pc' := 52) 4 dX7_ahead_51 rfl (by decide) ?_
          refine go_cVi3 (pc' := 55) (M' := mX7_behind) (d' := 5) dX7_ahead_52 rfl cvRX7_279 rfl rfl (by decide) rfl (Nat.le_of_ble_eq_true rfl) ?_
          refine tX7_behind (q := 4) h11 h1 wf hp (by decide) (by omega) (fun g2 h2 h3 f2 => ?_)
          refine go_iret dX7_ahead_55 (pg_narI _) ?_
          rw [if_neg h_44] at k2
          exact k2 h_5 h_15 h_24 _ h2 (FM.tr (FM.b f1) (FM.a f2))
        · refine go_iconst (pc' := 48) 3 dX7_ahead_47 rfl (by decide) ?_
          refine go_goto (pc' := 52) dX7_ahead_48 (by decide) ?_
          refine go_cVi3 (pc' := 55) (M' := mX7_behind) (d' := 5) dX7_ahead_52 rfl cvRX7_279 rfl rfl (by decide) rfl (Nat.le_of_ble_eq_true rfl) ?_
          refine tX7_behind (q := 3) h11 h1 wf hp (by decide) (by omega) (fun g2 h2 h3 f2 => ?_)
          refine go_iret dX7_ahead_55 (pg_narI _) ?_
          rw [if_pos h_44] at k2
          exact k2 h_5 h_15 h_24 _ h2 (FM.tr (FM.b f1) (FM.a f2))
      · have h_24 := pg_b0 h_24
        refine go_iconst (pc' := 28) (-1) dX7_ahead_27 rfl (by decide) ?_
        refine go_iret dX7_ahead_28 (pg_narI _) ?_
        exact k1 (fun q => h_24 q.2.2)

set_option maxHeartbeats 4000000 in
set_option maxRecDepth 20000 in
theorem lskcm {sc : pg_Sc} {K : Int32 → pg_S → Prop} {n : Nat} {p q : Nat} (hp : p < n) (hq : q < n) : ∀ (m : Nat) (i : Nat) (T : TW) (g : pg_S), i + m = 61 → WF T n → CR g 10 T n → (∀ g', FR 10 19 g g' → K (seekF n (fun T => knB T p q) m i T) g') → pg_Go sc 4 mX6_meet 24 [(0, .ref 0), (1, .int (nI p)), (2, .int (nI q)), (3, .int (nI i))] [] g (pg_ki K) := by
  intro m
  induction m with
  | zero =>
    intro i T g hi wf h k
    obtain rfl : i = 61 := by omega
    refine go_iload_n (pc' := 25) dX6_meet_24 rfl rfl ?_
    refine go_bipush (pc' := 27) 60 dX6_meet_25 rfl (by decide) ?_
    refine go_icmp_gt (pc' := 30) (tgt := 57) dX6_meet_27 rfl (by decide) (fun h_27 => ?_) (fun h_27 => absurd (by decide) h_27)
    refine go_bipush (pc' := 59) (-3) dX6_meet_57 rfl (by decide) ?_
    refine go_iret dX6_meet_59 (pg_narI _) ?_
    exact k _ FR.rf
  | succ m ih =>
    intro i T g hi wf h k
    have hn := wf.1
    have hin : i ≤ 60 := by omega
    simp only [seekF] at k
    refine go_iload_n (pc' := 25) dX6_meet_24 rfl rfl ?_
    refine go_bipush (pc' := 27) 60 dX6_meet_25 rfl (by decide) ?_
    refine go_icmp_gt (pc' := 30) (tgt := 57) dX6_meet_27 rfl (by decide) (fun h_27 => absurd h_27 (nI_nlt (a := 60) hin (by decide))) (fun h_27 => ?_)
    refine go_aload_n (pc' := 31) dX6_meet_30 rfl rfl ?_
    refine go_getR (pc' := 34) dX6_meet_31 rfl flRX6_16 rfl rfl ?_
    refine go_iload_n (pc' := 35) dX6_meet_34 rfl rfl ?_
    refine go_iload_n (pc' := 36) dX6_meet_35 rfl rfl ?_
    refine go_cVi2 (pc' := 39) (M' := mX5_knowEachOther) (d' := 1) dX6_meet_36 rfl cvRX6_144 rfl rfl (by decide) rfl (Nat.le_of_ble_eq_true rfl) ?_
    refine tX5_know_10 h wf hp hq ?_
    refine go_if_eq (pc' := 42) (tgt := 44) dX6_meet_39 rfl (by decide) (fun h_39 => ?_) (fun h_39 => ?_)
    · have h_39 := pg_b0 h_39
      refine go_aload_n (pc' := 45) dX6_meet_44 rfl rfl ?_
      refine go_getR (pc' := 48) dX6_meet_45 rfl flRX6_16 rfl rfl ?_
      refine go_cVv0 (pc' := 51) (M' := mX5_spendHour) (d' := 3) dX6_meet_48 rfl cvRX6_171 rfl rfl (by decide) rfl (Nat.le_of_ble_eq_true rfl) ?_
      refine tX5_spendHour_10 h wf (fun g1 h1 f1 => ?_)
      refine go_iinc (pc' := 54) _ dX6_meet_51 rfl rfl (pg_inc _) (by decide) rfl ?_
      refine go_goto (pc' := 24) dX6_meet_54 (by decide) ?_
      rw [if_neg h_39] at k
      exact ih (i + 1) _ _ (by omega) wf.hour h1 (fun g' a => k g' (FR.tr f1 a))
    · have h_39 := pg_b1 h_39
      refine go_iload_n (pc' := 43) dX6_meet_42 rfl rfl ?_
      refine go_iret dX6_meet_43 (pg_narI _) ?_
      rw [if_pos h_39] at k
      exact k _ FR.rf

set_option maxHeartbeats 4000000 in
set_option maxRecDepth 20000 in
theorem tX6_meet {sc : pg_Sc} {g : pg_S} {K : Int32 → pg_S → Prop} {T : TW} {n : Nat} {y x : Int32} (h : CR g 1 T n) (wf : WF T n) (k1 : ¬ (PP n y ∧ PP n x ∧ ¬ y = x) → K (-1) g) (k2 : PP n y → PP n x → ¬ y = x → ∀ g', FR 10 19 g g' → K (seekF n (fun T => knB T (pn y) (pn x)) 61 0 T) g') : pg_Cal sc 4 mX6_meet [.ref 0, .int y, .int x] g (pg_ki K) := by
  refine pg_Cal.of rfl (Nat.le_of_ble_eq_true rfl) rfl ?_
  have hn := wf.1
  refine go_aload_n (pc' := 1) dX6_meet_0 rfl rfl ?_
  refine go_iload_n (pc' := 2) dX6_meet_1 rfl rfl ?_
  refine go_iload_n (pc' := 3) dX6_meet_2 rfl rfl ?_
  refine go_cVi2 (pc' := 6) (M' := mX6_areTwo) (d' := 2) dX6_meet_3 rfl cvRX6_141 rfl rfl (by decide) rfl (Nat.le_of_ble_eq_true rfl) ?_
  refine tX6_areTwo h ?_
  refine go_if_ne (pc' := 9) (tgt := 11) dX6_meet_6 rfl (by decide) (fun h_6 => ?_) (fun h_6 => ?_)
  · have h_6 := pg_b1 h_6
    obtain ⟨h_1, h_2, h_3⟩ := h_6
    obtain ⟨p, hp, rfl⟩ := pp_ex h_1
    have ep : pn (nI p) = p := nI_clamp (by omega)
    obtain ⟨q, hq, rfl⟩ := pp_ex h_2
    have eq : pn (nI q) = q := nI_clamp (by omega)
    rw [ep, eq] at k2
    refine go_aload_n (pc' := 12) dX6_meet_11 rfl rfl ?_
    refine go_getR (pc' := 15) dX6_meet_12 rfl flRX6_16 rfl rfl ?_
    refine go_aload_n (pc' := 16) dX6_meet_15 rfl rfl ?_
    refine go_getR (pc' := 19) dX6_meet_16 rfl flRX6_10 rfl rfl ?_
    refine go_cVv1 (pc' := 22) (M' := mX5_become) (d' := 1) dX6_meet_19 rfl cvRX6_87 rfl rfl (by decide) rfl (Nat.le_of_ble_eq_true rfl) ?_
    refine tX5_become_10_1 h hn (fun g1 h1 f1 => ?_)
    refine go_iconst (pc' := 23) 0 dX6_meet_22 rfl (by decide) ?_
    refine go_istore_n (pc' := 24) dX6_meet_23 rfl (by decide) rfl ?_
    exact lskcm hp hq 61 0 T g1 (by omega) wf h1 (fun g' a => k2 h_1 h_2 h_3 g' (FR.tr f1 a))
  · have h_6 := pg_b0 h_6
    refine go_iconst (pc' := 10) (-1) dX6_meet_9 rfl (by decide) ?_
    refine go_iret dX6_meet_10 (pg_narI _) ?_
    exact k1 (fun q => h_6 q)

set_option maxHeartbeats 4000000 in
set_option maxRecDepth 20000 in
theorem lskcg {sc : pg_Sc} {K : Int32 → pg_S → Prop} {n : Nat}  : ∀ (m : Nat) (i : Nat) (T : TW) (g : pg_S), i + m = 61 → WF T n → CR g 10 T n → (∀ g', FR 10 19 g g' → K (seekF n (gatB n) m i T) g') → pg_Go sc 4 mX6_gather 13 [(0, .ref 0), (1, .int (nI i))] [] g (pg_ki K) := by
  intro m
  induction m with
  | zero =>
    intro i T g hi wf h k
    obtain rfl : i = 61 := by omega
    refine go_iload_n (pc' := 14) dX6_gather_13 rfl rfl ?_
    refine go_bipush (pc' := 16) 60 dX6_gather_14 rfl (by decide) ?_
    refine go_icmp_gt (pc' := 19) (tgt := 48) dX6_gather_16 rfl (by decide) (fun h_16 => ?_) (fun h_16 => absurd (by decide) h_16)
    refine go_bipush (pc' := 50) (-3) dX6_gather_48 rfl (by decide) ?_
    refine go_iret dX6_gather_50 (pg_narI _) ?_
    exact k _ FR.rf
  | succ m ih =>
    intro i T g hi wf h k
    have hn := wf.1
    have hin : i ≤ 60 := by omega
    simp only [seekF] at k
    refine go_iload_n (pc' := 14) dX6_gather_13 rfl rfl ?_
    refine go_bipush (pc' := 16) 60 dX6_gather_14 rfl (by decide) ?_
    refine go_icmp_gt (pc' := 19) (tgt := 48) dX6_gather_16 rfl (by decide) (fun h_16 => absurd h_16 (nI_nlt (a := 60) hin (by decide))) (fun h_16 => ?_)
    refine go_aload_n (pc' := 20) dX6_gather_19 rfl rfl ?_
    refine go_getR (pc' := 23) dX6_gather_20 rfl flRX6_16 rfl rfl ?_
    refine go_cVi0 (pc' := 26) (M' := mX5_placesTaken) (d' := 1) dX6_gather_23 rfl cvRX6_180 rfl rfl (by decide) rfl (Nat.le_of_ble_eq_true rfl) ?_
    refine tX5_placesTaken_10 h wf ?_
    refine go_cSi1 (pc' := 29) (M' := mJ6_bitCount_0f7a4) (d' := 1) dX6_gather_26 rfl csRX6_189 (by decide) rfl (Nat.le_of_ble_eq_true rfl) ?_
    refine tJ6_bitCount_0f7a4 ?_
    refine go_iconst (pc' := 30) 1 dX6_gather_29 rfl (by decide) ?_
    refine go_icmp_gt (pc' := 33) (tgt := 35) dX6_gather_30 rfl (by decide) (fun h_30 => ?_) (fun h_30 => ?_)
    · refine go_aload_n (pc' := 36) dX6_gather_35 rfl rfl ?_
      refine go_getR (pc' := 39) dX6_gather_36 rfl flRX6_16 rfl rfl ?_
      refine go_cVv0 (pc' := 42) (M' := mX5_spendHour) (d' := 3) dX6_gather_39 rfl cvRX6_171 rfl rfl (by decide) rfl (Nat.le_of_ble_eq_true rfl) ?_
      refine tX5_spendHour_10 h wf (fun g1 h1 f1 => ?_)
      refine go_iinc (pc' := 45) _ dX6_gather_42 rfl rfl (pg_inc _) (by decide) rfl ?_
      refine go_goto (pc' := 13) dX6_gather_45 (by decide) ?_
      rw [if_neg (fun e => pg_lt_nle h_30 (gatB_iff.mp e))] at k
      exact ih (i + 1) _ _ (by omega) wf.hour h1 (fun g' a => k g' (FR.tr f1 a))
    · refine go_iload_n (pc' := 34) dX6_gather_33 rfl rfl ?_
      refine go_iret dX6_gather_34 (pg_narI _) ?_
      rw [if_pos (gatB_iff.mpr (pg_nlt_le h_30))] at k
      exact k _ FR.rf

set_option maxHeartbeats 4000000 in
set_option maxRecDepth 20000 in
theorem tX6_gather {sc : pg_Sc} {g : pg_S} {K : Int32 → pg_S → Prop} {T : TW} {n : Nat}  (h : CR g 1 T n) (wf : WF T n) (k2 : ∀ g', FR 10 19 g g' → K (seekF n (gatB n) 61 0 T) g') : pg_Cal sc 4 mX6_gather [.ref 0] g (pg_ki K) := by
  refine pg_Cal.of rfl (Nat.le_of_ble_eq_true rfl) rfl ?_
  have hn := wf.1
  refine go_aload_n (pc' := 1) dX6_gather_0 rfl rfl ?_
  refine go_getR (pc' := 4) dX6_gather_1 rfl flRX6_16 rfl rfl ?_
  refine go_aload_n (pc' := 5) dX6_gather_4 rfl rfl ?_
  refine go_getR (pc' := 8) dX6_gather_5 rfl flRX6_10 rfl rfl ?_
  refine go_cVv1 (pc' := 11) (M' := mX5_become) (d' := 1) dX6_gather_8 rfl cvRX6_87 rfl rfl (by decide) rfl (Nat.le_of_ble_eq_true rfl) ?_
  refine tX5_become_10_1 h hn (fun g1 h1 f1 => ?_)
  refine go_iconst (pc' := 12) 0 dX6_gather_11 rfl (by decide) ?_
  refine go_istore_n (pc' := 13) dX6_gather_12 rfl (by decide) rfl ?_
  exact lskcg 61 0 T g1 (by omega) wf h1 (fun g' a => k2 g' (FR.tr f1 a))

set_option maxHeartbeats 4000000 in
set_option maxRecDepth 20000 in
theorem lskca {sc : pg_Sc} {K : Int32 → pg_S → Prop} {n : Nat} {p : Nat} (hp : p < n) : ∀ (m : Nat) (i : Nat) (T : TW) (g : pg_S), i + m = 61 → WF T n → CR g 10 T n → (∀ g', FR 10 19 g g' → K (seekF n (aloB n p) m i T) g') → pg_Go sc 4 mX6_alone 23 [(0, .ref 0), (1, .int (nI p)), (2, .int (nI i))] [] g (pg_ki K) := by
  intro m
  induction m with
  | zero =>
    intro i T g hi wf h k
    obtain rfl : i = 61 := by omega
    refine go_iload_n (pc' := 24) dX6_alone_23 rfl rfl ?_
    refine go_bipush (pc' := 26) 60 dX6_alone_24 rfl (by decide) ?_
    refine go_icmp_gt (pc' := 29) (tgt := 55) dX6_alone_26 rfl (by decide) (fun h_26 => ?_) (fun h_26 => absurd (by decide) h_26)
    refine go_bipush (pc' := 57) (-3) dX6_alone_55 rfl (by decide) ?_
    refine go_iret dX6_alone_57 (pg_narI _) ?_
    exact k _ FR.rf
  | succ m ih =>
    intro i T g hi wf h k
    have hn := wf.1
    have hin : i ≤ 60 := by omega
    simp only [seekF] at k
    refine go_iload_n (pc' := 24) dX6_alone_23 rfl rfl ?_
    refine go_bipush (pc' := 26) 60 dX6_alone_24 rfl (by decide) ?_
    refine go_icmp_gt (pc' := 29) (tgt := 55) dX6_alone_26 rfl (by decide) (fun h_26 => absurd h_26 (nI_nlt (a := 60) hin (by decide))) (fun h_26 => ?_)
    refine go_aload_n (pc' := 30) dX6_alone_29 rfl rfl ?_
    refine go_getR (pc' := 33) dX6_alone_30 rfl flRX6_16 rfl rfl ?_
    refine go_iload_n (pc' := 34) dX6_alone_33 rfl rfl ?_
    refine go_cVi1 (pc' := 37) (M' := mX5_othersBeside) (d' := 1) dX6_alone_34 rfl cvRX6_130 rfl rfl (by decide) rfl (Nat.le_of_ble_eq_true rfl) ?_
    refine tX5_othersBeside_10 h wf hp ?_
    refine go_if_ne (pc' := 40) (tgt := 42) dX6_alone_37 rfl (by decide) (fun h_37 => ?_) (fun h_37 => ?_)
    · refine go_aload_n (pc' := 43) dX6_alone_42 rfl rfl ?_
      refine go_getR (pc' := 46) dX6_alone_43 rfl flRX6_16 rfl rfl ?_
      refine go_cVv0 (pc' := 49) (M' := mX5_spendHour) (d' := 3) dX6_alone_46 rfl cvRX6_171 rfl rfl (by decide) rfl (Nat.le_of_ble_eq_true rfl) ?_
      refine tX5_spendHour_10 h wf (fun g1 h1 f1 => ?_)
      refine go_iinc (pc' := 52) _ dX6_alone_49 rfl rfl (pg_inc _) (by decide) rfl ?_
      refine go_goto (pc' := 23) dX6_alone_52 (by decide) ?_
      rw [if_neg (fun e => h_37 (aloB_iff.mp e))] at k
      exact ih (i + 1) _ _ (by omega) wf.hour h1 (fun g' a => k g' (FR.tr f1 a))
    · refine go_iload_n (pc' := 41) dX6_alone_40 rfl rfl ?_
      refine go_iret dX6_alone_41 (pg_narI _) ?_
      rw [if_pos (aloB_iff.mpr h_37)] at k
      exact k _ FR.rf

set_option maxHeartbeats 4000000 in
set_option maxRecDepth 20000 in
theorem tX6_alone {sc : pg_Sc} {g : pg_S} {K : Int32 → pg_S → Prop} {T : TW} {n : Nat} {y : Int32} (h : CR g 1 T n) (wf : WF T n) (k1 : ¬ PP n y → K (-1) g) (k2 : PP n y → ∀ g', FR 10 19 g g' → K (seekF n (aloB n (pn y)) 61 0 T) g') : pg_Cal sc 4 mX6_alone [.ref 0, .int y] g (pg_ki K) := by
  refine pg_Cal.of rfl (Nat.le_of_ble_eq_true rfl) rfl ?_
  have hn := wf.1
  refine go_aload_n (pc' := 1) dX6_alone_0 rfl rfl ?_
  refine go_iload_n (pc' := 2) dX6_alone_1 rfl rfl ?_
  refine go_cVi1 (pc' := 5) (M' := mX6_isPerson) (d' := 1) dX6_alone_2 rfl cvRX6_111 rfl rfl (by decide) rfl (Nat.le_of_ble_eq_true rfl) ?_
  refine tX6_isPerson h ?_
  refine go_if_ne (pc' := 8) (tgt := 10) dX6_alone_5 rfl (by decide) (fun h_5 => ?_) (fun h_5 => ?_)
  · have h_5 := pg_b1 h_5
    obtain ⟨p, hp, rfl⟩ := pp_ex h_5
    have ep : pn (nI p) = p := nI_clamp (by omega)
    rw [ep] at k2
    refine go_aload_n (pc' := 11) dX6_alone_10 rfl rfl ?_
    refine go_getR (pc' := 14) dX6_alone_11 rfl flRX6_16 rfl rfl ?_
    refine go_aload_n (pc' := 15) dX6_alone_14 rfl rfl ?_
    refine go_getR (pc' := 18) dX6_alone_15 rfl flRX6_10 rfl rfl ?_
    refine go_cVv1 (pc' := 21) (M' := mX5_become) (d' := 1) dX6_alone_18 rfl cvRX6_87 rfl rfl (by decide) rfl (Nat.le_of_ble_eq_true rfl) ?_
    refine tX5_become_10_1 h hn (fun g1 h1 f1 => ?_)
    refine go_iconst (pc' := 22) 0 dX6_alone_21 rfl (by decide) ?_
    refine go_istore_n (pc' := 23) dX6_alone_22 rfl (by decide) rfl ?_
    exact lskca hp 61 0 T g1 (by omega) wf h1 (fun g' a => k2 h_5 g' (FR.tr f1 a))
  · have h_5 := pg_b0 h_5
    refine go_iconst (pc' := 9) (-1) dX6_alone_8 rfl (by decide) ?_
    refine go_iret dX6_alone_9 (pg_narI _) ?_
    exact k1 (fun q => h_5 q)

set_option maxHeartbeats 4000000 in
set_option maxRecDepth 20000 in
theorem lskmm {sc : pg_Sc} {K : Int32 → pg_S → Prop} {n : Nat} {T0 : TW} {p q : Nat} (hp : p < n) (hq : q < n) : ∀ (m : Nat) (i : Nat) (T : TW) (g : pg_S), i + m = 61 → WF T n → MR g 60 T n → MR g 63 T0 n → (∀ g', MR g' 60 T0 n → FM g g' → K (seekF n (fun T => knB T p q) m i T) g') → pg_Go sc 5 mX7_meet 36 [(0, .ref 59), (1, .int (nI p)), (2, .int (nI q)), (3, .int (nI i))] [] g (pg_ki K) := by
  intro m
  induction m with
  | zero =>
    intro i T g hi wf h h0 k
    have hn := wf.1
    obtain rfl : i = 61 := by omega
    refine go_iload_n (pc' := 37) dX7_meet_36 rfl rfl ?_
    refine go_bipush (pc' := 39) 60 dX7_meet_37 rfl (by decide) ?_
    refine go_icmp_gt (pc' := 42) (tgt := 61) dX7_meet_39 rfl (by decide) (fun h_39 => ?_) (fun h_39 => absurd (by decide) h_39)
    refine go_aload_n (pc' := 62) dX7_meet_61 rfl rfl ?_
    refine go_getR (pc' := 65) dX7_meet_62 rfl flRX7_19 rfl rfl ?_
    refine go_aload_n (pc' := 66) dX7_meet_65 rfl rfl ?_
    refine go_getR (pc' := 69) dX7_meet_66 rfl flRX7_7 rfl rfl ?_
    refine go_cSv2 (pc' := 72) (M' := mX7_moveAll) (d' := 1) dX7_meet_69 rfl csRX7_193 (by decide) rfl (Nat.le_of_ble_eq_true rfl) ?_
    refine tX7_mv_63_60 h0 hn (fun g2 h2 f2 => ?_)
    refine go_iload_n (pc' := 73) dX7_meet_72 rfl rfl ?_
    refine go_bipush (pc' := 75) 60 dX7_meet_73 rfl (by decide) ?_
    refine go_icmp_le (pc' := 78) (tgt := 83) dX7_meet_75 rfl (by decide) (fun h_75 => absurd h_75 (by decide)) (fun h_75 => ?_)
    refine go_bipush (pc' := 80) (-3) dX7_meet_78 rfl (by decide) ?_
    refine go_goto (pc' := 84) dX7_meet_80 (by decide) ?_
    refine go_iret dX7_meet_84 (pg_narI _) ?_
    exact k _ h2 (FM.a f2)
  | succ m ih =>
    intro i T g hi wf h h0 k
    have hn := wf.1
    have hin : i ≤ 60 := by omega
    simp only [seekF] at k
    refine go_iload_n (pc' := 37) dX7_meet_36 rfl rfl ?_
    refine go_bipush (pc' := 39) 60 dX7_meet_37 rfl (by decide) ?_
    refine go_icmp_gt (pc' := 42) (tgt := 61) dX7_meet_39 rfl (by decide) (fun h_39 => absurd h_39 (nI_nlt (a := 60) hin (by decide))) (fun h_39 => ?_)
    refine go_aload_n (pc' := 43) dX7_meet_42 rfl rfl ?_
    refine go_iload_n (pc' := 44) dX7_meet_43 rfl rfl ?_
    refine go_iload_n (pc' := 45) dX7_meet_44 rfl rfl ?_
    refine go_cVi2 (pc' := 48) (M' := mX7_isKnown) (d' := 2) dX7_meet_45 rfl cvRX7_232 rfl rfl (by decide) rfl (Nat.le_of_ble_eq_true rfl) ?_
    refine tX7_isKnown h wf hp hq ?_
    refine go_if_ne (pc' := 51) (tgt := 61) dX7_meet_48 rfl (by decide) (fun h_48 => ?_) (fun h_48 => ?_)
    · have h_48 := pg_b1 h_48
      refine go_aload_n (pc' := 62) dX7_meet_61 rfl rfl ?_
      refine go_getR (pc' := 65) dX7_meet_62 rfl flRX7_19 rfl rfl ?_
      refine go_aload_n (pc' := 66) dX7_meet_65 rfl rfl ?_
      refine go_getR (pc' := 69) dX7_meet_66 rfl flRX7_7 rfl rfl ?_
      refine go_cSv2 (pc' := 72) (M' := mX7_moveAll) (d' := 1) dX7_meet_69 rfl csRX7_193 (by decide) rfl (Nat.le_of_ble_eq_true rfl) ?_
      refine tX7_mv_63_60 h0 hn (fun g2 h2 f2 => ?_)
      refine go_iload_n (pc' := 73) dX7_meet_72 rfl rfl ?_
      refine go_bipush (pc' := 75) 60 dX7_meet_73 rfl (by decide) ?_
      refine go_icmp_le (pc' := 78) (tgt := 83) dX7_meet_75 rfl (by decide) (fun h_75 => ?_) (fun h_75 => absurd (nI_le (b := 60) hin (by decide)) h_75)
      refine go_iload_n (pc' := 84) dX7_meet_83 rfl rfl ?_
      refine go_iret dX7_meet_84 (pg_narI _) ?_
      rw [if_pos h_48] at k
      exact k _ h2 (FM.a f2)
    · have h_48 := pg_b0 h_48
      refine go_aload_n (pc' := 52) dX7_meet_51 rfl rfl ?_
      refine go_cVv0 (pc' := 55) (M' := mX7_hourGoes) (d' := 4) dX7_meet_52 rfl cvRX7_251 rfl rfl (by decide) rfl (Nat.le_of_ble_eq_true rfl) ?_
      refine tX7_hourGoes h wf (fun g1 h1 f1 => ?_)
      refine go_iinc (pc' := 58) _ dX7_meet_55 rfl rfl (pg_inc _) (by decide) rfl ?_
      refine go_goto (pc' := 36) dX7_meet_58 (by decide) ?_
      rw [if_neg h_48] at k
      exact ih (i + 1) _ _ (by omega) wf.hour h1 (h0.fr f1 (by decide)) (fun g' a b => k g' a (FM.tr (FM.a f1) b))

set_option maxHeartbeats 4000000 in
set_option maxRecDepth 20000 in
theorem tX7_meet {sc : pg_Sc} {g : pg_S} {K : Int32 → pg_S → Prop} {T : TW} {n : Nat} {y x : Int32} (h : MR g 60 T n) (wf : WF T n) (k1 : ¬ (PP n y ∧ PP n x ∧ ¬ y = x) → K (-1) g) (k2 : PP n y → PP n x → ¬ y = x → ∀ g', MR g' 60 T n → FM g g' → K (seekF n (fun T => knB T (pn y) (pn x)) 61 0 T) g') : pg_Cal sc 5 mX7_meet [.ref 59, .int y, .int x] g (pg_ki K) := by
  refine pg_Cal.of rfl (Nat.le_of_ble_eq_true rfl) rfl ?_
  have hn := wf.1
  refine go_aload_n (pc' := 1) dX7_meet_0 rfl rfl ?_
  refine go_iload_n (pc' := 2) dX7_meet_1 rfl rfl ?_
  refine go_cVi1 (pc' := 5) (M' := mX7_isOne) (d' := 2) dX7_meet_2 rfl cvRX7_220 rfl rfl (by decide) rfl (Nat.le_of_ble_eq_true rfl) ?_
  refine tX7_isOne h wf ?_
  refine go_if_eq (pc' := 8) (tgt := 21) dX7_meet_5 rfl (by decide) (fun h_5 => ?_) (fun h_5 => ?_)
  · have h_5 := pg_b0 h_5
    refine go_iconst (pc' := 22) (-1) dX7_meet_21 rfl (by decide) ?_
    refine go_iret dX7_meet_22 (pg_narI _) ?_
    exact k1 (fun q => h_5 q.1)
  · have h_5 := pg_b1 h_5
    obtain ⟨p, hp, rfl⟩ := pp_ex h_5
    have ep : pn (nI p) = p := nI_clamp (by omega)
    rw [ep] at k2
    refine go_aload_n (pc' := 9) dX7_meet_8 rfl rfl ?_
    refine go_iload_n (pc' := 10) dX7_meet_9 rfl rfl ?_
    refine go_cVi1 (pc' := 13) (M' := mX7_isOne) (d' := 2) dX7_meet_10 rfl cvRX7_220 rfl rfl (by decide) rfl (Nat.le_of_ble_eq_true rfl) ?_
    refine tX7_isOne h wf ?_
    refine go_if_eq (pc' := 16) (tgt := 21) dX7_meet_13 rfl (by decide) (fun h_13 => ?_) (fun h_13 => ?_)
    · have h_13 := pg_b0 h_13
      refine go_iconst (pc' := 22) (-1) dX7_meet_21 rfl (by decide) ?_
      refine go_iret dX7_meet_22 (pg_narI _) ?_
      exact k1 (fun q => h_13 q.2.1)
    · have h_13 := pg_b1 h_13
      obtain ⟨q, hq, rfl⟩ := pp_ex h_13
      have eq : pn (nI q) = q := nI_clamp (by omega)
      rw [eq] at k2
      refine go_iload_n (pc' := 17) dX7_meet_16 rfl rfl ?_
      refine go_iload_n (pc' := 18) dX7_meet_17 rfl rfl ?_
      refine go_icmp_ne (pc' := 21) (tgt := 23) dX7_meet_18 rfl (by decide) (fun h_18 => ?_) (fun h_18 => ?_)
      · refine go_aload_n (pc' := 24) dX7_meet_23 rfl rfl ?_
        refine go_getR (pc' := 27) dX7_meet_24 rfl flRX7_7 rfl rfl ?_
        refine go_aload_n (pc' := 28) dX7_meet_27 rfl rfl ?_
        refine go_getR (pc' := 31) dX7_meet_28 rfl flRX7_19 rfl rfl ?_
        refine go_cSv2 (pc' := 34) (M' := mX7_moveAll) (d' := 1) dX7_meet_31 rfl csRX7_193 (by decide) rfl (Nat.le_of_ble_eq_true rfl) ?_
        refine tX7_mv_60_63 h hn (fun g1 h1 f1 => ?_)
        have h11 := h.fr f1 (by decide)
        refine go_iconst (pc' := 35) 0 dX7_meet_34 rfl (by decide) ?_
        refine go_istore_n (pc' := 36) dX7_meet_35 rfl (by decide) rfl ?_
        exact lskmm hp hq 61 0 T g1 (by omega) wf h11 h1 (fun g' a b => k2 h_5 h_13 h_18 g' a (FM.tr (FM.b f1) b))
      · refine go_iconst (pc' := 22) (-1) dX7_meet_21 rfl (by decide) ?_
        refine go_iret dX7_meet_22 (pg_narI _) ?_
        exact k1 (fun z => z.2.2 h_18)

set_option maxHeartbeats 4000000 in
set_option maxRecDepth 20000 in
theorem lskmg {sc : pg_Sc} {K : Int32 → pg_S → Prop} {n : Nat} {T0 : TW}  : ∀ (m : Nat) (i : Nat) (T : TW) (g : pg_S), i + m = 61 → WF T n → MR g 60 T n → MR g 63 T0 n → (∀ g', MR g' 60 T0 n → FM g g' → K (seekF n (gatB n) m i T) g') → pg_Go sc 5 mX7_gather 13 [(0, .ref 59), (1, .int (nI i))] [] g (pg_ki K) := by
  intro m
  induction m with
  | zero =>
    intro i T g hi wf h h0 k
    have hn := wf.1
    obtain rfl : i = 61 := by omega
    refine go_iload_n (pc' := 14) dX7_gather_13 rfl rfl ?_
    refine go_bipush (pc' := 16) 60 dX7_gather_14 rfl (by decide) ?_
    refine go_icmp_gt (pc' := 19) (tgt := 40) dX7_gather_16 rfl (by decide) (fun h_16 => ?_) (fun h_16 => absurd (by decide) h_16)
    refine go_aload_n (pc' := 41) dX7_gather_40 rfl rfl ?_
    refine go_getR (pc' := 44) dX7_gather_41 rfl flRX7_19 rfl rfl ?_
    refine go_aload_n (pc' := 45) dX7_gather_44 rfl rfl ?_
    refine go_getR (pc' := 48) dX7_gather_45 rfl flRX7_7 rfl rfl ?_
    refine go_cSv2 (pc' := 51) (M' := mX7_moveAll) (d' := 1) dX7_gather_48 rfl csRX7_193 (by decide) rfl (Nat.le_of_ble_eq_true rfl) ?_
    refine tX7_mv_63_60 h0 hn (fun g2 h2 f2 => ?_)
    refine go_iload_n (pc' := 52) dX7_gather_51 rfl rfl ?_
    refine go_bipush (pc' := 54) 60 dX7_gather_52 rfl (by decide) ?_
    refine go_icmp_le (pc' := 57) (tgt := 62) dX7_gather_54 rfl (by decide) (fun h_54 => absurd h_54 (by decide)) (fun h_54 => ?_)
    refine go_bipush (pc' := 59) (-3) dX7_gather_57 rfl (by decide) ?_
    refine go_goto (pc' := 63) dX7_gather_59 (by decide) ?_
    refine go_iret dX7_gather_63 (pg_narI _) ?_
    exact k _ h2 (FM.a f2)
  | succ m ih =>
    intro i T g hi wf h h0 k
    have hn := wf.1
    have hin : i ≤ 60 := by omega
    simp only [seekF] at k
    refine go_iload_n (pc' := 14) dX7_gather_13 rfl rfl ?_
    refine go_bipush (pc' := 16) 60 dX7_gather_14 rfl (by decide) ?_
    refine go_icmp_gt (pc' := 19) (tgt := 40) dX7_gather_16 rfl (by decide) (fun h_16 => absurd h_16 (nI_nlt (a := 60) hin (by decide))) (fun h_16 => ?_)
    refine go_aload_n (pc' := 20) dX7_gather_19 rfl rfl ?_
    refine go_cVi0 (pc' := 23) (M' := mX7_placeSet) (d' := 2) dX7_gather_20 rfl cvRX7_270 rfl rfl (by decide) rfl (Nat.le_of_ble_eq_true rfl) ?_
    obtain ⟨v, hv, ev⟩ := plc_lt wf
    refine tX7_placeSet h wf ?_
    rw [ev]
    refine go_cSi1 (pc' := 26) (M' := mX7_ones) (d' := 1) dX7_gather_23 rfl csRX7_248 (by decide) rfl (Nat.le_of_ble_eq_true rfl) ?_
    refine tX7_ones hv ?_
    rw [← ev]
    refine go_iconst (pc' := 27) 1 dX7_gather_26 rfl (by decide) ?_
    refine go_icmp_le (pc' := 30) (tgt := 40) dX7_gather_27 rfl (by decide) (fun h_27 => ?_) (fun h_27 => ?_)
    · refine go_aload_n (pc' := 41) dX7_gather_40 rfl rfl ?_
      refine go_getR (pc' := 44) dX7_gather_41 rfl flRX7_19 rfl rfl ?_
      refine go_aload_n (pc' := 45) dX7_gather_44 rfl rfl ?_
      refine go_getR (pc' := 48) dX7_gather_45 rfl flRX7_7 rfl rfl ?_
      refine go_cSv2 (pc' := 51) (M' := mX7_moveAll) (d' := 1) dX7_gather_48 rfl csRX7_193 (by decide) rfl (Nat.le_of_ble_eq_true rfl) ?_
      refine tX7_mv_63_60 h0 hn (fun g2 h2 f2 => ?_)
      refine go_iload_n (pc' := 52) dX7_gather_51 rfl rfl ?_
      refine go_bipush (pc' := 54) 60 dX7_gather_52 rfl (by decide) ?_
      refine go_icmp_le (pc' := 57) (tgt := 62) dX7_gather_54 rfl (by decide) (fun h_54 => ?_) (fun h_54 => absurd (nI_le (b := 60) hin (by decide)) h_54)
      refine go_iload_n (pc' := 63) dX7_gather_62 rfl rfl ?_
      refine go_iret dX7_gather_63 (pg_narI _) ?_
      rw [if_pos (gatB_iff.mpr h_27)] at k
      exact k _ h2 (FM.a f2)
    · refine go_aload_n (pc' := 31) dX7_gather_30 rfl rfl ?_
      refine go_cVv0 (pc' := 34) (M' := mX7_hourGoes) (d' := 4) dX7_gather_31 rfl cvRX7_251 rfl rfl (by decide) rfl (Nat.le_of_ble_eq_true rfl) ?_
      refine tX7_hourGoes h wf (fun g1 h1 f1 => ?_)
      refine go_iinc (pc' := 37) _ dX7_gather_34 rfl rfl (pg_inc _) (by decide) rfl ?_
      refine go_goto (pc' := 13) dX7_gather_37 (by decide) ?_
      rw [if_neg (fun e => h_27 (gatB_iff.mp e))] at k
      exact ih (i + 1) _ _ (by omega) wf.hour h1 (h0.fr f1 (by decide)) (fun g' a b => k g' a (FM.tr (FM.a f1) b))

set_option maxHeartbeats 4000000 in
set_option maxRecDepth 20000 in
theorem tX7_gather {sc : pg_Sc} {g : pg_S} {K : Int32 → pg_S → Prop} {T : TW} {n : Nat}  (h : MR g 60 T n) (wf : WF T n) (k2 : ∀ g', MR g' 60 T n → FM g g' → K (seekF n (gatB n) 61 0 T) g') : pg_Cal sc 5 mX7_gather [.ref 59] g (pg_ki K) := by
  refine pg_Cal.of rfl (Nat.le_of_ble_eq_true rfl) rfl ?_
  have hn := wf.1
  refine go_aload_n (pc' := 1) dX7_gather_0 rfl rfl ?_
  refine go_getR (pc' := 4) dX7_gather_1 rfl flRX7_7 rfl rfl ?_
  refine go_aload_n (pc' := 5) dX7_gather_4 rfl rfl ?_
  refine go_getR (pc' := 8) dX7_gather_5 rfl flRX7_19 rfl rfl ?_
  refine go_cSv2 (pc' := 11) (M' := mX7_moveAll) (d' := 1) dX7_gather_8 rfl csRX7_193 (by decide) rfl (Nat.le_of_ble_eq_true rfl) ?_
  refine tX7_mv_60_63 h hn (fun g1 h1 f1 => ?_)
  have h11 := h.fr f1 (by decide)
  refine go_iconst (pc' := 12) 0 dX7_gather_11 rfl (by decide) ?_
  refine go_istore_n (pc' := 13) dX7_gather_12 rfl (by decide) rfl ?_
  exact lskmg 61 0 T g1 (by omega) wf h11 h1 (fun g' a b => k2 g' a (FM.tr (FM.b f1) b))

set_option maxHeartbeats 4000000 in
set_option maxRecDepth 20000 in
theorem lskma {sc : pg_Sc} {K : Int32 → pg_S → Prop} {n : Nat} {T0 : TW} {p : Nat} (hp : p < n) : ∀ (m : Nat) (i : Nat) (T : TW) (g : pg_S), i + m = 61 → WF T n → MR g 60 T n → MR g 63 T0 n → (∀ g', MR g' 60 T0 n → FM g g' → K (seekF n (aloB n p) m i T) g') → pg_Go sc 5 mX7_alone 23 [(0, .ref 59), (1, .int (nI p)), (2, .int (nI i))] [] g (pg_ki K) := by
  intro m
  induction m with
  | zero =>
    intro i T g hi wf h h0 k
    have hn := wf.1
    obtain rfl : i = 61 := by omega
    refine go_iload_n (pc' := 24) dX7_alone_23 rfl rfl ?_
    refine go_bipush (pc' := 26) 60 dX7_alone_24 rfl (by decide) ?_
    refine go_icmp_gt (pc' := 29) (tgt := 47) dX7_alone_26 rfl (by decide) (fun h_26 => ?_) (fun h_26 => absurd (by decide) h_26)
    refine go_aload_n (pc' := 48) dX7_alone_47 rfl rfl ?_
    refine go_getR (pc' := 51) dX7_alone_48 rfl flRX7_19 rfl rfl ?_
    refine go_aload_n (pc' := 52) dX7_alone_51 rfl rfl ?_
    refine go_getR (pc' := 55) dX7_alone_52 rfl flRX7_7 rfl rfl ?_
    refine go_cSv2 (pc' := 58) (M' := mX7_moveAll) (d' := 1) dX7_alone_55 rfl csRX7_193 (by decide) rfl (Nat.le_of_ble_eq_true rfl) ?_
    refine tX7_mv_63_60 h0 hn (fun g2 h2 f2 => ?_)
    refine go_iload_n (pc' := 59) dX7_alone_58 rfl rfl ?_
    refine go_bipush (pc' := 61) 60 dX7_alone_59 rfl (by decide) ?_
    refine go_icmp_le (pc' := 64) (tgt := 69) dX7_alone_61 rfl (by decide) (fun h_61 => absurd h_61 (by decide)) (fun h_61 => ?_)
    refine go_bipush (pc' := 66) (-3) dX7_alone_64 rfl (by decide) ?_
    refine go_goto (pc' := 70) dX7_alone_66 (by decide) ?_
    refine go_iret dX7_alone_70 (pg_narI _) ?_
    exact k _ h2 (FM.a f2)
  | succ m ih =>
    intro i T g hi wf h h0 k
    have hn := wf.1
    have hin : i ≤ 60 := by omega
    simp only [seekF] at k
    refine go_iload_n (pc' := 24) dX7_alone_23 rfl rfl ?_
    refine go_bipush (pc' := 26) 60 dX7_alone_24 rfl (by decide) ?_
    refine go_icmp_gt (pc' := 29) (tgt := 47) dX7_alone_26 rfl (by decide) (fun h_26 => absurd h_26 (nI_nlt (a := 60) hin (by decide))) (fun h_26 => ?_)
    refine go_aload_n (pc' := 30) dX7_alone_29 rfl rfl ?_
    refine go_iload_n (pc' := 31) dX7_alone_30 rfl rfl ?_
    refine go_cVi1 (pc' := 34) (M' := mX7_besides) (d' := 2) dX7_alone_31 rfl cvRX7_223 rfl rfl (by decide) rfl (Nat.le_of_ble_eq_true rfl) ?_
    obtain ⟨v, hv0, hv, ev⟩ := cntF_n (c := besF T p) n 0 0
    refine tX7_besides h wf hp ?_
    refine go_if_le (pc' := 37) (tgt := 47) dX7_alone_34 rfl (by decide) (fun h_34 => ?_) (fun h_34 => ?_)
    · refine go_aload_n (pc' := 48) dX7_alone_47 rfl rfl ?_
      refine go_getR (pc' := 51) dX7_alone_48 rfl flRX7_19 rfl rfl ?_
      refine go_aload_n (pc' := 52) dX7_alone_51 rfl rfl ?_
      refine go_getR (pc' := 55) dX7_alone_52 rfl flRX7_7 rfl rfl ?_
      refine go_cSv2 (pc' := 58) (M' := mX7_moveAll) (d' := 1) dX7_alone_55 rfl csRX7_193 (by decide) rfl (Nat.le_of_ble_eq_true rfl) ?_
      refine tX7_mv_63_60 h0 hn (fun g2 h2 f2 => ?_)
      refine go_iload_n (pc' := 59) dX7_alone_58 rfl rfl ?_
      refine go_bipush (pc' := 61) 60 dX7_alone_59 rfl (by decide) ?_
      refine go_icmp_le (pc' := 64) (tgt := 69) dX7_alone_61 rfl (by decide) (fun h_61 => ?_) (fun h_61 => absurd (nI_le (b := 60) hin (by decide)) h_61)
      refine go_iload_n (pc' := 70) dX7_alone_69 rfl rfl ?_
      refine go_iret dX7_alone_70 (pg_narI _) ?_
      rw [if_pos (aloB_iff.mpr (by rw [show (0 : Int32) = nI 0 from rfl, ev] at h_34 ⊢; rw [show v = 0 from by have := (nI_leI (by omega) (by decide)).mp h_34; omega]))] at k
      exact k _ h2 (FM.a f2)
    · refine go_aload_n (pc' := 38) dX7_alone_37 rfl rfl ?_
      refine go_cVv0 (pc' := 41) (M' := mX7_hourGoes) (d' := 4) dX7_alone_38 rfl cvRX7_251 rfl rfl (by decide) rfl (Nat.le_of_ble_eq_true rfl) ?_
      refine tX7_hourGoes h wf (fun g1 h1 f1 => ?_)
      refine go_iinc (pc' := 44) _ dX7_alone_41 rfl rfl (pg_inc _) (by decide) rfl ?_
      refine go_goto (pc' := 23) dX7_alone_44 (by decide) ?_
      rw [if_neg (fun e => h_34 (by rw [aloB_iff.mp e]; exact Int32.le_refl _))] at k
      exact ih (i + 1) _ _ (by omega) wf.hour h1 (h0.fr f1 (by decide)) (fun g' a b => k g' a (FM.tr (FM.a f1) b))

set_option maxHeartbeats 4000000 in
set_option maxRecDepth 20000 in
theorem tX7_alone {sc : pg_Sc} {g : pg_S} {K : Int32 → pg_S → Prop} {T : TW} {n : Nat} {y : Int32} (h : MR g 60 T n) (wf : WF T n) (k1 : ¬ PP n y → K (-1) g) (k2 : PP n y → ∀ g', MR g' 60 T n → FM g g' → K (seekF n (aloB n (pn y)) 61 0 T) g') : pg_Cal sc 5 mX7_alone [.ref 59, .int y] g (pg_ki K) := by
  refine pg_Cal.of rfl (Nat.le_of_ble_eq_true rfl) rfl ?_
  have hn := wf.1
  refine go_aload_n (pc' := 1) dX7_alone_0 rfl rfl ?_
  refine go_iload_n (pc' := 2) dX7_alone_1 rfl rfl ?_
  refine go_cVi1 (pc' := 5) (M' := mX7_isOne) (d' := 2) dX7_alone_2 rfl cvRX7_220 rfl rfl (by decide) rfl (Nat.le_of_ble_eq_true rfl) ?_
  refine tX7_isOne h wf ?_
  refine go_if_ne (pc' := 8) (tgt := 10) dX7_alone_5 rfl (by decide) (fun h_5 => ?_) (fun h_5 => ?_)
  · have h_5 := pg_b1 h_5
    obtain ⟨p, hp, rfl⟩ := pp_ex h_5
    have ep : pn (nI p) = p := nI_clamp (by omega)
    rw [ep] at k2
    refine go_aload_n (pc' := 11) dX7_alone_10 rfl rfl ?_
    refine go_getR (pc' := 14) dX7_alone_11 rfl flRX7_7 rfl rfl ?_
    refine go_aload_n (pc' := 15) dX7_alone_14 rfl rfl ?_
    refine go_getR (pc' := 18) dX7_alone_15 rfl flRX7_19 rfl rfl ?_
    refine go_cSv2 (pc' := 21) (M' := mX7_moveAll) (d' := 1) dX7_alone_18 rfl csRX7_193 (by decide) rfl (Nat.le_of_ble_eq_true rfl) ?_
    refine tX7_mv_60_63 h hn (fun g1 h1 f1 => ?_)
    have h11 := h.fr f1 (by decide)
    refine go_iconst (pc' := 22) 0 dX7_alone_21 rfl (by decide) ?_
    refine go_istore_n (pc' := 23) dX7_alone_22 rfl (by decide) rfl ?_
    exact lskma hp 61 0 T g1 (by omega) wf h11 h1 (fun g' a b => k2 h_5 g' a (FM.tr (FM.b f1) b))
  · have h_5 := pg_b0 h_5
    refine go_iconst (pc' := 9) (-1) dX7_alone_8 rfl (by decide) ?_
    refine go_iret dX7_alone_9 (pg_narI _) ?_
    exact k1 (fun q => h_5 q)

