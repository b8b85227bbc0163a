theorem go_gen {sc : pg_Sc} {d : Nat} {M : MI} {pc : Nat} {lv : pg_Lv} {st : List Value} {g : pg_S} {Q : pg_Q} (k : ∀ g', g' = g → pg_Go sc d M pc lv st g' Q) : pg_Go sc d M pc lv st g Q := k g rfl
def hoursF (n : Nat) : Nat → TW → TW
  | 0, T => T
  | m + 1, T => hoursF n m (hourF n T)
theorem WF.hours {n : Nat} : ∀ (m : Nat) {T : TW}, WF T n → WF (hoursF n m T) n
  | 0, _, h => h
  | m + 1, _, h => WF.hours m h.hour
def zF (z : Int32) : Int32 := z * 1103515245 + 12345
theorem ush16 (x : Int32) : ∃ v, v < 65536 ∧ ush x 16 = nI v := by
  have h1 := pk_ushr x 16 16 (by decide)
  have h2 : x.toBitVec.toNat < 2 ^ 32 := x.toBitVec.isLt
  refine ⟨x.toBitVec.toNat / 2 ^ 16, by omega, ?_⟩
  apply Int32.toBitVec_inj.mp
  apply BitVec.eq_of_toNat_eq
  rw [show (nI (x.toBitVec.toNat / 2 ^ 16)).toBitVec.toNat = x.toBitVec.toNat / 2 ^ 16 from pk_tn (by omega)]
  exact h1
theorem remF_nI {a d : Nat} (ha : a < 2 ^ 31) (h0 : 0 < d) (hd : d < 2 ^ 31) : remF (nI a) (nI d) = nI (a % d) := pk_rem ha h0 hd
theorem tu_tu (T : TW) (a i : Nat) (v u : Int32) : tu (tu T a i v) a i u = tu T a i u := by
  funext b j
  unfold tu
  by_cases h : b = a ∧ j = i
  · rw [if_pos h, if_pos h]
  · rw [if_neg h, if_neg h, if_neg h]
def chN (n : Nat) (z : Int32) : Nat := (remF (ush z 16) (nI n)).toNatClampNeg
theorem chN_eq {n : Nat} {z : Int32} (h0 : 0 < n) (h8 : n ≤ 8) : remF (ush z 16) (nI n) = nI (chN n z) ∧ chN n z < n := by
  obtain ⟨v, hv, ev⟩ := ush16 z
  have e : remF (ush z 16) (nI n) = nI (v % n) := by rw [ev]; exact remF_nI (by omega) h0 (by omega)
  have hl := Nat.mod_lt v h0
  have e2 : chN n z = v % n := by unfold chN; rw [e, nI_clamp (by omega)]
  rw [e2]
  exact ⟨e, hl⟩
theorem rem12 (z : Int32) : ∃ v, v < 12 ∧ remF (ush z 16) 12 = nI v := by
  obtain ⟨v, hv, ev⟩ := ush16 z
  exact ⟨v % 12, Nat.mod_lt _ (by omega), by rw [ev]; exact remF_nI (d := 12) (by omega) (by omega) (by omega)⟩
def drawF (n : Nat) (T : TW) : TW := if n = 0 then T else if remF (ush (zF (zF (T 8 2))) 16) 100 < T 0 3 then tu (tu T 8 2 (zF (zF (zF (T 8 2))))) 5 (chN n (zF (T 8 2))) (remF (ush (zF (zF (zF (T 8 2)))) 16) 12) else tu T 8 2 (zF (zF (T 8 2)))
theorem WF.tu5 {T : TW} {n i v : Nat} (h : WF T n) (hv : v < 12) : WF (tu T 5 i (nI v)) n := by
  obtain ⟨h1, h2, h3, h4, h5⟩ := h
  refine ⟨h1, fun j hj => ?_, ?_, fun j hj => ?_, fun p hp => ?_⟩
  · rw [tu_na (by omega)]; exact h2 j hj
  · rw [tu_na (by omega)]; exact h3
  · rw [tu_na (by omega)]; exact h4 j hj
  · obtain ⟨q1, q2, q3, q4, q5⟩ := h5 p hp
    rw [tu_na (by omega), tu_na (by omega), tu_na (by omega), tu_na (a := 5) (b := 6) (by omega)]
    refine ⟨q1, q2, q3, ?_, q5⟩
    unfold tu
    split
    · exact ⟨v, hv, rfl⟩
    · exact q4
theorem WF.draw {T : TW} {n : Nat} (h : WF T n) : WF (drawF n T) n := by
  unfold drawF
  split
  · exact h
  · split
    · obtain ⟨v, hv, ev⟩ := rem12 (zF (zF (zF (T 8 2))))
      rw [ev]
      exact h.tu8.tu5 hv
    · exact h.tu8
def knB (T : TW) (p q : Nat) : Bool := decide (T 6 p >>> (nI q &&& 31) &&& 1 = 1)
theorem knB_iff {T : TW} {p q : Nat} : knB T p q = true ↔ T 6 p >>> (nI q &&& 31) &&& 1 = 1 := decide_eq_true_iff
def estF (T : TW) (i j : Nat) : TW := tu (tu T 6 i (T 6 i &&& ((1 : Int32) <<< (nI j &&& 31) ^^^ (-1)))) 6 j (tu T 6 i (T 6 i &&& ((1 : Int32) <<< (nI j &&& 31) ^^^ (-1))) 6 j &&& ((1 : Int32) <<< (nI i &&& 31) ^^^ (-1)))
theorem est_and0 : ∀ v, v < 256 → ∀ k, k < 8 → nI v &&& ((1 : Int32) <<< (nI k &&& 31) ^^^ (-1)) = nI (if v.testBit k = true then v - 2 ^ k else v) := by decide +kernel
theorem est_and (v : Nat) (hv : v < 256) (k : Nat) (hk : k < 8) : ∃ u, u ≤ v ∧ nI v &&& ((1 : Int32) <<< (nI k &&& 31) ^^^ (-1)) = nI u := ⟨_, by split; exact Nat.sub_le _ _; exact Nat.le_refl _, est_and0 v hv k hk⟩
theorem rd_ui {g : pg_S} {k j a b : Nat} {v : Int32} (h : ¬ (a = k ∧ b = j)) : (pg_ui g.1 k j v, g.2).1 a b = g.1 a b := (pg_ui_at g.1 k j v a b).trans (if_neg h)
theorem WF.est1 {T : TW} {n i j : Nat} (h : WF T n) (hi : i < n) (hj : j < n) : WF (tu T 6 i (T 6 i &&& ((1 : Int32) <<< (nI j &&& 31) ^^^ (-1)))) n := by
  obtain ⟨v, hv, ev⟩ := h.knows hi
  have hn := h.1
  obtain ⟨u, hu, eu⟩ := est_and v (Nat.lt_of_lt_of_le hv (Nat.pow_le_pow_right (by omega) hn)) j (by omega)
  rw [ev, eu]
  exact h.tu6 (by omega)
theorem WF.est {T : TW} {n i j : Nat} (h : WF T n) (hi : i < n) (hj : j < n) : WF (estF T i j) n := (h.est1 hi hj).est1 hj hi
def admF (T : TW) (n : Nat) (kd pg ag pl : Int32) : TW := tu (tu (tu (tu (tu (tu T 2 n kd) 3 n pg) 4 n ag) 5 n pl) 6 n 0) 8 0 (nI (n + 1))
def T0F (z : Int32) : TW := fun a i => match a with
  | 0 => pg_t0.getD i 0
  | 1 => if i = 5 then 0 else 30
  | 8 => if i = 2 then z else 0
  | _ => 0
theorem T0F_wf (z : Int32) : WF (T0F z) 0 := by
  refine ⟨by omega, fun i hi => ?_, ⟨20, by omega, rfl⟩, fun i hi => ?_, fun p hp => absurd hp (by omega)⟩
  · rcases (show i = 0 ∨ i = 1 ∨ i = 2 by omega) with rfl | rfl | rfl
    · exact ⟨4, by omega, rfl⟩
    · exact ⟨1, by omega, rfl⟩
    · exact ⟨2, by omega, rfl⟩
  · show ∃ v, v ≤ 99 ∧ (if i = 5 then (0 : Int32) else 30) = nI v
    split
    · exact ⟨0, by omega, rfl⟩
    · exact ⟨30, by omega, rfl⟩
set_option maxHeartbeats 4000000 in
set_option maxRecDepth 20000 in
theorem lsh_1 {sc : pg_Sc} {K : pg_S → Prop} {n c : Nat} (hc : c < 2 ^ 31) : ∀ (m : Nat) (i : Nat) (T : TW) (g : pg_S), i + m = c → WF T n → CR g 1 T n → (∀ g', CR g' 1 (hoursF n m T) n → FR 1 10 g g' → K g') → pg_Go sc 4 mX5_spendHours 2 [(0, .ref 1), (1, .int (nI c)), (2, .int (nI i))] [] g (pg_kv K) := by
  intro m
  induction m with
  | zero =>
    intro i T g hi wf h k
    obtain rfl : i = c := by omega
    refine go_iload_n (pc' := 3) dX5_spendHours_2 rfl rfl ?_
    refine go_iload_n (pc' := 4) dX5_spendHours_3 rfl rfl ?_
    refine go_icmp_ge (pc' := 7) (tgt := 17) dX5_spendHours_4 rfl (by decide) (fun h_4 => ?_) (fun h_4 => absurd (Int32.le_refl _) h_4)
    refine go_vret dX5_spendHours_17 rfl ?_
    exact k _ h FR.rf
  | succ m ih =>
    intro i T g hi wf h k
    have hin : i < c := by omega
    refine go_iload_n (pc' := 3) dX5_spendHours_2 rfl rfl ?_
    refine go_iload_n (pc' := 4) dX5_spendHours_3 rfl rfl ?_
    refine go_icmp_ge (pc' := 7) (tgt := 17) dX5_spendHours_4 rfl (by decide) (fun h_4 => absurd h_4 (nI_ge hin hc)) (fun h_4 => ?_)
    refine go_aload_n (pc' := 8) dX5_spendHours_7 rfl rfl ?_
    refine go_cVv0 (pc' := 11) (M' := mX5_spendHour) (d' := 3) dX5_spendHours_8 rfl cvRX5_58 rfl rfl (by decide) rfl (Nat.le_of_ble_eq_true rfl) ?_
    refine tX5_spendHour_1 h wf (fun g1 h1 f1 => ?_)
    refine go_iinc (pc' := 14) _ dX5_spendHours_11 rfl rfl (pg_inc _) (by decide) rfl ?_
    refine go_goto (pc' := 2) dX5_spendHours_14 (by decide) ?_
    exact ih (i + 1) _ _ (by omega) wf.hour h1 (fun g' a b => k g' a (FR.tr f1 b))

set_option maxHeartbeats 4000000 in
set_option maxRecDepth 20000 in
theorem tX5_spendHours_1 {sc : pg_Sc} {g : pg_S} {K : pg_S → Prop} {T : TW} {n : Nat} {c : Nat} (h : CR g 1 T n) (wf : WF T n) (hc : c < 2 ^ 31) (k : ∀ g', CR g' 1 (hoursF n c T) n → FR 1 10 g g' → K g') : pg_Cal sc 4 mX5_spendHours [.ref 1, .int (nI c)] g (pg_kv K) := by
  refine pg_Cal.of rfl (Nat.le_of_ble_eq_true rfl) rfl ?_
  refine go_iconst (pc' := 1) 0 dX5_spendHours_0 rfl (by decide) ?_
  refine go_istore_n (pc' := 2) dX5_spendHours_1 rfl (by decide) rfl ?_
  exact lsh_1 hc c 0 T g (by omega) wf h k

set_option maxHeartbeats 4000000 in
set_option maxRecDepth 20000 in
theorem tX5_draw_1 {sc : pg_Sc} {g : pg_S} {K : Int32 → pg_S → Prop} {T : TW} {n : Nat} (h : CR g 1 T n) (k : ∀ g', CR g' 1 (tu T 8 2 (zF (T 8 2))) n → FR 1 10 g g' → K (ush (zF (T 8 2)) 16) g') : pg_Cal sc 1 mX5_draw [.ref 1] g (pg_ki K) := by
  refine pg_Cal.of rfl (Nat.le_of_ble_eq_true rfl) rfl ?_
  refine go_aload_n (pc' := 1) dX5_draw_0 rfl rfl ?_
  refine go_aload_n (pc' := 2) dX5_draw_1 rfl rfl ?_
  refine go_getI (pc' := 5) dX5_draw_2 rfl flRX5_43 rfl rfl ?_
  rw [c1_z h]
  refine go_ldc (pc' := 7) dX5_draw_5 rfl ciRX5_88 ?_
  refine go_imul (pc' := 8) dX5_draw_7 rfl ?_
  refine go_sipush (pc' := 11) 12345 dX5_draw_8 rfl (by decide) ?_
  refine go_iadd (pc' := 12) dX5_draw_11 rfl ?_
  refine go_putI (pc' := 15) dX5_draw_12 rfl flRX5_43 rfl rfl ft5_10 ?_
  refine go_gen (fun g2 e2 => ?_)
  have h2 : CR g2 1 (tu T 8 2 (zF (T 8 2))) n := by rw [e2]; exact h.scal (i := 2) (by decide)
  refine go_aload_n (pc' := 16) dX5_draw_15 rfl rfl ?_
  refine go_getI (pc' := 19) dX5_draw_16 rfl flRX5_43 rfl rfl ?_
  rw [c1_z h2, tu_eq]
  refine go_bipush (pc' := 21) 16 dX5_draw_19 rfl (by decide) ?_
  refine go_iushr (pc' := 22) dX5_draw_21 rfl ?_
  refine go_iret dX5_draw_22 (pg_narI _) ?_
  exact k _ h2 (by rw [e2]; exact FR.ui (by decide))

set_option maxHeartbeats 4000000 in
set_option maxRecDepth 20000 in
theorem tX5_byDraws_1 {sc : pg_Sc} {g : pg_S} {K : pg_S → Prop} {T : TW} {n : Nat} (h : CR g 1 T n) (wf : WF T n) (k : ∀ g', CR g' 1 (hourF n (drawF n T)) n → FR 1 10 g g' → K g') : pg_Cal sc 4 mX5_spendHourByDraws [.ref 1] g (pg_kv K) := by
  refine pg_Cal.of rfl (Nat.le_of_ble_eq_true rfl) rfl ?_
  have hn := wf.1
  refine go_aload_n (pc' := 1) dX5_spendHourByDraws_0 rfl rfl ?_
  refine go_getI (pc' := 4) dX5_spendHourByDraws_1 rfl flRX5_36 rfl rfl ?_
  rw [c1_people h]
  refine go_if_le (pc' := 7) (tgt := 46) dX5_spendHourByDraws_4 rfl (by decide) (fun h_4 => ?_) (fun h_4 => ?_)
  · refine go_aload_n (pc' := 47) dX5_spendHourByDraws_46 rfl rfl ?_
    refine go_cVv0 (pc' := 50) (M' := mX5_spendHour) (d' := 3) dX5_spendHourByDraws_47 rfl cvRX5_58 rfl rfl (by decide) rfl (Nat.le_of_ble_eq_true rfl) ?_
    have e0 : n = 0 := by
      rcases Nat.eq_zero_or_pos n with e | e
      · exact e
      · exact absurd h_4 (nI_nle e (by omega))
    have ed : drawF n T = T := by unfold drawF; rw [if_pos e0]
    refine tX5_spendHour_1 h wf (fun g9 h9 f9 => ?_)
    refine go_vret dX5_spendHourByDraws_50 rfl ?_
    rw [ed] at k
    exact k _ h9 f9
  · refine go_aload_n (pc' := 8) dX5_spendHourByDraws_7 rfl rfl ?_
    refine go_cVi0 (pc' := 11) (M' := mX5_draw) (d' := 1) dX5_spendHourByDraws_8 rfl cvRX5_89 rfl rfl (by decide) rfl (Nat.le_of_ble_eq_true rfl) ?_
    have hn0 : 0 < n := by
      rcases Nat.eq_zero_or_pos n with e | e
      · subst e; exact absurd (show nI 0 ≤ 0 by decide) h_4
      · exact e
    refine tX5_draw_1 h (fun g1 h1 f1 => ?_)
    refine go_aload_n (pc' := 12) dX5_spendHourByDraws_11 rfl rfl ?_
    refine go_getI (pc' := 15) dX5_spendHourByDraws_12 rfl flRX5_36 rfl rfl ?_
    rw [c1_people h1]
    refine go_irem (pc' := 16) dX5_spendHourByDraws_15 rfl (nI_ne0 hn0 (by omega)) ?_
    refine go_istore_n (pc' := 17) dX5_spendHourByDraws_16 rfl (by decide) rfl ?_
    refine go_aload_n (pc' := 18) dX5_spendHourByDraws_17 rfl rfl ?_
    refine go_cVi0 (pc' := 21) (M' := mX5_draw) (d' := 1) dX5_spendHourByDraws_18 rfl cvRX5_89 rfl rfl (by decide) rfl (Nat.le_of_ble_eq_true rfl) ?_
    refine tX5_draw_1 h1 (fun g2 h2 f2 => ?_)
    rw [tu_eq]
    refine go_bipush (pc' := 23) 100 dX5_spendHourByDraws_21 rfl (by decide) ?_
    refine go_irem (pc' := 24) dX5_spendHourByDraws_23 rfl (by decide) ?_
    refine go_aload_n (pc' := 25) dX5_spendHourByDraws_24 rfl rfl ?_
    refine go_getR (pc' := 28) dX5_spendHourByDraws_25 rfl flRX5_9 rfl rfl ?_
    refine go_iconst (pc' := 29) 3 dX5_spendHourByDraws_28 rfl (by decide) ?_
    refine go_iald (pc' := 30) 3 dX5_spendHourByDraws_29 rfl rfl rfl (by decide) (by decide) ?_
    rw [c1_law h2 (by decide), tu_na (by decide), tu_na (by decide)]
    refine go_icmp_ge (pc' := 33) (tgt := 46) dX5_spendHourByDraws_30 rfl (by decide) (fun h_30 => ?_) (fun h_30 => ?_)
    · refine go_aload_n (pc' := 47) dX5_spendHourByDraws_46 rfl rfl ?_
      refine go_cVv0 (pc' := 50) (M' := mX5_spendHour) (d' := 3) dX5_spendHourByDraws_47 rfl cvRX5_58 rfl rfl (by decide) rfl (Nat.le_of_ble_eq_true rfl) ?_
      have h_30 : T 0 3 ≤ remF (ush (zF (zF (T 8 2))) 16) 100 := h_30
      have ed : drawF n T = tu T 8 2 (zF (zF (T 8 2))) := by unfold drawF; rw [if_neg (by omega), if_neg (fun q => pg_lt_nle q h_30)]
      simp only [tu_tu, tu_eq] at h2
      have wfd := wf.draw
      rw [ed] at wfd
      refine tX5_spendHour_1 h2 wfd (fun g9 h9 f9 => ?_)
      refine go_vret dX5_spendHourByDraws_50 rfl ?_
      rw [ed] at k
      exact k _ h9 (FR.tr (FR.tr f1 f2) f9)
    · refine go_aload_n (pc' := 34) dX5_spendHourByDraws_33 rfl rfl ?_
      refine go_getR (pc' := 37) dX5_spendHourByDraws_34 rfl flRX5_27 rfl rfl ?_
      refine go_iload_n (pc' := 38) dX5_spendHourByDraws_37 rfl rfl ?_
      refine go_aload_n (pc' := 39) dX5_spendHourByDraws_38 rfl rfl ?_
      refine go_cVi0 (pc' := 42) (M' := mX5_draw) (d' := 1) dX5_spendHourByDraws_39 rfl cvRX5_89 rfl rfl (by decide) rfl (Nat.le_of_ble_eq_true rfl) ?_
      refine tX5_draw_1 h2 (fun g3 h3 f3 => ?_)
      simp only [tu_tu, tu_eq]
      refine go_bipush (pc' := 44) 12 dX5_spendHourByDraws_42 rfl (by decide) ?_
      refine go_irem (pc' := 45) dX5_spendHourByDraws_44 rfl (by decide) ?_
      refine go_iast (pc' := 46) (chN n (zF (T 8 2))) dX5_spendHourByDraws_45 rfl rfl (chN_eq hn0 hn).1 (by have := (chN_eq (z := zF (T 8 2)) hn0 hn).2; omega) (by decide) ?_
      refine go_gen (fun g4 e4 => ?_)
      simp only [tu_tu, tu_eq] at h3
      have h4 : CR g4 1 (tu (tu T 8 2 (zF (zF (zF (T 8 2))))) 5 (chN n (zF (T 8 2))) (remF (ush (zF (zF (zF (T 8 2)))) 16) 12)) n := by rw [e4]; exact h3.put (a := 5) (by decide) (by decide)
      have f4 : FR 1 10 g3 g4 := by rw [e4]; exact FR.ui (by decide)
      refine go_aload_n (pc' := 47) dX5_spendHourByDraws_46 rfl rfl ?_
      refine go_cVv0 (pc' := 50) (M' := mX5_spendHour) (d' := 3) dX5_spendHourByDraws_47 rfl cvRX5_58 rfl rfl (by decide) rfl (Nat.le_of_ble_eq_true rfl) ?_
      have h_30 : ¬ T 0 3 ≤ remF (ush (zF (zF (T 8 2))) 16) 100 := h_30
      have ed : drawF n T = tu (tu T 8 2 (zF (zF (zF (T 8 2))))) 5 (chN n (zF (T 8 2))) (remF (ush (zF (zF (zF (T 8 2)))) 16) 12) := by unfold drawF; rw [if_neg (by omega), if_pos (pg_nle_lt h_30)]
      have wfd := wf.draw
      rw [ed] at wfd
      refine tX5_spendHour_1 h4 wfd (fun g9 h9 f9 => ?_)
      refine go_vret dX5_spendHourByDraws_50 rfl ?_
      rw [ed] at k
      exact k _ h9 (FR.tr (FR.tr (FR.tr (FR.tr f1 f2) f3) f4) f9)

set_option maxHeartbeats 4000000 in
set_option maxRecDepth 20000 in
theorem tX5_know_1 {sc : pg_Sc} {g : pg_S} {K : Int32 → pg_S → Prop} {T : TW} {n p q : Nat} (h : CR g 1 T n) (wf : WF T n) (hp : p < n) (hq : q < n) (k : K (if knB T p q = true then 1 else 0) g) : pg_Cal sc 1 mX5_knowEachOther [.ref 1, .int (nI p), .int (nI q)] g (pg_ki K) := by
  refine pg_Cal.of rfl (Nat.le_of_ble_eq_true rfl) rfl ?_
  have hn := wf.1
  refine go_aload_n (pc' := 1) dX5_knowEachOther_0 rfl rfl ?_
  refine go_getR (pc' := 4) dX5_knowEachOther_1 rfl flRX5_30 rfl rfl ?_
  refine go_iload_n (pc' := 5) dX5_knowEachOther_4 rfl rfl ?_
  refine go_iald (pc' := 6) _ dX5_knowEachOther_5 rfl rfl rfl (by omega) (by decide) ?_
  rw [c1_know h (by omega)]
  refine go_iload_n (pc' := 7) dX5_knowEachOther_6 rfl rfl ?_
  refine go_ishr (pc' := 8) dX5_knowEachOther_7 rfl ?_
  refine go_iconst (pc' := 9) 1 dX5_knowEachOther_8 rfl (by decide) ?_
  refine go_iand (pc' := 10) dX5_knowEachOther_9 rfl ?_
  refine go_iconst (pc' := 11) 1 dX5_knowEachOther_10 rfl (by decide) ?_
  refine go_icmp_ne (pc' := 14) (tgt := 18) dX5_knowEachOther_11 rfl (by decide) (fun h_11 => ?_) (fun h_11 => ?_)
  · refine go_iconst (pc' := 19) 0 dX5_knowEachOther_18 rfl (by decide) ?_
    refine go_iret dX5_knowEachOther_19 (by first | exact pg_nar1 | exact pg_nar0 | exact pg_narB) ?_
    rw [if_neg (fun e => h_11 (knB_iff.mp e))] at k
    exact k
  · refine go_iconst (pc' := 15) 1 dX5_knowEachOther_14 rfl (by decide) ?_
    refine go_goto (pc' := 19) dX5_knowEachOther_15 (by decide) ?_
    refine go_iret dX5_knowEachOther_19 (by first | exact pg_nar1 | exact pg_nar0 | exact pg_narB) ?_
    rw [if_pos (knB_iff.mpr h_11)] at k
    exact k

set_option maxHeartbeats 4000000 in
set_option maxRecDepth 20000 in
theorem tX5_estrange_1 {sc : pg_Sc} {g : pg_S} {K : pg_S → Prop} {T : TW} {n p q : Nat} (h : CR g 1 T n) (wf : WF T n) (hp : p < n) (hq : q < n) (k : ∀ g', CR g' 1 (estF T p q) n → FR 8 9 g g' → K g') : pg_Cal sc 1 mX5_estrange [.ref 1, .int (nI p), .int (nI q)] g (pg_kv K) := by
  refine pg_Cal.of rfl (Nat.le_of_ble_eq_true rfl) rfl ?_
  have hn := wf.1
  refine go_aload_n (pc' := 1) dX5_estrange_0 rfl rfl ?_
  refine go_getR (pc' := 4) dX5_estrange_1 rfl flRX5_30 rfl rfl ?_
  refine go_iload_n (pc' := 5) dX5_estrange_4 rfl rfl ?_
  refine go_dup2 (pc' := 6) dX5_estrange_5 rfl rfl rfl ?_
  refine go_iald (pc' := 7) _ dX5_estrange_6 rfl rfl rfl (by omega) (by decide) ?_
  rw [c1_know h hp]
  refine go_iconst (pc' := 8) 1 dX5_estrange_7 rfl (by decide) ?_
  refine go_iload_n (pc' := 9) dX5_estrange_8 rfl rfl ?_
  refine go_ishl (pc' := 10) dX5_estrange_9 rfl ?_
  refine go_iconst (pc' := 11) (-1) dX5_estrange_10 rfl (by decide) ?_
  refine go_ixor (pc' := 12) dX5_estrange_11 rfl ?_
  refine go_iand (pc' := 13) dX5_estrange_12 rfl ?_
  refine go_iast (pc' := 14) _ dX5_estrange_13 rfl rfl rfl (by omega) (by decide) ?_
  refine go_gen (fun g2 e2 => ?_)
  have h2 : CR g2 1 (tu T 6 p (T 6 p &&& ((1 : Int32) <<< (nI q &&& 31) ^^^ (-1)))) n := by rw [e2]; exact h.put (a := 6) (by decide) (by decide)
  have f2 : FR 8 9 g g2 := by rw [e2]; exact FR.ui (by decide)
  refine go_aload_n (pc' := 15) dX5_estrange_14 rfl rfl ?_
  refine go_getR (pc' := 18) dX5_estrange_15 rfl flRX5_30 rfl rfl ?_
  refine go_iload_n (pc' := 19) dX5_estrange_18 rfl rfl ?_
  refine go_dup2 (pc' := 20) dX5_estrange_19 rfl rfl rfl ?_
  refine go_iald (pc' := 21) _ dX5_estrange_20 rfl rfl rfl (by omega) (by decide) ?_
  rw [c1_know h2 hq]
  refine go_iconst (pc' := 22) 1 dX5_estrange_21 rfl (by decide) ?_
  refine go_iload_n (pc' := 23) dX5_estrange_22 rfl rfl ?_
  refine go_ishl (pc' := 24) dX5_estrange_23 rfl ?_
  refine go_iconst (pc' := 25) (-1) dX5_estrange_24 rfl (by decide) ?_
  refine go_ixor (pc' := 26) dX5_estrange_25 rfl ?_
  refine go_iand (pc' := 27) dX5_estrange_26 rfl ?_
  refine go_iast (pc' := 28) _ dX5_estrange_27 rfl rfl rfl (by omega) (by decide) ?_
  refine go_vret dX5_estrange_28 rfl ?_
  exact k _ (h2.put (a := 6) (i := q) (by decide) (by decide)) (FR.tr f2 (FR.ui (by decide)))

theorem adm_1 {g : pg_S} {T : TW} {n : Nat} {kd pg ag pl : Int32} (h : CR g 1 T n) : CR (pg_ui (pg_ui (pg_ui (pg_ui (pg_ui (pg_ui g.1 4 n kd) 5 n pg) 6 n ag) 7 n pl) 8 n 0) 1 8 (nI (n + 1)), g.2) 1 (admF T n kd pg ag pl) (n + 1) := by
  obtain ⟨h1, h2, h3, h4, h5⟩ := h
  refine ⟨by unfold admF; rw [tu_eq], fun j hj => ?_, fun j hj => ?_, fun j hj => ?_, fun a ha hb j hj => ?_⟩
  · unfold admF
    simp only [pg_ui_at, tu]
    rcases (show j = 0 ∨ j = 1 ∨ j = 2 by omega) with rfl | rfl | rfl
    · simp
    · simpa using h2 1 (by omega)
    · simpa using h2 2 (by omega)
  · unfold admF
    simp only [pg_ui_at, tu]
    simpa using h3 j hj
  · unfold admF
    simp only [pg_ui_at, tu]
    simpa using h4 j hj
  · unfold admF
    simp only [pg_ui_at, tu]
    rcases (show a = 2 ∨ a = 3 ∨ a = 4 ∨ a = 5 ∨ a = 6 by omega) with rfl | rfl | rfl | rfl | rfl <;>
    · by_cases e : j = n
      · subst e; simp
      · simpa [e] using h5 _ ha hb j (by omega)
set_option maxHeartbeats 4000000 in
set_option maxRecDepth 20000 in
theorem tX5_admit_1 {sc : pg_Sc} {g : pg_S} {K : Int32 → pg_S → Prop} {T : TW} {n : Nat} {kd pg ag pl : Int32} (h : CR g 1 T n) (hn : n < 8) (k : ∀ g', CR g' 1 (admF T n kd pg ag pl) (n + 1) → FR 1 10 g g' → K (nI n) g') : pg_Cal sc 1 mX5_admit [.ref 1, .int kd, .int pg, .int ag, .int pl] g (pg_ki K) := by
  refine pg_Cal.of rfl (Nat.le_of_ble_eq_true rfl) rfl ?_
  refine go_aload_n (pc' := 1) dX5_admit_0 rfl rfl ?_
  refine go_getI (pc' := 4) dX5_admit_1 rfl flRX5_36 rfl rfl ?_
  rw [c1_people h]
  refine go_bipush (pc' := 6) 8 dX5_admit_4 rfl (by decide) ?_
  refine go_icmp_lt (pc' := 9) (tgt := 12) dX5_admit_6 rfl (by decide) (fun h_6 => ?_) (fun h_6 => absurd (nI_lt (b := 8) hn (by decide)) h_6)
  refine go_aload_n (pc' := 13) dX5_admit_12 rfl rfl ?_
  refine go_getI (pc' := 16) dX5_admit_13 rfl flRX5_36 rfl rfl ?_
  rw [c1_people h]
  refine go_istore (pc' := 18) dX5_admit_16 rfl (by decide) rfl ?_
  refine go_aload_n (pc' := 19) dX5_admit_18 rfl rfl ?_
  refine go_getR (pc' := 22) dX5_admit_19 rfl flRX5_18 rfl rfl ?_
  refine go_iload (pc' := 24) dX5_admit_22 rfl rfl ?_
  refine go_iload_n (pc' := 25) dX5_admit_24 rfl rfl ?_
  refine go_iast (pc' := 26) _ dX5_admit_25 rfl rfl rfl (by omega) (by decide) ?_
  refine go_gen (fun g1 e1 => ?_)
  have p1 : g1.1 1 8 = nI n := by rw [e1]; exact (rd_ui (fun z => absurd z.1 (by decide))).trans (c1_people h)
  refine go_aload_n (pc' := 27) dX5_admit_26 rfl rfl ?_
  refine go_getR (pc' := 30) dX5_admit_27 rfl flRX5_21 rfl rfl ?_
  refine go_iload (pc' := 32) dX5_admit_30 rfl rfl ?_
  refine go_iload_n (pc' := 33) dX5_admit_32 rfl rfl ?_
  refine go_iast (pc' := 34) _ dX5_admit_33 rfl rfl rfl (by omega) (by decide) ?_
  refine go_gen (fun g2 e2 => ?_)
  have p2 : g2.1 1 8 = nI n := by rw [e2]; exact (rd_ui (fun z => absurd z.1 (by decide))).trans (p1)
  refine go_aload_n (pc' := 35) dX5_admit_34 rfl rfl ?_
  refine go_getR (pc' := 38) dX5_admit_35 rfl flRX5_24 rfl rfl ?_
  refine go_iload (pc' := 40) dX5_admit_38 rfl rfl ?_
  refine go_iload_n (pc' := 41) dX5_admit_40 rfl rfl ?_
  refine go_iast (pc' := 42) _ dX5_admit_41 rfl rfl rfl (by omega) (by decide) ?_
  refine go_gen (fun g3 e3 => ?_)
  have p3 : g3.1 1 8 = nI n := by rw [e3]; exact (rd_ui (fun z => absurd z.1 (by decide))).trans (p2)
  refine go_aload_n (pc' := 43) dX5_admit_42 rfl rfl ?_
  refine go_getR (pc' := 46) dX5_admit_43 rfl flRX5_27 rfl rfl ?_
  refine go_iload (pc' := 48) dX5_admit_46 rfl rfl ?_
  refine go_iload (pc' := 50) dX5_admit_48 rfl rfl ?_
  refine go_iast (pc' := 51) _ dX5_admit_50 rfl rfl rfl (by omega) (by decide) ?_
  refine go_gen (fun g4 e4 => ?_)
  have p4 : g4.1 1 8 = nI n := by rw [e4]; exact (rd_ui (fun z => absurd z.1 (by decide))).trans (p3)
  refine go_aload_n (pc' := 52) dX5_admit_51 rfl rfl ?_
  refine go_getR (pc' := 55) dX5_admit_52 rfl flRX5_30 rfl rfl ?_
  refine go_iload (pc' := 57) dX5_admit_55 rfl rfl ?_
  refine go_iconst (pc' := 58) 0 dX5_admit_57 rfl (by decide) ?_
  refine go_iast (pc' := 59) _ dX5_admit_58 rfl rfl rfl (by omega) (by decide) ?_
  refine go_gen (fun g5 e5 => ?_)
  have p5 : g5.1 1 8 = nI n := by rw [e5]; exact (rd_ui (fun z => absurd z.1 (by decide))).trans (p4)
  refine go_aload_n (pc' := 60) dX5_admit_59 rfl rfl ?_
  refine go_dup (pc' := 61) dX5_admit_60 rfl rfl ?_
  refine go_getI (pc' := 64) dX5_admit_61 rfl flRX5_36 rfl rfl ?_
  rw [p5]
  refine go_iconst (pc' := 65) 1 dX5_admit_64 rfl (by decide) ?_
  refine go_iadd (pc' := 66) dX5_admit_65 rfl ?_
  rw [nI_1]
  refine go_putI (pc' := 69) dX5_admit_66 rfl flRX5_36 rfl rfl ft5_8 ?_
  refine go_iload (pc' := 71) dX5_admit_69 rfl rfl ?_
  refine go_iret dX5_admit_71 (pg_narI _) ?_
  refine k _ ?_ ?_
  · subst e1 e2 e3 e4 e5
    exact adm_1 h
  · subst e1 e2 e3 e4 e5
    exact FR.tr (FR.tr (FR.tr (FR.tr (FR.tr (FR.ui (by decide)) (FR.ui (by decide))) (FR.ui (by decide))) (FR.ui (by decide))) (FR.ui (by decide))) (FR.ui (by decide))

set_option maxHeartbeats 4000000 in
set_option maxRecDepth 20000 in
theorem lsh_10 {sc : pg_Sc} {K : pg_S → Prop} {n c : Nat} (hc : c < 2 ^ 31) : ∀ (m : Nat) (i : Nat) (T : TW) (g : pg_S), i + m = c → WF T n → CR g 10 T n → (∀ g', CR g' 10 (hoursF n m T) n → FR 10 19 g g' → K g') → pg_Go sc 4 mX5_spendHours 2 [(0, .ref 10), (1, .int (nI c)), (2, .int (nI i))] [] g (pg_kv K) := by
  intro m
  induction m with
  | zero =>
    intro i T g hi wf h k
    obtain rfl : i = c := by omega
    refine go_iload_n (pc' := 3) dX5_spendHours_2 rfl rfl ?_
    refine go_iload_n (pc' := 4) dX5_spendHours_3 rfl rfl ?_
    refine go_icmp_ge (pc' := 7) (tgt := 17) dX5_spendHours_4 rfl (by decide) (fun h_4 => ?_) (fun h_4 => absurd (Int32.le_refl _) h_4)
    refine go_vret dX5_spendHours_17 rfl ?_
    exact k _ h FR.rf
  | succ m ih =>
    intro i T g hi wf h k
    have hin : i < c := by omega
    refine go_iload_n (pc' := 3) dX5_spendHours_2 rfl rfl ?_
    refine go_iload_n (pc' := 4) dX5_spendHours_3 rfl rfl ?_
    refine go_icmp_ge (pc' := 7) (tgt := 17) dX5_spendHours_4 rfl (by decide) (fun h_4 => absurd h_4 (nI_ge hin hc)) (fun h_4 => ?_)
    refine go_aload_n (pc' := 8) dX5_spendHours_7 rfl rfl ?_
    refine go_cVv0 (pc' := 11) (M' := mX5_spendHour) (d' := 3) dX5_spendHours_8 rfl cvRX5_58 rfl rfl (by decide) rfl (Nat.le_of_ble_eq_true rfl) ?_
    refine tX5_spendHour_10 h wf (fun g1 h1 f1 => ?_)
    refine go_iinc (pc' := 14) _ dX5_spendHours_11 rfl rfl (pg_inc _) (by decide) rfl ?_
    refine go_goto (pc' := 2) dX5_spendHours_14 (by decide) ?_
    exact ih (i + 1) _ _ (by omega) wf.hour h1 (fun g' a b => k g' a (FR.tr f1 b))

set_option maxHeartbeats 4000000 in
set_option maxRecDepth 20000 in
theorem tX5_spendHours_10 {sc : pg_Sc} {g : pg_S} {K : pg_S → Prop} {T : TW} {n : Nat} {c : Nat} (h : CR g 10 T n) (wf : WF T n) (hc : c < 2 ^ 31) (k : ∀ g', CR g' 10 (hoursF n c T) n → FR 10 19 g g' → K g') : pg_Cal sc 4 mX5_spendHours [.ref 10, .int (nI c)] g (pg_kv K) := by
  refine pg_Cal.of rfl (Nat.le_of_ble_eq_true rfl) rfl ?_
  refine go_iconst (pc' := 1) 0 dX5_spendHours_0 rfl (by decide) ?_
  refine go_istore_n (pc' := 2) dX5_spendHours_1 rfl (by decide) rfl ?_
  exact lsh_10 hc c 0 T g (by omega) wf h k

set_option maxHeartbeats 4000000 in
set_option maxRecDepth 20000 in
theorem tX5_draw_10 {sc : pg_Sc} {g : pg_S} {K : Int32 → pg_S → Prop} {T : TW} {n : Nat} (h : CR g 10 T n) (k : ∀ g', CR g' 10 (tu T 8 2 (zF (T 8 2))) n → FR 10 19 g g' → K (ush (zF (T 8 2)) 16) g') : pg_Cal sc 1 mX5_draw [.ref 10] g (pg_ki K) := by
  refine pg_Cal.of rfl (Nat.le_of_ble_eq_true rfl) rfl ?_
  refine go_aload_n (pc' := 1) dX5_draw_0 rfl rfl ?_
  refine go_aload_n (pc' := 2) dX5_draw_1 rfl rfl ?_
  refine go_getI (pc' := 5) dX5_draw_2 rfl flRX5_43 rfl rfl ?_
  rw [c10_z h]
  refine go_ldc (pc' := 7) dX5_draw_5 rfl ciRX5_88 ?_
  refine go_imul (pc' := 8) dX5_draw_7 rfl ?_
  refine go_sipush (pc' := 11) 12345 dX5_draw_8 rfl (by decide) ?_
  refine go_iadd (pc' := 12) dX5_draw_11 rfl ?_
  refine go_putI (pc' := 15) dX5_draw_12 rfl flRX5_43 rfl rfl ft5_10 ?_
  refine go_gen (fun g2 e2 => ?_)
  have h2 : CR g2 10 (tu T 8 2 (zF (T 8 2))) n := by rw [e2]; exact h.scal (i := 2) (by decide)
  refine go_aload_n (pc' := 16) dX5_draw_15 rfl rfl ?_
  refine go_getI (pc' := 19) dX5_draw_16 rfl flRX5_43 rfl rfl ?_
  rw [c10_z h2, tu_eq]
  refine go_bipush (pc' := 21) 16 dX5_draw_19 rfl (by decide) ?_
  refine go_iushr (pc' := 22) dX5_draw_21 rfl ?_
  refine go_iret dX5_draw_22 (pg_narI _) ?_
  exact k _ h2 (by rw [e2]; exact FR.ui (by decide))

set_option maxHeartbeats 4000000 in
set_option maxRecDepth 20000 in
theorem tX5_byDraws_10 {sc : pg_Sc} {g : pg_S} {K : pg_S → Prop} {T : TW} {n : Nat} (h : CR g 10 T n) (wf : WF T n) (k : ∀ g', CR g' 10 (hourF n (drawF n T)) n → FR 10 19 g g' → K g') : pg_Cal sc 4 mX5_spendHourByDraws [.ref 10] g (pg_kv K) := by
  refine pg_Cal.of rfl (Nat.le_of_ble_eq_true rfl) rfl ?_
  have hn := wf.1
  refine go_aload_n (pc' := 1) dX5_spendHourByDraws_0 rfl rfl ?_
  refine go_getI (pc' := 4) dX5_spendHourByDraws_1 rfl flRX5_36 rfl rfl ?_
  rw [c10_people h]
  refine go_if_le (pc' := 7) (tgt := 46) dX5_spendHourByDraws_4 rfl (by decide) (fun h_4 => ?_) (fun h_4 => ?_)
  · refine go_aload_n (pc' := 47) dX5_spendHourByDraws_46 rfl rfl ?_
    refine go_cVv0 (pc' := 50) (M' := mX5_spendHour) (d' := 3) dX5_spendHourByDraws_47 rfl cvRX5_58 rfl rfl (by decide) rfl (Nat.le_of_ble_eq_true rfl) ?_
    have e0 : n = 0 := by
      rcases Nat.eq_zero_or_pos n with e | e
      · exact e
      · exact absurd h_4 (nI_nle e (by omega))
    have ed : drawF n T = T := by unfold drawF; rw [if_pos e0]
    refine tX5_spendHour_10 h wf (fun g9 h9 f9 => ?_)
    refine go_vret dX5_spendHourByDraws_50 rfl ?_
    rw [ed] at k
    exact k _ h9 f9
  · refine go_aload_n (pc' := 8) dX5_spendHourByDraws_7 rfl rfl ?_
    refine go_cVi0 (pc' := 11) (M' := mX5_draw) (d' := 1) dX5_spendHourByDraws_8 rfl cvRX5_89 rfl rfl (by decide) rfl (Nat.le_of_ble_eq_true rfl) ?_
    have hn0 : 0 < n := by
      rcases Nat.eq_zero_or_pos n with e | e
      · subst e; exact absurd (show nI 0 ≤ 0 by decide) h_4
      · exact e
    refine tX5_draw_10 h (fun g1 h1 f1 => ?_)
    refine go_aload_n (pc' := 12) dX5_spendHourByDraws_11 rfl rfl ?_
    refine go_getI (pc' := 15) dX5_spendHourByDraws_12 rfl flRX5_36 rfl rfl ?_
    rw [c10_people h1]
    refine go_irem (pc' := 16) dX5_spendHourByDraws_15 rfl (nI_ne0 hn0 (by omega)) ?_
    refine go_istore_n (pc' := 17) dX5_spendHourByDraws_16 rfl (by decide) rfl ?_
    refine go_aload_n (pc' := 18) dX5_spendHourByDraws_17 rfl rfl ?_
    refine go_cVi0 (pc' := 21) (M' := mX5_draw) (d' := 1) dX5_spendHourByDraws_18 rfl cvRX5_89 rfl rfl (by decide) rfl (Nat.le_of_ble_eq_true rfl) ?_
    refine tX5_draw_10 h1 (fun g2 h2 f2 => ?_)
    rw [tu_eq]
    refine go_bipush (pc' := 23) 100 dX5_spendHourByDraws_21 rfl (by decide) ?_
    refine go_irem (pc' := 24) dX5_spendHourByDraws_23 rfl (by decide) ?_
    refine go_aload_n (pc' := 25) dX5_spendHourByDraws_24 rfl rfl ?_
    refine go_getR (pc' := 28) dX5_spendHourByDraws_25 rfl flRX5_9 rfl rfl ?_
    refine go_iconst (pc' := 29) 3 dX5_spendHourByDraws_28 rfl (by decide) ?_
    refine go_iald (pc' := 30) 3 dX5_spendHourByDraws_29 rfl rfl rfl (by decide) (by decide) ?_
    rw [c10_law h2 (by decide), tu_na (by decide), tu_na (by decide)]
    refine go_icmp_ge (pc' := 33) (tgt := 46) dX5_spendHourByDraws_30 rfl (by decide) (fun h_30 => ?_) (fun h_30 => ?_)
    · refine go_aload_n (pc' := 47) dX5_spendHourByDraws_46 rfl rfl ?_
      refine go_cVv0 (pc' := 50) (M' := mX5_spendHour) (d' := 3) dX5_spendHourByDraws_47 rfl cvRX5_58 rfl rfl (by decide) rfl (Nat.le_of_ble_eq_true rfl) ?_
      have h_30 : T 0 3 ≤ remF (ush (zF (zF (T 8 2))) 16) 100 := h_30
      have ed : drawF n T = tu T 8 2 (zF (zF (T 8 2))) := by unfold drawF; rw [if_neg (by omega), if_neg (fun q => pg_lt_nle q h_30)]
      simp only [tu_tu, tu_eq] at h2
      have wfd := wf.draw
      rw [ed] at wfd
      refine tX5_spendHour_10 h2 wfd (fun g9 h9 f9 => ?_)
      refine go_vret dX5_spendHourByDraws_50 rfl ?_
      rw [ed] at k
      exact k _ h9 (FR.tr (FR.tr f1 f2) f9)
    · refine go_aload_n (pc' := 34) dX5_spendHourByDraws_33 rfl rfl ?_
      refine go_getR (pc' := 37) dX5_spendHourByDraws_34 rfl flRX5_27 rfl rfl ?_
      refine go_iload_n (pc' := 38) dX5_spendHourByDraws_37 rfl rfl ?_
      refine go_aload_n (pc' := 39) dX5_spendHourByDraws_38 rfl rfl ?_
      refine go_cVi0 (pc' := 42) (M' := mX5_draw) (d' := 1) dX5_spendHourByDraws_39 rfl cvRX5_89 rfl rfl (by decide) rfl (Nat.le_of_ble_eq_true rfl) ?_
      refine tX5_draw_10 h2 (fun g3 h3 f3 => ?_)
      simp only [tu_tu, tu_eq]
      refine go_bipush (pc' := 44) 12 dX5_spendHourByDraws_42 rfl (by decide) ?_
      refine go_irem (pc' := 45) dX5_spendHourByDraws_44 rfl (by decide) ?_
      refine go_iast (pc' := 46) (chN n (zF (T 8 2))) dX5_spendHourByDraws_45 rfl rfl (chN_eq hn0 hn).1 (by have := (chN_eq (z := zF (T 8 2)) hn0 hn).2; omega) (by decide) ?_
      refine go_gen (fun g4 e4 => ?_)
      simp only [tu_tu, tu_eq] at h3
      have h4 : CR g4 10 (tu (tu T 8 2 (zF (zF (zF (T 8 2))))) 5 (chN n (zF (T 8 2))) (remF (ush (zF (zF (zF (T 8 2)))) 16) 12)) n := by rw [e4]; exact h3.put (a := 5) (by decide) (by decide)
      have f4 : FR 10 19 g3 g4 := by rw [e4]; exact FR.ui (by decide)
      refine go_aload_n (pc' := 47) dX5_spendHourByDraws_46 rfl rfl ?_
      refine go_cVv0 (pc' := 50) (M' := mX5_spendHour) (d' := 3) dX5_spendHourByDraws_47 rfl cvRX5_58 rfl rfl (by decide) rfl (Nat.le_of_ble_eq_true rfl) ?_
      have h_30 : ¬ T 0 3 ≤ remF (ush (zF (zF (T 8 2))) 16) 100 := h_30
      have ed : drawF n T = tu (tu T 8 2 (zF (zF (zF (T 8 2))))) 5 (chN n (zF (T 8 2))) (remF (ush (zF (zF (zF (T 8 2)))) 16) 12) := by unfold drawF; rw [if_neg (by omega), if_pos (pg_nle_lt h_30)]
      have wfd := wf.draw
      rw [ed] at wfd
      refine tX5_spendHour_10 h4 wfd (fun g9 h9 f9 => ?_)
      refine go_vret dX5_spendHourByDraws_50 rfl ?_
      rw [ed] at k
      exact k _ h9 (FR.tr (FR.tr (FR.tr (FR.tr f1 f2) f3) f4) f9)

set_option maxHeartbeats 4000000 in
set_option maxRecDepth 20000 in
theorem tX5_know_10 {sc : pg_Sc} {g : pg_S} {K : Int32 → pg_S → Prop} {T : TW} {n p q : Nat} (h : CR g 10 T n) (wf : WF T n) (hp : p < n) (hq : q < n) (k : K (if knB T p q = true then 1 else 0) g) : pg_Cal sc 1 mX5_knowEachOther [.ref 10, .int (nI p), .int (nI q)] g (pg_ki K) := by
  refine pg_Cal.of rfl (Nat.le_of_ble_eq_true rfl) rfl ?_
  have hn := wf.1
  refine go_aload_n (pc' := 1) dX5_knowEachOther_0 rfl rfl ?_
  refine go_getR (pc' := 4) dX5_knowEachOther_1 rfl flRX5_30 rfl rfl ?_
  refine go_iload_n (pc' := 5) dX5_knowEachOther_4 rfl rfl ?_
  refine go_iald (pc' := 6) _ dX5_knowEachOther_5 rfl rfl rfl (by omega) (by decide) ?_
  rw [c10_know h (by omega)]
  refine go_iload_n (pc' := 7) dX5_knowEachOther_6 rfl rfl ?_
  refine go_ishr (pc' := 8) dX5_knowEachOther_7 rfl ?_
  refine go_iconst (pc' := 9) 1 dX5_knowEachOther_8 rfl (by decide) ?_
  refine go_iand (pc' := 10) dX5_knowEachOther_9 rfl ?_
  refine go_iconst (pc' := 11) 1 dX5_knowEachOther_10 rfl (by decide) ?_
  refine go_icmp_ne (pc' := 14) (tgt := 18) dX5_knowEachOther_11 rfl (by decide) (fun h_11 => ?_) (fun h_11 => ?_)
  · refine go_iconst (pc' := 19) 0 dX5_knowEachOther_18 rfl (by decide) ?_
    refine go_iret dX5_knowEachOther_19 (by first | exact pg_nar1 | exact pg_nar0 | exact pg_narB) ?_
    rw [if_neg (fun e => h_11 (knB_iff.mp e))] at k
    exact k
  · refine go_iconst (pc' := 15) 1 dX5_knowEachOther_14 rfl (by decide) ?_
    refine go_goto (pc' := 19) dX5_knowEachOther_15 (by decide) ?_
    refine go_iret dX5_knowEachOther_19 (by first | exact pg_nar1 | exact pg_nar0 | exact pg_narB) ?_
    rw [if_pos (knB_iff.mpr h_11)] at k
    exact k

theorem adm_10 {g : pg_S} {T : TW} {n : Nat} {kd pg ag pl : Int32} (h : CR g 10 T n) : CR (pg_ui (pg_ui (pg_ui (pg_ui (pg_ui (pg_ui g.1 13 n kd) 14 n pg) 15 n ag) 16 n pl) 17 n 0) 10 8 (nI (n + 1)), g.2) 10 (admF T n kd pg ag pl) (n + 1) := by
  obtain ⟨h1, h2, h3, h4, h5⟩ := h
  refine ⟨by unfold admF; rw [tu_eq], fun j hj => ?_, fun j hj => ?_, fun j hj => ?_, fun a ha hb j hj => ?_⟩
  · unfold admF
    simp only [pg_ui_at, tu]
    rcases (show j = 0 ∨ j = 1 ∨ j = 2 by omega) with rfl | rfl | rfl
    · simp
    · simpa using h2 1 (by omega)
    · simpa using h2 2 (by omega)
  · unfold admF
    simp only [pg_ui_at, tu]
    simpa using h3 j hj
  · unfold admF
    simp only [pg_ui_at, tu]
    simpa using h4 j hj
  · unfold admF
    simp only [pg_ui_at, tu]
    rcases (show a = 2 ∨ a = 3 ∨ a = 4 ∨ a = 5 ∨ a = 6 by omega) with rfl | rfl | rfl | rfl | rfl <;>
    · by_cases e : j = n
      · subst e; simp
      · simpa [e] using h5 _ ha hb j (by omega)
set_option maxHeartbeats 4000000 in
set_option maxRecDepth 20000 in
theorem tX5_admit_10 {sc : pg_Sc} {g : pg_S} {K : Int32 → pg_S → Prop} {T : TW} {n : Nat} {kd pg ag pl : Int32} (h : CR g 10 T n) (hn : n < 8) (k : ∀ g', CR g' 10 (admF T n kd pg ag pl) (n + 1) → FR 10 19 g g' → K (nI n) g') : pg_Cal sc 1 mX5_admit [.ref 10, .int kd, .int pg, .int ag, .int pl] g (pg_ki K) := by
  refine pg_Cal.of rfl (Nat.le_of_ble_eq_true rfl) rfl ?_
  refine go_aload_n (pc' := 1) dX5_admit_0 rfl rfl ?_
  refine go_getI (pc' := 4) dX5_admit_1 rfl flRX5_36 rfl rfl ?_
  rw [c10_people h]
  refine go_bipush (pc' := 6) 8 dX5_admit_4 rfl (by decide) ?_
  refine go_icmp_lt (pc' := 9) (tgt := 12) dX5_admit_6 rfl (by decide) (fun h_6 => ?_) (fun h_6 => absurd (nI_lt (b := 8) hn (by decide)) h_6)
  refine go_aload_n (pc' := 13) dX5_admit_12 rfl rfl ?_
  refine go_getI (pc' := 16) dX5_admit_13 rfl flRX5_36 rfl rfl ?_
  rw [c10_people h]
  refine go_istore (pc' := 18) dX5_admit_16 rfl (by decide) rfl ?_
  refine go_aload_n (pc' := 19) dX5_admit_18 rfl rfl ?_
  refine go_getR (pc' := 22) dX5_admit_19 rfl flRX5_18 rfl rfl ?_
  refine go_iload (pc' := 24) dX5_admit_22 rfl rfl ?_
  refine go_iload_n (pc' := 25) dX5_admit_24 rfl rfl ?_
  refine go_iast (pc' := 26) _ dX5_admit_25 rfl rfl rfl (by omega) (by decide) ?_
  refine go_gen (fun g1 e1 => ?_)
  have p1 : g1.1 10 8 = nI n := by rw [e1]; exact (rd_ui (fun z => absurd z.1 (by decide))).trans (c10_people h)
  refine go_aload_n (pc' := 27) dX5_admit_26 rfl rfl ?_
  refine go_getR (pc' := 30) dX5_admit_27 rfl flRX5_21 rfl rfl ?_
  refine go_iload (pc' := 32) dX5_admit_30 rfl rfl ?_
  refine go_iload_n (pc' := 33) dX5_admit_32 rfl rfl ?_
  refine go_iast (pc' := 34) _ dX5_admit_33 rfl rfl rfl (by omega) (by decide) ?_
  refine go_gen (fun g2 e2 => ?_)
  have p2 : g2.1 10 8 = nI n := by rw [e2]; exact (rd_ui (fun z => absurd z.1 (by decide))).trans (p1)
  refine go_aload_n (pc' := 35) dX5_admit_34 rfl rfl ?_
  refine go_getR (pc' := 38) dX5_admit_35 rfl flRX5_24 rfl rfl ?_
  refine go_iload (pc' := 40) dX5_admit_38 rfl rfl ?_
  refine go_iload_n (pc' := 41) dX5_admit_40 rfl rfl ?_
  refine go_iast (pc' := 42) _ dX5_admit_41 rfl rfl rfl (by omega) (by decide) ?_
  refine go_gen (fun g3 e3 => ?_)
  have p3 : g3.1 10 8 = nI n := by rw [e3]; exact (rd_ui (fun z => absurd z.1 (by decide))).trans (p2)
  refine go_aload_n (pc' := 43) dX5_admit_42 rfl rfl ?_
  refine go_getR (pc' := 46) dX5_admit_43 rfl flRX5_27 rfl rfl ?_
  refine go_iload (pc' := 48) dX5_admit_46 rfl rfl ?_
  refine go_iload (pc' := 50) dX5_admit_48 rfl rfl ?_
  refine go_iast (pc' := 51) _ dX5_admit_50 rfl rfl rfl (by omega) (by decide) ?_
  refine go_gen (fun g4 e4 => ?_)
  have p4 : g4.1 10 8 = nI n := by rw [e4]; exact (rd_ui (fun z => absurd z.1 (by decide))).trans (p3)
  refine go_aload_n (pc' := 52) dX5_admit_51 rfl rfl ?_
  refine go_getR (pc' := 55) dX5_admit_52 rfl flRX5_30 rfl rfl ?_
  refine go_iload (pc' := 57) dX5_admit_55 rfl rfl ?_
  refine go_iconst (pc' := 58) 0 dX5_admit_57 rfl (by decide) ?_
  refine go_iast (pc' := 59) _ dX5_admit_58 rfl rfl rfl (by omega) (by decide) ?_
  refine go_gen (fun g5 e5 => ?_)
  have p5 : g5.1 10 8 = nI n := by rw [e5]; exact (rd_ui (fun z => absurd z.1 (by decide))).trans (p4)
  refine go_aload_n (pc' := 60) dX5_admit_59 rfl rfl ?_
  refine go_dup (pc' := 61) dX5_admit_60 rfl rfl ?_
  refine go_getI (pc' := 64) dX5_admit_61 rfl flRX5_36 rfl rfl ?_
  rw [p5]
  refine go_iconst (pc' := 65) 1 dX5_admit_64 rfl (by decide) ?_
  refine go_iadd (pc' := 66) dX5_admit_65 rfl ?_
  rw [nI_1]
  refine go_putI (pc' := 69) dX5_admit_66 rfl flRX5_36 rfl rfl ft5_8 ?_
  refine go_iload (pc' := 71) dX5_admit_69 rfl rfl ?_
  refine go_iret dX5_admit_71 (pg_narI _) ?_
  refine k _ ?_ ?_
  · subst e1 e2 e3 e4 e5
    exact adm_10 h
  · subst e1 e2 e3 e4 e5
    exact FR.tr (FR.tr (FR.tr (FR.tr (FR.tr (FR.ui (by decide)) (FR.ui (by decide))) (FR.ui (by decide))) (FR.ui (by decide))) (FR.ui (by decide))) (FR.ui (by decide))

