def MTP (g : pg_S) (B : Nat → Nat) (L : Nat) : Prop := g.1 59 6 = nI L ∧ L ≤ 200 ∧ ∀ j, j < L → B j < 256 ∧ g.1 64 j = nI (B j)
def FW (l : List Nat) (g g' : pg_S) : Prop := (∀ a, a ≠ 59 → g'.1 a = g.1 a) ∧ (∀ j, j ∉ l → g'.1 59 j = g.1 59 j) ∧ ∀ a, a ≠ 59 → g'.2 a = g.2 a
theorem FW.rf {l : List Nat} {g : pg_S} : FW l g g := ⟨fun _ _ => rfl, fun _ _ => rfl, fun _ _ => rfl⟩
theorem FW.tr {l : List Nat} {g g' g'' : pg_S} (h : FW l g g') (h' : FW l g' g'') : FW l g g'' := ⟨fun a q => (h'.1 a q).trans (h.1 a q), fun j q => (h'.2.1 j q).trans (h.2.1 j q), fun a q => (h'.2.2 a q).trans (h.2.2 a q)⟩
theorem FW.wd {l l' : List Nat} {g g' : pg_S} (h : FW l g g') (hs : ∀ a, a ∈ l → a ∈ l') : FW l' g g' := ⟨h.1, fun j q => h.2.1 j (fun z => q (hs j z)), h.2.2⟩
theorem FW.ui {l : List Nat} {g : pg_S} {j : Nat} {v : Int32} (h : j ∈ l) : FW l g (pg_ui g.1 59 j v, g.2) := ⟨fun a q => pg_ui_ne g.1 59 j v a q, fun i q => by
  show pg_ui g.1 59 j v 59 i = _
  rw [pg_ui_at, if_neg (fun z => q (by rw [z.2]; exact h))], fun _ _ => rfl⟩
theorem FW.uj {l : List Nat} {g : pg_S} {j : Nat} {v : Int64} : FW l g (g.1, pg_uj g.2 59 j v) := ⟨fun _ _ => rfl, fun _ _ => rfl, fun a q => pg_uj_ne g.2 59 j v a q⟩
theorem MTP.fw {g g' : pg_S} {B : Nat → Nat} {L : Nat} {l : List Nat} (h : MTP g B L) (f : FW l g g') (hl : 6 ∉ l) : MTP g' B L := by
  obtain ⟨h1, h2, h3⟩ := h
  exact ⟨(f.2.1 6 hl).trans h1, h2, fun j hj => ⟨(h3 j hj).1, by rw [f.1 64 (by decide)]; exact (h3 j hj).2⟩⟩
def bAI (B : Nat → Nat) (L p : Nat) : Int32 := if p < L then nI (B p) else -1
theorem bA_y {B : Nat → Nat} {L p : Nat} (h : p < L) : bAI B L p = nI (B p) := if_pos h
theorem bA_n {B : Nat → Nat} {L p : Nat} (h : ¬ p < L) : bAI B L p = -1 := if_neg h
theorem bA_32 {B : Nat → Nat} {L p : Nat} (hB : p < L → B p < 256) : bAI B L p = 32 ↔ spB B L p = true := by
  rw [spB_iff]
  by_cases h : p < L
  · have := hB h
    rw [bA_y h]
    exact ⟨fun q => ⟨h, (nI_eq (b := 32) (by omega) (by decide)).mp q⟩, fun q => (nI_eq (b := 32) (by omega) (by decide)).mpr q.2⟩
  · rw [bA_n h]
    exact ⟨fun q => absurd q (by decide), fun q => absurd q.1 h⟩
theorem bA_0 {B : Nat → Nat} {L p : Nat} (hB : p < L → B p < 256) : 0 ≤ bAI B L p ↔ p < L := by
  by_cases h : p < L
  · have := hB h
    rw [bA_y h]
    exact ⟨fun _ => h, fun _ => nI_le0 (by omega)⟩
  · rw [bA_n h]
    exact ⟨fun q => absurd q (by decide), fun q => absurd q h⟩
theorem bA_le {B : Nat → Nat} {L p : Nat} (hB : p < L → B p < 256) : (97 ≤ bAI B L p ∧ bAI B L p ≤ 122) ↔ leB B L p = true := by
  rw [leB_iff]
  by_cases h : p < L
  · have := hB h
    rw [bA_y h]
    exact ⟨fun q => ⟨h, (nI_leI (a := 97) (by decide) (by omega)).mp q.1, (nI_leI (b := 122) (by omega) (by decide)).mp q.2⟩, fun q => ⟨(nI_leI (a := 97) (by decide) (by omega)).mpr q.2.1, (nI_leI (b := 122) (by omega) (by decide)).mpr q.2.2⟩⟩
  · rw [bA_n h]
    exact ⟨fun q => absurd q.1 (by decide), fun q => absurd q.1 h⟩
theorem bA_di {B : Nat → Nat} {L p : Nat} (hB : p < L → B p < 256) : (48 ≤ bAI B L p ∧ bAI B L p ≤ 57) ↔ diB B L p = true := by
  rw [diB_iff]
  by_cases h : p < L
  · have := hB h
    rw [bA_y h]
    exact ⟨fun q => ⟨h, (nI_leI (a := 48) (by decide) (by omega)).mp q.1, (nI_leI (b := 57) (by omega) (by decide)).mp q.2⟩, fun q => ⟨(nI_leI (a := 48) (by decide) (by omega)).mpr q.2.1, (nI_leI (b := 57) (by omega) (by decide)).mpr q.2.2⟩⟩
  · rw [bA_n h]
    exact ⟨fun q => absurd q.1 (by decide), fun q => absurd q.1 h⟩
def wdI (B : Nat → Nat) (s : Nat) : Nat → Int64
  | 0 => 0
  | j + 1 => if j < 9 then 27 * wdI B s j + (nI (B (s + j))).toInt64 - 96 else -1
theorem wdI_lt {B : Nat → Nat} {s j : Nat} (h : j < 9) : wdI B s (j + 1) = 27 * wdI B s j + (nI (B (s + j))).toInt64 - 96 := if_pos h
theorem wdI_ge {B : Nat → Nat} {s j : Nat} (h : ¬ j < 9) : wdI B s (j + 1) = -1 := if_neg h
def mvI (B : Nat → Nat) (s j : Nat) : Int32 := if 3 < j then -1 else rdI B s j
theorem mvI_lt {B : Nat → Nat} {s j : Nat} (h : j < 3) : mvI B s (j + 1) = 10 * mvI B s j + nI (B (s + j)) - 48 := by
  unfold mvI
  rw [if_neg (by omega), if_neg (by omega), rdI_lt h, Int32.mul_comm]
theorem mvI_ge {B : Nat → Nat} {s j : Nat} (h : ¬ j < 3) : mvI B s (j + 1) = -1 := if_pos (by omega)
def MK (B : Nat → Nat) (L p : Nat) (g : pg_S) : Prop := g.1 59 9 = nI (enF B L p) ∧ g.1 59 8 = nI (skF B L p) ∧ g.1 59 7 = nI (soF B L p) ∧ (soF B L p = 1 → g.2 59 10 = wdI B (skF B L p) (enF B L p - skF B L p)) ∧ (soF B L p = 2 → g.1 59 11 = nvI B (skF B L p) (enF B L p)) ∧ (soF B L p = 3 → g.1 59 11 = nI (B (skF B L p)))
set_option maxHeartbeats 4000000 in
set_option maxRecDepth 20000 in
theorem tX7_byteAt {sc : pg_Sc} {g : pg_S} {K : Int32 → pg_S → Prop} {B : Nat → Nat} {L p : Nat} (h : MTP g B L) (hp : p ≤ 200) (k : K (bAI B L p) g) : pg_Cal sc 1 mX7_byteAt [.ref 59, .int (nI p)] g (pg_ki K) := by
  refine pg_Cal.of rfl (Nat.le_of_ble_eq_true rfl) rfl ?_
  have hL := h.2.1
  refine go_iload_n (pc' := 1) dX7_byteAt_0 rfl rfl ?_
  refine go_aload_n (pc' := 2) dX7_byteAt_1 rfl rfl ?_
  refine go_getI (pc' := 5) dX7_byteAt_2 rfl flRX7_64 rfl rfl ?_
  rw [h.1]
  refine go_icmp_ge (pc' := 8) (tgt := 17) dX7_byteAt_5 rfl (by decide) (fun h_5 => ?_) (fun h_5 => ?_)
  · refine go_iconst (pc' := 18) (-1) dX7_byteAt_17 rfl (by decide) ?_
    refine go_iret dX7_byteAt_18 (pg_narI _) ?_
    rw [bA_n (by have := (nI_leI (by omega) (by omega)).mp h_5; omega)] at k
    exact k
  · have hq : p < L := by
      rcases Nat.lt_or_ge p L with e | e
      · exact e
      · exact absurd (nI_le e (by omega)) h_5
    refine go_aload_n (pc' := 9) dX7_byteAt_8 rfl rfl ?_
    refine go_getR (pc' := 12) dX7_byteAt_9 rfl flRX7_22 rfl rfl ?_
    refine go_iload_n (pc' := 13) dX7_byteAt_12 rfl rfl ?_
    refine go_iald (pc' := 14) p dX7_byteAt_13 rfl rfl rfl (by omega) (by decide) ?_
    rw [(h.2.2 p hq).2]
    refine go_goto (pc' := 18) dX7_byteAt_14 (by decide) ?_
    refine go_iret dX7_byteAt_18 (pg_narI _) ?_
    rw [bA_y hq] at k
    exact k

set_option maxHeartbeats 4000000 in
set_option maxRecDepth 20000 in
theorem tX7_isLetter {sc : pg_Sc} {g : pg_S} {K : Int32 → pg_S → Prop} {x : Int32}  (k : K (if 97 ≤ x ∧ x ≤ 122 then 1 else 0) g) : pg_Cal sc 2 mX7_isLetter [.int x] g (pg_ki K) := by
  refine pg_Cal.of rfl (Nat.le_of_ble_eq_true rfl) rfl ?_
  refine go_iload_n (pc' := 1) dX7_isLetter_0 rfl rfl ?_
  refine go_bipush (pc' := 3) 97 dX7_isLetter_1 rfl (by decide) ?_
  refine go_bipush (pc' := 5) 122 dX7_isLetter_3 rfl (by decide) ?_
  refine go_cSi3 (pc' := 8) (M' := mX7_in) (d' := 1) dX7_isLetter_5 rfl csRX7_60 (by decide) rfl (Nat.le_of_ble_eq_true rfl) ?_
  refine tX7_in ?_
  refine go_iret dX7_isLetter_8 pg_narB ?_
  exact k

set_option maxHeartbeats 4000000 in
set_option maxRecDepth 20000 in
theorem tX7_isDigit {sc : pg_Sc} {g : pg_S} {K : Int32 → pg_S → Prop} {x : Int32}  (k : K (if 48 ≤ x ∧ x ≤ 57 then 1 else 0) g) : pg_Cal sc 2 mX7_isDigit [.int x] g (pg_ki K) := by
  refine pg_Cal.of rfl (Nat.le_of_ble_eq_true rfl) rfl ?_
  refine go_iload_n (pc' := 1) dX7_isDigit_0 rfl rfl ?_
  refine go_bipush (pc' := 3) 48 dX7_isDigit_1 rfl (by decide) ?_
  refine go_bipush (pc' := 5) 57 dX7_isDigit_3 rfl (by decide) ?_
  refine go_cSi3 (pc' := 8) (M' := mX7_in) (d' := 1) dX7_isDigit_5 rfl csRX7_60 (by decide) rfl (Nat.le_of_ble_eq_true rfl) ?_
  refine tX7_in ?_
  refine go_iret dX7_isDigit_8 pg_narB ?_
  exact k

set_option maxHeartbeats 4000000 in
set_option maxRecDepth 20000 in
theorem lmt1 {sc : pg_Sc} {Q : pg_Q} {B : Nat → Nat} {L : Nat} : ∀ (m : Nat) (p : Nat) (g : pg_S), L ≤ p + m → p ≤ L → MTP g B L → g.1 59 8 = nI p → (∀ g', g'.1 59 8 = nI (scn (spB B L) m p) → FW [8] g g' → pg_Go sc 3 mX7_advance 34 [(0, .ref 59)] [] g' Q) → pg_Go sc 3 mX7_advance 8 [(0, .ref 59)] [] g Q := by
  intro m
  induction m with
  | zero =>
    intro p g hm hpL h hx k
    have hL := h.2.1
    obtain rfl : p = L := by omega
    refine go_aload_n (pc' := 9) dX7_advance_8 rfl rfl ?_
    refine go_aload_n (pc' := 10) dX7_advance_9 rfl rfl ?_
    refine go_getI (pc' := 13) dX7_advance_10 rfl flRX7_73 rfl rfl ?_
    rw [hx]
    refine go_cVi1 (pc' := 16) (M' := mX7_byteAt) (d' := 1) dX7_advance_13 rfl cvRX7_75 rfl rfl (by decide) rfl (Nat.le_of_ble_eq_true rfl) ?_
    refine tX7_byteAt h (by omega) ?_
    refine go_bipush (pc' := 18) 32 dX7_advance_16 rfl (by decide) ?_
    refine go_icmp_ne (pc' := 21) (tgt := 34) dX7_advance_18 rfl (by decide) (fun h_18 => ?_) (fun h_18 => absurd h_18 (by rw [bA_n (by omega)]; decide))
    exact k g hx FW.rf
  | succ m ih =>
    intro p g hm hpL h hx k
    have hL := h.2.1
    have hB : p < L → B p < 256 := fun q => (h.2.2 p q).1
    refine go_aload_n (pc' := 9) dX7_advance_8 rfl rfl ?_
    refine go_aload_n (pc' := 10) dX7_advance_9 rfl rfl ?_
    refine go_getI (pc' := 13) dX7_advance_10 rfl flRX7_73 rfl rfl ?_
    rw [hx]
    refine go_cVi1 (pc' := 16) (M' := mX7_byteAt) (d' := 1) dX7_advance_13 rfl cvRX7_75 rfl rfl (by decide) rfl (Nat.le_of_ble_eq_true rfl) ?_
    refine tX7_byteAt h (by omega) ?_
    refine go_bipush (pc' := 18) 32 dX7_advance_16 rfl (by decide) ?_
    refine go_icmp_ne (pc' := 21) (tgt := 34) dX7_advance_18 rfl (by decide) (fun h_18 => ?_) (fun h_18 => ?_)
    · rw [scn_f (fun q => h_18 ((bA_32 hB).mpr q))] at k
      exact k g hx FW.rf
    · refine go_aload_n (pc' := 22) dX7_advance_21 rfl rfl ?_
      refine go_dup (pc' := 23) dX7_advance_22 rfl rfl ?_
      refine go_getI (pc' := 26) dX7_advance_23 rfl flRX7_73 rfl rfl ?_
      rw [hx]
      refine go_iconst (pc' := 27) 1 dX7_advance_26 rfl (by decide) ?_
      refine go_iadd (pc' := 28) dX7_advance_27 rfl ?_
      rw [nI_1]
      refine go_putI (pc' := 31) dX7_advance_28 rfl flRX7_73 rfl rfl ft7_8 ?_
      refine go_goto (pc' := 8) dX7_advance_31 (by decide) ?_
      have hc := (bA_32 hB).mp h_18
      rw [scn_t hc] at k
      have hpl := (spB_iff.mp hc).1
      refine go_gen (fun g1 e1 => ?_)
      have f1 : FW [8] g g1 := by rw [e1]; exact FW.ui (by decide)
      exact ih (p + 1) g1 (by omega) (by omega) (h.fw f1 (by decide)) (by rw [e1]; simp [pg_ui_at]) (fun g' z1 z2 => k g' z1 (FW.tr f1 z2))

set_option maxHeartbeats 4000000 in
set_option maxRecDepth 20000 in
theorem lmt2 {sc : pg_Sc} {Q : pg_Q} {B : Nat → Nat} {L s : Nat} {x : Int32} : ∀ (m : Nat) (j : Nat) (g : pg_S), L ≤ s + j + m → s + j ≤ L → MTP g B L → g.1 59 7 = 1 → g.1 59 8 = nI s → g.1 59 9 = nI (s + j) → g.2 59 10 = wdI B s j → (∀ g', g'.1 59 9 = nI (scn (leB B L) m (s + j)) → g'.2 59 10 = wdI B s (scn (leB B L) m (s + j) - s) → FW [9] g g' → pg_Go sc 3 mX7_advance 207 [(0, .ref 59), (1, .int x)] [] g' Q) → pg_Go sc 3 mX7_advance 126 [(0, .ref 59), (1, .int x)] [] g Q := by
  intro m
  induction m with
  | zero =>
    intro j g hm hpL h h7 h8 h9 hw k
    have hL := h.2.1
    have hj : s + j = L := by omega
    have hB : s + j < L → B (s + j) < 256 := fun q => (h.2.2 (s + j) q).1
    have hc : ¬ leB B L (s + j) = true := fun q => by have := (leB_iff.mp q).1; omega
    have e0 : scn (leB B L) 0 (s + j) - s = j := by show s + j - s = j; omega
    refine go_aload_n (pc' := 127) dX7_advance_126 rfl rfl ?_
    refine go_getI (pc' := 130) dX7_advance_127 rfl flRX7_86 rfl rfl ?_
    rw [h7]
    refine go_iconst (pc' := 131) 1 dX7_advance_130 rfl (by decide) ?_
    refine go_icmp_ne (pc' := 134) (tgt := 207) dX7_advance_131 rfl (by decide) (fun h_131 => absurd rfl h_131) (fun h_131 => ?_)
    refine go_aload_n (pc' := 135) dX7_advance_134 rfl rfl ?_
    refine go_aload_n (pc' := 136) dX7_advance_135 rfl rfl ?_
    refine go_getI (pc' := 139) dX7_advance_136 rfl flRX7_70 rfl rfl ?_
    rw [h9]
    refine go_cVi1 (pc' := 142) (M' := mX7_byteAt) (d' := 1) dX7_advance_139 rfl cvRX7_75 rfl rfl (by decide) rfl (Nat.le_of_ble_eq_true rfl) ?_
    refine tX7_byteAt h (by omega) ?_
    refine go_cSi1 (pc' := 145) (M' := mX7_isLetter) (d' := 2) dX7_advance_142 rfl csRX7_79 (by decide) rfl (Nat.le_of_ble_eq_true rfl) ?_
    refine tX7_isLetter ?_
    refine go_if_eq (pc' := 148) (tgt := 207) dX7_advance_145 rfl (by decide) (fun h_145 => ?_) (fun h_145 => absurd ((bA_le hB).mp (pg_b1 h_145)) hc)
    have h_145 := pg_b0 h_145
    exact k g h9 (by rw [e0]; exact hw) FW.rf
  | succ m ih =>
    intro j g hm hpL h h7 h8 h9 hw k
    have hL := h.2.1
    have hB : s + j < L → B (s + j) < 256 := fun q => (h.2.2 (s + j) q).1
    refine go_aload_n (pc' := 127) dX7_advance_126 rfl rfl ?_
    refine go_getI (pc' := 130) dX7_advance_127 rfl flRX7_86 rfl rfl ?_
    rw [h7]
    refine go_iconst (pc' := 131) 1 dX7_advance_130 rfl (by decide) ?_
    refine go_icmp_ne (pc' := 134) (tgt := 207) dX7_advance_131 rfl (by decide) (fun h_131 => absurd rfl h_131) (fun h_131 => ?_)
    refine go_aload_n (pc' := 135) dX7_advance_134 rfl rfl ?_
    refine go_aload_n (pc' := 136) dX7_advance_135 rfl rfl ?_
    refine go_getI (pc' := 139) dX7_advance_136 rfl flRX7_70 rfl rfl ?_
    rw [h9]
    refine go_cVi1 (pc' := 142) (M' := mX7_byteAt) (d' := 1) dX7_advance_139 rfl cvRX7_75 rfl rfl (by decide) rfl (Nat.le_of_ble_eq_true rfl) ?_
    refine tX7_byteAt h (by omega) ?_
    refine go_cSi1 (pc' := 145) (M' := mX7_isLetter) (d' := 2) dX7_advance_142 rfl csRX7_79 (by decide) rfl (Nat.le_of_ble_eq_true rfl) ?_
    refine tX7_isLetter ?_
    refine go_if_eq (pc' := 148) (tgt := 207) dX7_advance_145 rfl (by decide) (fun h_145 => ?_) (fun h_145 => ?_)
    · have h_145 := pg_b0 h_145
      have hc : ¬ leB B L (s + j) = true := fun q => h_145 ((bA_le hB).mpr q)
      rw [scn_f hc, show s + j - s = j by omega] at k
      exact k g h9 hw FW.rf
    · have h_145 := pg_b1 h_145
      have hc := (bA_le hB).mp h_145
      have hpl := (leB_iff.mp hc).1
      rw [scn_t hc] at k
      refine go_aload_n (pc' := 149) dX7_advance_148 rfl rfl ?_
      refine go_aload_n (pc' := 150) dX7_advance_149 rfl rfl ?_
      refine go_getI (pc' := 153) dX7_advance_150 rfl flRX7_70 rfl rfl ?_
      rw [h9]
      refine go_aload_n (pc' := 154) dX7_advance_153 rfl rfl ?_
      refine go_getI (pc' := 157) dX7_advance_154 rfl flRX7_73 rfl rfl ?_
      rw [h8]
      refine go_isub (pc' := 158) dX7_advance_157 rfl ?_
      rw [show nI (s + j) - nI s = nI j by rw [pk_sub (by omega), show s + j - s = j by omega]]
      refine go_bipush (pc' := 160) 9 dX7_advance_158 rfl (by decide) ?_
      refine go_icmp_ge (pc' := 163) (tgt := 188) dX7_advance_160 rfl (by decide) (fun h_160 => ?_) (fun h_160 => ?_)
      · refine go_ldc2 (pc' := 191) dX7_advance_188 rfl clRX7_100 ?_
        refine go_putJ (pc' := 194) dX7_advance_191 rfl flRX7_89 rfl rfl ft7_10 ?_
        refine go_gen (fun g1 e1 => ?_)
        have f1 : FW [9] g g1 := by rw [e1]; exact FW.uj
        have h91 : g1.1 59 9 = nI (s + j) := by rw [e1]; exact h9
        refine go_aload_n (pc' := 195) dX7_advance_194 rfl rfl ?_
        refine go_dup (pc' := 196) dX7_advance_195 rfl rfl ?_
        refine go_getI (pc' := 199) dX7_advance_196 rfl flRX7_70 rfl rfl ?_
        rw [h91]
        refine go_iconst (pc' := 200) 1 dX7_advance_199 rfl (by decide) ?_
        refine go_iadd (pc' := 201) dX7_advance_200 rfl ?_
        rw [nI_1]
        refine go_putI (pc' := 204) dX7_advance_201 rfl flRX7_70 rfl rfl ft7_9 ?_
        refine go_goto (pc' := 126) dX7_advance_204 (by decide) ?_
        refine go_gen (fun g2 e2 => ?_)
        have f2 : FW [9] g g2 := FW.tr f1 (by rw [e2]; exact FW.ui (by decide))
        have w2 : g2.2 59 10 = wdI B s (j + 1) := by
          rw [e2, e1]
          rw [wdI_ge (by have := (nI_leI (a := 9) (by decide) (by omega)).mp h_160; omega)]
          simp [pg_uj_at]
        exact ih (j + 1) g2 (by omega) (by omega) (h.fw f2 (by decide)) ((f2.2.1 7 (by decide)).trans h7) ((f2.2.1 8 (by decide)).trans h8) (by rw [e2]; simp [pg_ui_at]; rfl) w2 (fun g' z1 z2 z3 => k g' z1 z2 (FW.tr f2 z3))
      · refine go_ldc2 (pc' := 166) dX7_advance_163 rfl clRX7_96 ?_
        refine go_aload_n (pc' := 167) dX7_advance_166 rfl rfl ?_
        refine go_getJ (pc' := 170) dX7_advance_167 rfl flRX7_89 rfl rfl ?_
        rw [hw]
        refine go_lmul (pc' := 171) dX7_advance_170 rfl ?_
        refine go_aload_n (pc' := 172) dX7_advance_171 rfl rfl ?_
        refine go_aload_n (pc' := 173) dX7_advance_172 rfl rfl ?_
        refine go_getI (pc' := 176) dX7_advance_173 rfl flRX7_70 rfl rfl ?_
        rw [h9]
        refine go_cVi1 (pc' := 179) (M' := mX7_byteAt) (d' := 1) dX7_advance_176 rfl cvRX7_75 rfl rfl (by decide) rfl (Nat.le_of_ble_eq_true rfl) ?_
        refine tX7_byteAt h (by omega) ?_
        rw [bA_y hpl]
        refine go_i2l (pc' := 180) dX7_advance_179 rfl ?_
        refine go_ladd (pc' := 181) dX7_advance_180 rfl ?_
        refine go_ldc2 (pc' := 184) dX7_advance_181 rfl clRX7_98 ?_
        refine go_lsub (pc' := 185) dX7_advance_184 rfl ?_
        refine go_goto (pc' := 191) dX7_advance_185 (by decide) ?_
        refine go_putJ (pc' := 194) dX7_advance_191 rfl flRX7_89 rfl rfl ft7_10 ?_
        refine go_gen (fun g1 e1 => ?_)
        have f1 : FW [9] g g1 := by rw [e1]; exact FW.uj
        have h91 : g1.1 59 9 = nI (s + j) := by rw [e1]; exact h9
        refine go_aload_n (pc' := 195) dX7_advance_194 rfl rfl ?_
        refine go_dup (pc' := 196) dX7_advance_195 rfl rfl ?_
        refine go_getI (pc' := 199) dX7_advance_196 rfl flRX7_70 rfl rfl ?_
        rw [h91]
        refine go_iconst (pc' := 200) 1 dX7_advance_199 rfl (by decide) ?_
        refine go_iadd (pc' := 201) dX7_advance_200 rfl ?_
        rw [nI_1]
        refine go_putI (pc' := 204) dX7_advance_201 rfl flRX7_70 rfl rfl ft7_9 ?_
        refine go_goto (pc' := 126) dX7_advance_204 (by decide) ?_
        refine go_gen (fun g2 e2 => ?_)
        have f2 : FW [9] g g2 := FW.tr f1 (by rw [e2]; exact FW.ui (by decide))
        have w2 : g2.2 59 10 = wdI B s (j + 1) := by
          rw [e2, e1]
          rw [wdI_lt (by
            rcases Nat.lt_or_ge j 9 with q | q
            · exact q
            · exact absurd (nI_le (a := 9) q (by omega)) h_160)]
          simp [pg_uj_at]
        exact ih (j + 1) g2 (by omega) (by omega) (h.fw f2 (by decide)) ((f2.2.1 7 (by decide)).trans h7) ((f2.2.1 8 (by decide)).trans h8) (by rw [e2]; simp [pg_ui_at]; rfl) w2 (fun g' z1 z2 z3 => k g' z1 z2 (FW.tr f2 z3))

set_option maxHeartbeats 4000000 in
set_option maxRecDepth 20000 in
theorem lmt3 {sc : pg_Sc} {Q : pg_Q} {B : Nat → Nat} {L s : Nat} {x : Int32} : ∀ (m : Nat) (j : Nat) (g : pg_S), L ≤ s + j + m → s + j ≤ L → MTP g B L → g.1 59 7 = 2 → g.1 59 8 = nI s → g.1 59 9 = nI (s + j) → g.1 59 11 = mvI B s j → (∀ g', g'.1 59 9 = nI (scn (diB B L) m (s + j)) → g'.1 59 11 = mvI B s (scn (diB B L) m (s + j) - s) → FW [9, 11] g g' → pg_Go sc 3 mX7_advance 282 [(0, .ref 59), (1, .int x)] [] g' Q) → pg_Go sc 3 mX7_advance 207 [(0, .ref 59), (1, .int x)] [] g Q := by
  intro m
  induction m with
  | zero =>
    intro j g hm hpL h h7 h8 h9 hw k
    have hL := h.2.1
    have hj : s + j = L := by omega
    have hB : s + j < L → B (s + j) < 256 := fun q => (h.2.2 (s + j) q).1
    have hc : ¬ diB B L (s + j) = true := fun q => by have := (diB_iff.mp q).1; omega
    have e0 : scn (diB B L) 0 (s + j) - s = j := by show s + j - s = j; omega
    refine go_aload_n (pc' := 208) dX7_advance_207 rfl rfl ?_
    refine go_getI (pc' := 211) dX7_advance_208 rfl flRX7_86 rfl rfl ?_
    rw [h7]
    refine go_iconst (pc' := 212) 2 dX7_advance_211 rfl (by decide) ?_
    refine go_icmp_ne (pc' := 215) (tgt := 282) dX7_advance_212 rfl (by decide) (fun h_212 => absurd rfl h_212) (fun h_212 => ?_)
    refine go_aload_n (pc' := 216) dX7_advance_215 rfl rfl ?_
    refine go_aload_n (pc' := 217) dX7_advance_216 rfl rfl ?_
    refine go_getI (pc' := 220) dX7_advance_217 rfl flRX7_70 rfl rfl ?_
    rw [h9]
    refine go_cVi1 (pc' := 223) (M' := mX7_byteAt) (d' := 1) dX7_advance_220 rfl cvRX7_75 rfl rfl (by decide) rfl (Nat.le_of_ble_eq_true rfl) ?_
    refine tX7_byteAt h (by omega) ?_
    refine go_cSi1 (pc' := 226) (M' := mX7_isDigit) (d' := 2) dX7_advance_223 rfl csRX7_83 (by decide) rfl (Nat.le_of_ble_eq_true rfl) ?_
    refine tX7_isDigit ?_
    refine go_if_eq (pc' := 229) (tgt := 282) dX7_advance_226 rfl (by decide) (fun h_226 => ?_) (fun h_226 => absurd ((bA_di hB).mp (pg_b1 h_226)) hc)
    have h_226 := pg_b0 h_226
    exact k g h9 (by rw [e0]; exact hw) FW.rf
  | succ m ih =>
    intro j g hm hpL h h7 h8 h9 hw k
    have hL := h.2.1
    have hB : s + j < L → B (s + j) < 256 := fun q => (h.2.2 (s + j) q).1
    refine go_aload_n (pc' := 208) dX7_advance_207 rfl rfl ?_
    refine go_getI (pc' := 211) dX7_advance_208 rfl flRX7_86 rfl rfl ?_
    rw [h7]
    refine go_iconst (pc' := 212) 2 dX7_advance_211 rfl (by decide) ?_
    refine go_icmp_ne (pc' := 215) (tgt := 282) dX7_advance_212 rfl (by decide) (fun h_212 => absurd rfl h_212) (fun h_212 => ?_)
    refine go_aload_n (pc' := 216) dX7_advance_215 rfl rfl ?_
    refine go_aload_n (pc' := 217) dX7_advance_216 rfl rfl ?_
    refine go_getI (pc' := 220) dX7_advance_217 rfl flRX7_70 rfl rfl ?_
    rw [h9]
    refine go_cVi1 (pc' := 223) (M' := mX7_byteAt) (d' := 1) dX7_advance_220 rfl cvRX7_75 rfl rfl (by decide) rfl (Nat.le_of_ble_eq_true rfl) ?_
    refine tX7_byteAt h (by omega) ?_
    refine go_cSi1 (pc' := 226) (M' := mX7_isDigit) (d' := 2) dX7_advance_223 rfl csRX7_83 (by decide) rfl (Nat.le_of_ble_eq_true rfl) ?_
    refine tX7_isDigit ?_
    refine go_if_eq (pc' := 229) (tgt := 282) dX7_advance_226 rfl (by decide) (fun h_226 => ?_) (fun h_226 => ?_)
    · have h_226 := pg_b0 h_226
      have hc : ¬ diB B L (s + j) = true := fun q => h_226 ((bA_di hB).mpr q)
      rw [scn_f hc, show s + j - s = j by omega] at k
      exact k g h9 hw FW.rf
    · have h_226 := pg_b1 h_226
      have hc := (bA_di hB).mp h_226
      have hpl := (diB_iff.mp hc).1
      rw [scn_t hc] at k
      refine go_aload_n (pc' := 230) dX7_advance_229 rfl rfl ?_
      refine go_aload_n (pc' := 231) dX7_advance_230 rfl rfl ?_
      refine go_getI (pc' := 234) dX7_advance_231 rfl flRX7_70 rfl rfl ?_
      rw [h9]
      refine go_aload_n (pc' := 235) dX7_advance_234 rfl rfl ?_
      refine go_getI (pc' := 238) dX7_advance_235 rfl flRX7_73 rfl rfl ?_
      rw [h8]
      refine go_isub (pc' := 239) dX7_advance_238 rfl ?_
      rw [show nI (s + j) - nI s = nI j by rw [pk_sub (by omega), show s + j - s = j by omega]]
      refine go_iconst (pc' := 240) 3 dX7_advance_239 rfl (by decide) ?_
      refine go_icmp_ge (pc' := 243) (tgt := 265) dX7_advance_240 rfl (by decide) (fun h_240 => ?_) (fun h_240 => ?_)
      · refine go_iconst (pc' := 266) (-1) dX7_advance_265 rfl (by decide) ?_
        refine go_putI (pc' := 269) dX7_advance_266 rfl flRX7_93 rfl rfl ft7_11 ?_
        refine go_gen (fun g1 e1 => ?_)
        have f1 : FW [9, 11] g g1 := by rw [e1]; exact FW.ui (by decide)
        have h91 : g1.1 59 9 = nI (s + j) := by rw [e1]; simpa [pg_ui_at] using h9
        refine go_aload_n (pc' := 270) dX7_advance_269 rfl rfl ?_
        refine go_dup (pc' := 271) dX7_advance_270 rfl rfl ?_
        refine go_getI (pc' := 274) dX7_advance_271 rfl flRX7_70 rfl rfl ?_
        rw [h91]
        refine go_iconst (pc' := 275) 1 dX7_advance_274 rfl (by decide) ?_
        refine go_iadd (pc' := 276) dX7_advance_275 rfl ?_
        rw [nI_1]
        refine go_putI (pc' := 279) dX7_advance_276 rfl flRX7_70 rfl rfl ft7_9 ?_
        refine go_goto (pc' := 207) dX7_advance_279 (by decide) ?_
        refine go_gen (fun g2 e2 => ?_)
        have f2 : FW [9, 11] g g2 := FW.tr f1 (by rw [e2]; exact FW.ui (by decide))
        have w2 : g2.1 59 11 = mvI B s (j + 1) := by
          rw [e2, e1]
          rw [mvI_ge (by have := (nI_leI (a := 3) (by decide) (by omega)).mp h_240; omega)]
          simp [pg_ui_at]
        exact ih (j + 1) g2 (by omega) (by omega) (h.fw f2 (by decide)) ((f2.2.1 7 (by decide)).trans h7) ((f2.2.1 8 (by decide)).trans h8) (by rw [e2]; simp [pg_ui_at]; rfl) w2 (fun g' z1 z2 z3 => k g' z1 z2 (FW.tr f2 z3))
      · refine go_bipush (pc' := 245) 10 dX7_advance_243 rfl (by decide) ?_
        refine go_aload_n (pc' := 246) dX7_advance_245 rfl rfl ?_
        refine go_getI (pc' := 249) dX7_advance_246 rfl flRX7_93 rfl rfl ?_
        rw [hw]
        refine go_imul (pc' := 250) dX7_advance_249 rfl ?_
        refine go_aload_n (pc' := 251) dX7_advance_250 rfl rfl ?_
        refine go_aload_n (pc' := 252) dX7_advance_251 rfl rfl ?_
        refine go_getI (pc' := 255) dX7_advance_252 rfl flRX7_70 rfl rfl ?_
        rw [h9]
        refine go_cVi1 (pc' := 258) (M' := mX7_byteAt) (d' := 1) dX7_advance_255 rfl cvRX7_75 rfl rfl (by decide) rfl (Nat.le_of_ble_eq_true rfl) ?_
        refine tX7_byteAt h (by omega) ?_
        rw [bA_y hpl]
        refine go_iadd (pc' := 259) dX7_advance_258 rfl ?_
        refine go_bipush (pc' := 261) 48 dX7_advance_259 rfl (by decide) ?_
        refine go_isub (pc' := 262) dX7_advance_261 rfl ?_
        refine go_goto (pc' := 266) dX7_advance_262 (by decide) ?_
        refine go_putI (pc' := 269) dX7_advance_266 rfl flRX7_93 rfl rfl ft7_11 ?_
        refine go_gen (fun g1 e1 => ?_)
        have f1 : FW [9, 11] g g1 := by rw [e1]; exact FW.ui (by decide)
        have h91 : g1.1 59 9 = nI (s + j) := by rw [e1]; simpa [pg_ui_at] using h9
        refine go_aload_n (pc' := 270) dX7_advance_269 rfl rfl ?_
        refine go_dup (pc' := 271) dX7_advance_270 rfl rfl ?_
        refine go_getI (pc' := 274) dX7_advance_271 rfl flRX7_70 rfl rfl ?_
        rw [h91]
        refine go_iconst (pc' := 275) 1 dX7_advance_274 rfl (by decide) ?_
        refine go_iadd (pc' := 276) dX7_advance_275 rfl ?_
        rw [nI_1]
        refine go_putI (pc' := 279) dX7_advance_276 rfl flRX7_70 rfl rfl ft7_9 ?_
        refine go_goto (pc' := 207) dX7_advance_279 (by decide) ?_
        refine go_gen (fun g2 e2 => ?_)
        have f2 : FW [9, 11] g g2 := FW.tr f1 (by rw [e2]; exact FW.ui (by decide))
        have w2 : g2.1 59 11 = mvI B s (j + 1) := by
          rw [e2, e1]
          rw [mvI_lt (by
            rcases Nat.lt_or_ge j 3 with q | q
            · exact q
            · exact absurd (nI_le (a := 3) q (by omega)) h_240)]
          simp [pg_ui_at]
        exact ih (j + 1) g2 (by omega) (by omega) (h.fw f2 (by decide)) ((f2.2.1 7 (by decide)).trans h7) ((f2.2.1 8 (by decide)).trans h8) (by rw [e2]; simp [pg_ui_at]; rfl) w2 (fun g' z1 z2 z3 => k g' z1 z2 (FW.tr f2 z3))

set_option maxHeartbeats 4000000 in
set_option maxRecDepth 20000 in
theorem tX7_advance {sc : pg_Sc} {g : pg_S} {K : pg_S → Prop} {B : Nat → Nat} {L p : Nat} (h : MTP g B L) (hx : g.1 59 9 = nI p) (hpL : p ≤ L) (k : ∀ g', MTP g' B L → MK B L p g' → FW [7, 8, 9, 11] g g' → K g') : pg_Cal sc 3 mX7_advance [.ref 59] g (pg_kv K) := by
  refine pg_Cal.of rfl (Nat.le_of_ble_eq_true rfl) rfl ?_
  have hL := h.2.1
  have hsk := sk_le (B := B) hpL
  have hB : skF B L p < L → B (skF B L p) < 256 := fun q => (h.2.2 _ q).1
  refine go_aload_n (pc' := 1) dX7_advance_0 rfl rfl ?_
  refine go_aload_n (pc' := 2) dX7_advance_1 rfl rfl ?_
  refine go_getI (pc' := 5) dX7_advance_2 rfl flRX7_70 rfl rfl ?_
  rw [hx]
  refine go_putI (pc' := 8) dX7_advance_5 rfl flRX7_73 rfl rfl ft7_8 ?_
  refine go_gen (fun g1 e1 => ?_)
  have F1 : FW [7, 8, 9, 11] g g1 := by rw [e1]; exact FW.ui (by decide)
  have b1 : g1.1 59 8 = nI p := by rw [e1]; simp [pg_ui_at]
  refine lmt1 L p g1 (by omega) hpL (h.fw F1 (by decide)) b1 (fun g2 b2 f2 => ?_)
  have F2 : FW [7, 8, 9, 11] g g2 := FW.tr F1 (f2.wd (by decide))
  have b2 : g2.1 59 8 = nI (skF B L p) := b2
  refine go_aload_n (pc' := 35) dX7_advance_34 rfl rfl ?_
  refine go_aload_n (pc' := 36) dX7_advance_35 rfl rfl ?_
  refine go_getI (pc' := 39) dX7_advance_36 rfl flRX7_73 rfl rfl ?_
  rw [b2]
  refine go_putI (pc' := 42) dX7_advance_39 rfl flRX7_70 rfl rfl ft7_9 ?_
  refine go_gen (fun g3 e3 => ?_)
  have F3 : FW [7, 8, 9, 11] g g3 := FW.tr F2 (by rw [e3]; exact FW.ui (by decide))
  have b3 : g3.1 59 8 = nI (skF B L p) := by rw [e3]; simpa [pg_ui_at] using b2
  have n3 : g3.1 59 9 = nI (skF B L p) := by rw [e3]; simp [pg_ui_at]
  refine go_aload_n (pc' := 43) dX7_advance_42 rfl rfl ?_
  refine go_aload_n (pc' := 44) dX7_advance_43 rfl rfl ?_
  refine go_getI (pc' := 47) dX7_advance_44 rfl flRX7_73 rfl rfl ?_
  rw [b3]
  refine go_cVi1 (pc' := 50) (M' := mX7_byteAt) (d' := 1) dX7_advance_47 rfl cvRX7_75 rfl rfl (by decide) rfl (Nat.le_of_ble_eq_true rfl) ?_
  refine tX7_byteAt (h.fw F3 (by decide)) (by omega) ?_
  refine go_istore_n (pc' := 51) dX7_advance_50 rfl (by decide) rfl ?_
  refine go_aload_n (pc' := 52) dX7_advance_51 rfl rfl ?_
  refine go_iload_n (pc' := 53) dX7_advance_52 rfl rfl ?_
  refine go_if_ge (pc' := 56) (tgt := 60) dX7_advance_53 rfl (by decide) (fun h_53 => ?_) (fun h_53 => ?_)
  · have hsl := (bA_0 hB).mp h_53
    refine go_iload_n (pc' := 61) dX7_advance_60 rfl rfl ?_
    refine go_cSi1 (pc' := 64) (M' := mX7_isLetter) (d' := 2) dX7_advance_61 rfl csRX7_79 (by decide) rfl (Nat.le_of_ble_eq_true rfl) ?_
    refine tX7_isLetter ?_
    refine go_if_eq (pc' := 67) (tgt := 71) dX7_advance_64 rfl (by decide) (fun h_64 => ?_) (fun h_64 => ?_)
    · have h_64 := pg_b0 h_64
      have hle : ¬ leB B L (skF B L p) = true := fun q => h_64 ((bA_le hB).mpr q)
      refine go_iload_n (pc' := 72) dX7_advance_71 rfl rfl ?_
      refine go_cSi1 (pc' := 75) (M' := mX7_isDigit) (d' := 2) dX7_advance_72 rfl csRX7_83 (by decide) rfl (Nat.le_of_ble_eq_true rfl) ?_
      refine tX7_isDigit ?_
      refine go_if_eq (pc' := 78) (tgt := 82) dX7_advance_75 rfl (by decide) (fun h_75 => ?_) (fun h_75 => ?_)
      · have h_75 := pg_b0 h_75
        have hdi : ¬ diB B L (skF B L p) = true := fun q => h_75 ((bA_di hB).mpr q)
        refine go_iconst (pc' := 83) 3 dX7_advance_82 rfl (by decide) ?_
        refine go_putI (pc' := 86) dX7_advance_83 rfl flRX7_86 rfl rfl ft7_7 ?_
        refine go_gen (fun g4 e4 => ?_)
        have F4 : FW [7, 8, 9, 11] g g4 := FW.tr F3 (by rw [e4]; exact FW.ui (by decide))
        refine go_aload_n (pc' := 87) dX7_advance_86 rfl rfl ?_
        refine go_lconst (pc' := 88) 0 dX7_advance_87 rfl (by decide) ?_
        refine go_putJ (pc' := 91) dX7_advance_88 rfl flRX7_89 rfl rfl ft7_10 ?_
        refine go_gen (fun g5 e5 => ?_)
        have F5 : FW [7, 8, 9, 11] g g5 := FW.tr F4 (by rw [e5]; exact FW.uj)
        have s5 : g5.1 59 7 = 3 := by rw [e5, e4]; simp [pg_ui_at]
        have b5 : g5.1 59 8 = nI (skF B L p) := by rw [e5, e4]; simpa [pg_ui_at] using b3
        have n5 : g5.1 59 9 = nI (skF B L p) := by rw [e5, e4]; simpa [pg_ui_at] using n3
        have w5 : g5.2 59 10 = 0 := by rw [e5]; simp [pg_uj_at]
        refine go_aload_n (pc' := 92) dX7_advance_91 rfl rfl ?_
        refine go_aload_n (pc' := 93) dX7_advance_92 rfl rfl ?_
        refine go_getI (pc' := 96) dX7_advance_93 rfl flRX7_86 rfl rfl ?_
        rw [s5]
        refine go_iconst (pc' := 97) 2 dX7_advance_96 rfl (by decide) ?_
        refine go_icmp_ne (pc' := 100) (tgt := 104) dX7_advance_97 rfl (by decide) (fun h_97 => ?_) (fun h_97 => absurd h_97 (by decide))
        refine go_iload_n (pc' := 105) dX7_advance_104 rfl rfl ?_
        refine go_putI (pc' := 108) dX7_advance_105 rfl flRX7_93 rfl rfl ft7_11 ?_
        refine go_gen (fun g6 e6 => ?_)
        have Fg6 : FW [7, 8, 9, 11] g g6 := FW.tr F5 (by rw [e6]; exact FW.ui (by decide))
        have s6 : g6.1 59 7 = 3 := by rw [e6]; simpa [pg_ui_at] using s5
        have b6 : g6.1 59 8 = nI (skF B L p) := by rw [e6]; simpa [pg_ui_at] using b5
        have n6 : g6.1 59 9 = nI (skF B L p) := by rw [e6]; simpa [pg_ui_at] using n5
        have w6 : g6.2 59 10 = 0 := by rw [e6]; exact w5
        have v6 : g6.1 59 11 = bAI B L (skF B L p) := by rw [e6]; simp [pg_ui_at]
        refine go_aload_n (pc' := 109) dX7_advance_108 rfl rfl ?_
        refine go_getI (pc' := 112) dX7_advance_109 rfl flRX7_86 rfl rfl ?_
        rw [s6]
        refine go_iconst (pc' := 113) 3 dX7_advance_112 rfl (by decide) ?_
        refine go_icmp_ne (pc' := 116) (tgt := 126) dX7_advance_113 rfl (by decide) (fun h_113 => absurd rfl h_113) (fun h_113 => ?_)
        refine go_aload_n (pc' := 117) dX7_advance_116 rfl rfl ?_
        refine go_dup (pc' := 118) dX7_advance_117 rfl rfl ?_
        refine go_getI (pc' := 121) dX7_advance_118 rfl flRX7_70 rfl rfl ?_
        rw [n6]
        refine go_iconst (pc' := 122) 1 dX7_advance_121 rfl (by decide) ?_
        refine go_iadd (pc' := 123) dX7_advance_122 rfl ?_
        rw [nI_1]
        refine go_putI (pc' := 126) dX7_advance_123 rfl flRX7_70 rfl rfl ft7_9 ?_
        refine go_gen (fun g7 e7 => ?_)
        have Fg7 : FW [7, 8, 9, 11] g g7 := FW.tr Fg6 (by rw [e7]; exact FW.ui (by decide))
        have hT : MTP g7 B L := h.fw Fg7 (by decide)
        have s7 : g7.1 59 7 = 3 := by rw [e7]; simpa [pg_ui_at] using s6
        have b7 : g7.1 59 8 = nI (skF B L p) := by rw [e7]; simpa [pg_ui_at] using b6
        refine go_aload_n (pc' := 127) dX7_advance_126 rfl rfl ?_
        refine go_getI (pc' := 130) dX7_advance_127 rfl flRX7_86 rfl rfl ?_
        rw [s7]
        refine go_iconst (pc' := 131) 1 dX7_advance_130 rfl (by decide) ?_
        refine go_icmp_ne (pc' := 134) (tgt := 207) dX7_advance_131 rfl (by decide) (fun h_131 => ?_) (fun h_131 => absurd h_131 (by decide))
        refine go_aload_n (pc' := 208) dX7_advance_207 rfl rfl ?_
        refine go_getI (pc' := 211) dX7_advance_208 rfl flRX7_86 rfl rfl ?_
        rw [s7]
        refine go_iconst (pc' := 212) 2 dX7_advance_211 rfl (by decide) ?_
        refine go_icmp_ne (pc' := 215) (tgt := 282) dX7_advance_212 rfl (by decide) (fun h_212 => ?_) (fun h_212 => absurd h_212 (by decide))
        refine go_vret dX7_advance_282 rfl ?_
        obtain ⟨t1, t2⟩ := tok3 (p := p) hsl hle hdi
        refine k g7 hT ⟨?_, b7, ?_, fun q => by rw [t1] at q; omega, fun q => by rw [t1] at q; omega, fun _ => by rw [e7]; simpa [pg_ui_at, bA_y hsl] using v6⟩ Fg7
        · rw [t2]; rw [e7]; simp [pg_ui_at]
        · rw [t1, s7]; rfl
      · have h_75 := pg_b1 h_75
        have hdi := (bA_di hB).mp h_75
        refine go_iconst (pc' := 79) 2 dX7_advance_78 rfl (by decide) ?_
        refine go_goto (pc' := 83) dX7_advance_79 (by decide) ?_
        refine go_putI (pc' := 86) dX7_advance_83 rfl flRX7_86 rfl rfl ft7_7 ?_
        refine go_gen (fun g4 e4 => ?_)
        have F4 : FW [7, 8, 9, 11] g g4 := FW.tr F3 (by rw [e4]; exact FW.ui (by decide))
        refine go_aload_n (pc' := 87) dX7_advance_86 rfl rfl ?_
        refine go_lconst (pc' := 88) 0 dX7_advance_87 rfl (by decide) ?_
        refine go_putJ (pc' := 91) dX7_advance_88 rfl flRX7_89 rfl rfl ft7_10 ?_
        refine go_gen (fun g5 e5 => ?_)
        have F5 : FW [7, 8, 9, 11] g g5 := FW.tr F4 (by rw [e5]; exact FW.uj)
        have s5 : g5.1 59 7 = 2 := by rw [e5, e4]; simp [pg_ui_at]
        have b5 : g5.1 59 8 = nI (skF B L p) := by rw [e5, e4]; simpa [pg_ui_at] using b3
        have n5 : g5.1 59 9 = nI (skF B L p) := by rw [e5, e4]; simpa [pg_ui_at] using n3
        have w5 : g5.2 59 10 = 0 := by rw [e5]; simp [pg_uj_at]
        refine go_aload_n (pc' := 92) dX7_advance_91 rfl rfl ?_
        refine go_aload_n (pc' := 93) dX7_advance_92 rfl rfl ?_
        refine go_getI (pc' := 96) dX7_advance_93 rfl flRX7_86 rfl rfl ?_
        rw [s5]
        refine go_iconst (pc' := 97) 2 dX7_advance_96 rfl (by decide) ?_
        refine go_icmp_ne (pc' := 100) (tgt := 104) dX7_advance_97 rfl (by decide) (fun h_97 => absurd rfl h_97) (fun h_97 => ?_)
        refine go_iconst (pc' := 101) 0 dX7_advance_100 rfl (by decide) ?_
        refine go_goto (pc' := 105) dX7_advance_101 (by decide) ?_
        refine go_putI (pc' := 108) dX7_advance_105 rfl flRX7_93 rfl rfl ft7_11 ?_
        refine go_gen (fun g6 e6 => ?_)
        have Fg6 : FW [7, 8, 9, 11] g g6 := FW.tr F5 (by rw [e6]; exact FW.ui (by decide))
        have s6 : g6.1 59 7 = 2 := by rw [e6]; simpa [pg_ui_at] using s5
        have b6 : g6.1 59 8 = nI (skF B L p) := by rw [e6]; simpa [pg_ui_at] using b5
        have n6 : g6.1 59 9 = nI (skF B L p) := by rw [e6]; simpa [pg_ui_at] using n5
        have w6 : g6.2 59 10 = 0 := by rw [e6]; exact w5
        have v6 : g6.1 59 11 = 0 := by rw [e6]; simp [pg_ui_at]
        refine go_aload_n (pc' := 109) dX7_advance_108 rfl rfl ?_
        refine go_getI (pc' := 112) dX7_advance_109 rfl flRX7_86 rfl rfl ?_
        rw [s6]
        refine go_iconst (pc' := 113) 3 dX7_advance_112 rfl (by decide) ?_
        refine go_icmp_ne (pc' := 116) (tgt := 126) dX7_advance_113 rfl (by decide) (fun h_113 => ?_) (fun h_113 => absurd h_113 (by decide))
        have hT : MTP g6 B L := h.fw Fg6 (by decide)
        have s7 : g6.1 59 7 = 2 := by exact s6
        have b7 : g6.1 59 8 = nI (skF B L p) := by exact b6
        refine go_aload_n (pc' := 127) dX7_advance_126 rfl rfl ?_
        refine go_getI (pc' := 130) dX7_advance_127 rfl flRX7_86 rfl rfl ?_
        rw [s7]
        refine go_iconst (pc' := 131) 1 dX7_advance_130 rfl (by decide) ?_
        refine go_icmp_ne (pc' := 134) (tgt := 207) dX7_advance_131 rfl (by decide) (fun h_131 => ?_) (fun h_131 => absurd h_131 (by decide))
        refine lmt3 (s := skF B L p) L 0 g6 (by omega) (by omega) hT s7 b7 n6 v6 (fun g8 n8 w8 f8 => ?_)
        refine go_vret dX7_advance_282 rfl ?_
        obtain ⟨t1, t2⟩ := tok2 (p := p) hle hdi
        have f9 : FW [7, 8, 9, 11] g g8 := FW.tr Fg6 (f8.wd (by decide))
        refine k g8 (h.fw f9 (by decide)) ⟨?_, ?_, ?_, fun q => by rw [t1] at q; omega, fun _ => ?_, fun q => by rw [t1] at q; omega⟩ f9
        · rw [t2]; exact n8
        · exact (f8.2.1 8 (by decide)).trans b7
        · rw [t1]; exact (f8.2.1 7 (by decide)).trans s7
        · rw [t2]; exact w8
    · have h_64 := pg_b1 h_64
      have hle := (bA_le hB).mp h_64
      refine go_iconst (pc' := 68) 1 dX7_advance_67 rfl (by decide) ?_
      refine go_goto (pc' := 83) dX7_advance_68 (by decide) ?_
      refine go_putI (pc' := 86) dX7_advance_83 rfl flRX7_86 rfl rfl ft7_7 ?_
      refine go_gen (fun g4 e4 => ?_)
      have F4 : FW [7, 8, 9, 11] g g4 := FW.tr F3 (by rw [e4]; exact FW.ui (by decide))
      refine go_aload_n (pc' := 87) dX7_advance_86 rfl rfl ?_
      refine go_lconst (pc' := 88) 0 dX7_advance_87 rfl (by decide) ?_
      refine go_putJ (pc' := 91) dX7_advance_88 rfl flRX7_89 rfl rfl ft7_10 ?_
      refine go_gen (fun g5 e5 => ?_)
      have F5 : FW [7, 8, 9, 11] g g5 := FW.tr F4 (by rw [e5]; exact FW.uj)
      have s5 : g5.1 59 7 = 1 := by rw [e5, e4]; simp [pg_ui_at]
      have b5 : g5.1 59 8 = nI (skF B L p) := by rw [e5, e4]; simpa [pg_ui_at] using b3
      have n5 : g5.1 59 9 = nI (skF B L p) := by rw [e5, e4]; simpa [pg_ui_at] using n3
      have w5 : g5.2 59 10 = 0 := by rw [e5]; simp [pg_uj_at]
      refine go_aload_n (pc' := 92) dX7_advance_91 rfl rfl ?_
      refine go_aload_n (pc' := 93) dX7_advance_92 rfl rfl ?_
      refine go_getI (pc' := 96) dX7_advance_93 rfl flRX7_86 rfl rfl ?_
      rw [s5]
      refine go_iconst (pc' := 97) 2 dX7_advance_96 rfl (by decide) ?_
      refine go_icmp_ne (pc' := 100) (tgt := 104) dX7_advance_97 rfl (by decide) (fun h_97 => ?_) (fun h_97 => absurd h_97 (by decide))
      refine go_iload_n (pc' := 105) dX7_advance_104 rfl rfl ?_
      refine go_putI (pc' := 108) dX7_advance_105 rfl flRX7_93 rfl rfl ft7_11 ?_
      refine go_gen (fun g6 e6 => ?_)
      have Fg6 : FW [7, 8, 9, 11] g g6 := FW.tr F5 (by rw [e6]; exact FW.ui (by decide))
      have s6 : g6.1 59 7 = 1 := by rw [e6]; simpa [pg_ui_at] using s5
      have b6 : g6.1 59 8 = nI (skF B L p) := by rw [e6]; simpa [pg_ui_at] using b5
      have n6 : g6.1 59 9 = nI (skF B L p) := by rw [e6]; simpa [pg_ui_at] using n5
      have w6 : g6.2 59 10 = 0 := by rw [e6]; exact w5
      have v6 : g6.1 59 11 = bAI B L (skF B L p) := by rw [e6]; simp [pg_ui_at]
      refine go_aload_n (pc' := 109) dX7_advance_108 rfl rfl ?_
      refine go_getI (pc' := 112) dX7_advance_109 rfl flRX7_86 rfl rfl ?_
      rw [s6]
      refine go_iconst (pc' := 113) 3 dX7_advance_112 rfl (by decide) ?_
      refine go_icmp_ne (pc' := 116) (tgt := 126) dX7_advance_113 rfl (by decide) (fun h_113 => ?_) (fun h_113 => absurd h_113 (by decide))
      have hT : MTP g6 B L := h.fw Fg6 (by decide)
      have s7 : g6.1 59 7 = 1 := by exact s6
      have b7 : g6.1 59 8 = nI (skF B L p) := by exact b6
      refine lmt2 (s := skF B L p) L 0 g6 (by omega) (by omega) hT s7 b7 n6 w6 (fun g8 n8 w8 f8 => ?_)
      refine go_aload_n (pc' := 208) dX7_advance_207 rfl rfl ?_
      refine go_getI (pc' := 211) dX7_advance_208 rfl flRX7_86 rfl rfl ?_
      rw [show g8.1 59 7 = 1 from (f8.2.1 7 (by decide)).trans s7]
      refine go_iconst (pc' := 212) 2 dX7_advance_211 rfl (by decide) ?_
      refine go_icmp_ne (pc' := 215) (tgt := 282) dX7_advance_212 rfl (by decide) (fun h_212 => ?_) (fun h_212 => absurd h_212 (by decide))
      refine go_vret dX7_advance_282 rfl ?_
      obtain ⟨t1, t2⟩ := tok1 (p := p) hle
      have f9 : FW [7, 8, 9, 11] g g8 := FW.tr Fg6 (f8.wd (by decide))
      refine k g8 (h.fw f9 (by decide)) ⟨?_, ?_, ?_, fun _ => ?_, fun q => by rw [t1] at q; omega, fun q => by rw [t1] at q; omega⟩ f9
      · rw [t2]; exact n8
      · exact (f8.2.1 8 (by decide)).trans b7
      · rw [t1]; exact (f8.2.1 7 (by decide)).trans s7
      · rw [t2]; exact w8
  · have hsl : ¬ skF B L p < L := fun q => h_53 ((bA_0 hB).mpr q)
    refine go_iconst (pc' := 57) 0 dX7_advance_56 rfl (by decide) ?_
    refine go_goto (pc' := 83) dX7_advance_57 (by decide) ?_
    refine go_putI (pc' := 86) dX7_advance_83 rfl flRX7_86 rfl rfl ft7_7 ?_
    refine go_gen (fun g4 e4 => ?_)
    have F4 : FW [7, 8, 9, 11] g g4 := FW.tr F3 (by rw [e4]; exact FW.ui (by decide))
    refine go_aload_n (pc' := 87) dX7_advance_86 rfl rfl ?_
    refine go_lconst (pc' := 88) 0 dX7_advance_87 rfl (by decide) ?_
    refine go_putJ (pc' := 91) dX7_advance_88 rfl flRX7_89 rfl rfl ft7_10 ?_
    refine go_gen (fun g5 e5 => ?_)
    have F5 : FW [7, 8, 9, 11] g g5 := FW.tr F4 (by rw [e5]; exact FW.uj)
    have s5 : g5.1 59 7 = 0 := by rw [e5, e4]; simp [pg_ui_at]
    have b5 : g5.1 59 8 = nI (skF B L p) := by rw [e5, e4]; simpa [pg_ui_at] using b3
    have n5 : g5.1 59 9 = nI (skF B L p) := by rw [e5, e4]; simpa [pg_ui_at] using n3
    have w5 : g5.2 59 10 = 0 := by rw [e5]; simp [pg_uj_at]
    refine go_aload_n (pc' := 92) dX7_advance_91 rfl rfl ?_
    refine go_aload_n (pc' := 93) dX7_advance_92 rfl rfl ?_
    refine go_getI (pc' := 96) dX7_advance_93 rfl flRX7_86 rfl rfl ?_
    rw [s5]
    refine go_iconst (pc' := 97) 2 dX7_advance_96 rfl (by decide) ?_
    refine go_icmp_ne (pc' := 100) (tgt := 104) dX7_advance_97 rfl (by decide) (fun h_97 => ?_) (fun h_97 => absurd h_97 (by decide))
    refine go_iload_n (pc' := 105) dX7_advance_104 rfl rfl ?_
    refine go_putI (pc' := 108) dX7_advance_105 rfl flRX7_93 rfl rfl ft7_11 ?_
    refine go_gen (fun g6 e6 => ?_)
    have Fg6 : FW [7, 8, 9, 11] g g6 := FW.tr F5 (by rw [e6]; exact FW.ui (by decide))
    have s6 : g6.1 59 7 = 0 := by rw [e6]; simpa [pg_ui_at] using s5
    have b6 : g6.1 59 8 = nI (skF B L p) := by rw [e6]; simpa [pg_ui_at] using b5
    have n6 : g6.1 59 9 = nI (skF B L p) := by rw [e6]; simpa [pg_ui_at] using n5
    have w6 : g6.2 59 10 = 0 := by rw [e6]; exact w5
    have v6 : g6.1 59 11 = bAI B L (skF B L p) := by rw [e6]; simp [pg_ui_at]
    refine go_aload_n (pc' := 109) dX7_advance_108 rfl rfl ?_
    refine go_getI (pc' := 112) dX7_advance_109 rfl flRX7_86 rfl rfl ?_
    rw [s6]
    refine go_iconst (pc' := 113) 3 dX7_advance_112 rfl (by decide) ?_
    refine go_icmp_ne (pc' := 116) (tgt := 126) dX7_advance_113 rfl (by decide) (fun h_113 => ?_) (fun h_113 => absurd h_113 (by decide))
    have hT : MTP g6 B L := h.fw Fg6 (by decide)
    have s7 : g6.1 59 7 = 0 := by exact s6
    have b7 : g6.1 59 8 = nI (skF B L p) := by exact b6
    refine go_aload_n (pc' := 127) dX7_advance_126 rfl rfl ?_
    refine go_getI (pc' := 130) dX7_advance_127 rfl flRX7_86 rfl rfl ?_
    rw [s7]
    refine go_iconst (pc' := 131) 1 dX7_advance_130 rfl (by decide) ?_
    refine go_icmp_ne (pc' := 134) (tgt := 207) dX7_advance_131 rfl (by decide) (fun h_131 => ?_) (fun h_131 => absurd h_131 (by decide))
    refine go_aload_n (pc' := 208) dX7_advance_207 rfl rfl ?_
    refine go_getI (pc' := 211) dX7_advance_208 rfl flRX7_86 rfl rfl ?_
    rw [s7]
    refine go_iconst (pc' := 212) 2 dX7_advance_211 rfl (by decide) ?_
    refine go_icmp_ne (pc' := 215) (tgt := 282) dX7_advance_212 rfl (by decide) (fun h_212 => ?_) (fun h_212 => absurd h_212 (by decide))
    refine go_vret dX7_advance_282 rfl ?_
    obtain ⟨t1, t2⟩ := tok0 (B := B) (L := L) (p := p) hsl
    refine k g6 hT ⟨?_, b7, ?_, fun q => by rw [t1] at q; omega, fun q => by rw [t1] at q; omega, fun q => by rw [t1] at q; omega⟩ Fg6
    · rw [t2]; exact n6
    · rw [t1, s7]; rfl

