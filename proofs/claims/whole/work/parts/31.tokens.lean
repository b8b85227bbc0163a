def scn (c : Nat → Bool) : Nat → Nat → Nat
  | 0, p => p
  | m + 1, p => if c p = true then scn c m (p + 1) else p
theorem scn_t {c : Nat → Bool} {m p : Nat} (h : c p = true) : scn c (m + 1) p = scn c m (p + 1) := if_pos h
theorem scn_f {c : Nat → Bool} {m p : Nat} (h : ¬ c p = true) : scn c (m + 1) p = p := if_neg h
theorem scn_n {c : Nat → Bool} {m p : Nat} (h : ¬ c p = true) : scn c m p = p := by
  cases m with
  | zero => rfl
  | succ m => exact scn_f h
theorem scn_ge {c : Nat → Bool} : ∀ m p, p ≤ scn c m p
  | 0, p => Nat.le_refl p
  | m + 1, p => by
    by_cases h : c p = true
    · rw [scn_t h]
      have := scn_ge (c := c) m (p + 1)
      omega
    · rw [scn_f h]
      exact Nat.le_refl p
theorem scn_le {c : Nat → Bool} {L : Nat} (hc : ∀ p, c p = true → p < L) : ∀ m p, p ≤ L → scn c m p ≤ L
  | 0, p, h => h
  | m + 1, p, h => by
    by_cases q : c p = true
    · rw [scn_t q]
      exact scn_le hc m (p + 1) (hc p q)
    · rw [scn_f q]
      exact h
theorem scn_in {c : Nat → Bool} : ∀ m p j, p ≤ j → j < scn c m p → c j = true
  | 0, p, j, h1, h2 => absurd h2 (by show ¬ j < p; omega)
  | m + 1, p, j, h1, h2 => by
    by_cases q : c p = true
    · rw [scn_t q] at h2
      by_cases e : j = p
      · rw [e]; exact q
      · exact scn_in m (p + 1) j (by omega) h2
    · rw [scn_f q] at h2
      omega
def spB (B : Nat → Nat) (L p : Nat) : Bool := decide (p < L ∧ B p = 32)
def leB (B : Nat → Nat) (L p : Nat) : Bool := decide (p < L ∧ 97 ≤ B p ∧ B p ≤ 122)
def diB (B : Nat → Nat) (L p : Nat) : Bool := decide (p < L ∧ 48 ≤ B p ∧ B p ≤ 57)
theorem spB_iff {B : Nat → Nat} {L p : Nat} : spB B L p = true ↔ p < L ∧ B p = 32 := decide_eq_true_iff
theorem leB_iff {B : Nat → Nat} {L p : Nat} : leB B L p = true ↔ p < L ∧ 97 ≤ B p ∧ B p ≤ 122 := decide_eq_true_iff
theorem diB_iff {B : Nat → Nat} {L p : Nat} : diB B L p = true ↔ p < L ∧ 48 ≤ B p ∧ B p ≤ 57 := decide_eq_true_iff
def skF (B : Nat → Nat) (L p : Nat) : Nat := scn (spB B L) L p
def so0 (B : Nat → Nat) (L s : Nat) : Nat := if ¬ s < L then 0 else if leB B L s = true then 1 else if diB B L s = true then 2 else 3
def en0 (B : Nat → Nat) (L s : Nat) : Nat := if ¬ s < L then s else if leB B L s = true then scn (leB B L) L s else if diB B L s = true then scn (diB B L) L s else s + 1
def soF (B : Nat → Nat) (L p : Nat) : Nat := so0 B L (skF B L p)
def enF (B : Nat → Nat) (L p : Nat) : Nat := en0 B L (skF B L p)
theorem sk_ge (B : Nat → Nat) (L p : Nat) : p ≤ skF B L p := scn_ge L p
theorem sk_le {B : Nat → Nat} {L p : Nat} (h : p ≤ L) : skF B L p ≤ L := scn_le (fun p h => (spB_iff.mp h).1) L p h
theorem le_end {B : Nat → Nat} {L s : Nat} (h : s ≤ L) : scn (leB B L) L s ≤ L := scn_le (fun p h => (leB_iff.mp h).1) L s h
theorem di_end {B : Nat → Nat} {L s : Nat} (h : s ≤ L) : scn (diB B L) L s ≤ L := scn_le (fun p h => (diB_iff.mp h).1) L s h
theorem en_le {B : Nat → Nat} {L p : Nat} (h : p ≤ L) : enF B L p ≤ L := by
  have hs := sk_le (B := B) h
  unfold enF en0
  split
  · exact hs
  · split
    · exact le_end hs
    · split
      · exact di_end hs
      · omega
theorem en_gt {B : Nat → Nat} {L p : Nat} (h : ¬ soF B L p = 0) : p < enF B L p := by
  have hg := sk_ge B L p
  unfold soF so0 at h
  unfold enF en0
  by_cases h1 : skF B L p < L
  · rw [if_neg (fun q => q h1)]
    by_cases h2 : leB B L (skF B L p) = true
    · rw [if_pos h2]
      obtain ⟨m, rfl⟩ : ∃ m, L = m + 1 := ⟨L - 1, by omega⟩
      rw [scn_t h2]
      have := scn_ge (c := leB B (m + 1)) m (skF B (m + 1) p + 1)
      omega
    · rw [if_neg h2]
      by_cases h3 : diB B L (skF B L p) = true
      · rw [if_pos h3]
        obtain ⟨m, rfl⟩ : ∃ m, L = m + 1 := ⟨L - 1, by omega⟩
        rw [scn_t h3]
        have := scn_ge (c := diB B (m + 1)) m (skF B (m + 1) p + 1)
        omega
      · rw [if_neg h3]
        omega
  · rw [if_pos h1] at h
    exact absurd rfl h
theorem so_end {B : Nat → Nat} {L p : Nat} (h : L ≤ p) : soF B L p = 0 := by
  have hg := sk_ge B L p
  unfold soF so0
  rw [if_pos (by omega)]
def sbI (v : Nat) : Int32 := (nI v).toInt8.toInt32
theorem sb_le : ∀ v, v < 256 → ((97 ≤ sbI v ∧ sbI v ≤ 122) ↔ (97 ≤ v ∧ v ≤ 122)) := by decide +kernel
theorem sb_di : ∀ v, v < 256 → ((48 ≤ sbI v ∧ sbI v ≤ 57) ↔ (48 ≤ v ∧ v ≤ 57)) := by decide +kernel
theorem sb_32 : ∀ v, v < 256 → (sbI v = 32 ↔ v = 32) := by decide +kernel
theorem sb_59 : ∀ v, v < 256 → (sbI v = 59 ↔ v = 59) := by decide +kernel
theorem sb_n : ∀ v, v < 128 → sbI v = nI v := by decide +kernel
def rdI (B : Nat → Nat) (s : Nat) : Nat → Int32
  | 0 => 0
  | j + 1 => if j < 3 then rdI B s j * 10 + nI (B (s + j)) - 48 else rdI B s j
def nvI (B : Nat → Nat) (s e : Nat) : Int32 := if 3 < e - s then -1 else rdI B s (e - s)
abbrev SPE (B : Nat → Nat) (s e c : Nat) : Prop := e - s ≤ 7 ∧ ∀ i, i < 7 → pg_tx.getD (c * 7 + i) 0 = if s + i < e then sbI (B (s + i)) else 32
def spe (B : Nat → Nat) (s e c : Nat) : Bool := decide (SPE B s e c)
theorem spe_iff {B : Nat → Nat} {s e c : Nat} : spe B s e c = true ↔ SPE B s e c := decide_eq_true_iff
def nmF (f : Nat → Bool) : Nat → Nat → Int32 → Int32
  | 0, _, v => v
  | m + 1, c, v => nmF f m (c + 1) (if f c = true then nI c else v)
def nmI (B : Nat → Nat) (s e : Nat) : Int32 := nmF (spe B s e) 20 0 (-1)
def TP (g : pg_S) (B : Nat → Nat) (L : Nat) : Prop := g.1 28 1 = nI L ∧ L ≤ 200 ∧ ∀ j, j < L → B j < 256 ∧ g.1 29 j = sbI (B j)
theorem TP.ui {g : pg_S} {B : Nat → Nat} {L j : Nat} {v : Int32} (h : TP g B L) (hj : j ≠ 1) : TP (pg_ui g.1 28 j v, g.2) B L := by
  obtain ⟨h1, h2, h3⟩ := h
  refine ⟨?_, h2, fun i hi => ⟨(h3 i hi).1, ?_⟩⟩
  · show pg_ui g.1 28 j v 28 1 = _
    rw [pg_ui_at, if_neg (by omega)]; exact h1
  · show pg_ui g.1 28 j v 29 i = _
    rw [pg_ui_at, if_neg (by omega)]; exact (h3 i hi).2
def TK (B : Nat → Nat) (L p : Nat) (g : pg_S) : Prop := g.1 28 2 = nI (enF B L p) ∧ g.1 28 3 = nI (skF B L p) ∧ g.1 28 4 = nI (soF B L p) ∧ (soF B L p = 1 → g.1 28 5 = nmI B (skF B L p) (enF B L p)) ∧ (soF B L p = 2 → g.1 28 5 = nvI B (skF B L p) (enF B L p)) ∧ (soF B L p = 3 → g.1 28 5 = sbI (B (skF B L p)))
theorem tok0 {B : Nat → Nat} {L p : Nat} (h : ¬ skF B L p < L) : soF B L p = 0 ∧ enF B L p = skF B L p := ⟨if_pos h, if_pos h⟩
theorem tok1 {B : Nat → Nat} {L p : Nat} (h : leB B L (skF B L p) = true) : soF B L p = 1 ∧ enF B L p = scn (leB B L) L (skF B L p) := by
  have h0 := (leB_iff.mp h).1
  unfold soF so0 enF en0
  rw [if_neg (fun q => q h0), if_pos h, if_neg (fun q => q h0), if_pos h]
  exact ⟨rfl, rfl⟩
theorem tok2 {B : Nat → Nat} {L p : Nat} (h1 : ¬ leB B L (skF B L p) = true) (h : diB B L (skF B L p) = true) : soF B L p = 2 ∧ enF B L p = scn (diB B L) L (skF B L p) := by
  have h0 := (diB_iff.mp h).1
  unfold soF so0 enF en0
  rw [if_neg (fun q => q h0), if_neg h1, if_pos h, if_neg (fun q => q h0), if_neg h1, if_pos h]
  exact ⟨rfl, rfl⟩
theorem tok3 {B : Nat → Nat} {L p : Nat} (h0 : skF B L p < L) (h1 : ¬ leB B L (skF B L p) = true) (h : ¬ diB B L (skF B L p) = true) : soF B L p = 3 ∧ enF B L p = skF B L p + 1 := by
  unfold soF so0 enF en0
  rw [if_neg (fun q => q h0), if_neg h1, if_neg h, if_neg (fun q => q h0), if_neg h1, if_neg h]
  exact ⟨rfl, rfl⟩
set_option maxHeartbeats 4000000 in
set_option maxRecDepth 20000 in
theorem tX4_isLetter {sc : pg_Sc} {g : pg_S} {K : Int32 → pg_S → Prop} {x : Int32}  (k : K (if 97 ≤ x ∧ x ≤ 122 then 1 else 0) g) : pg_Cal sc 1 mX4_isLetter [.int x] g (pg_ki K) := by
  refine pg_Cal.of rfl (Nat.le_of_ble_eq_true rfl) rfl ?_
  refine go_iload_n (pc' := 1) dX4_isLetter_0 rfl rfl ?_
  refine go_bipush (pc' := 3) 97 dX4_isLetter_1 rfl (by decide) ?_
  refine go_icmp_lt (pc' := 6) (tgt := 16) dX4_isLetter_3 rfl (by decide) (fun h_3 => ?_) (fun h_3 => ?_)
  · refine go_iconst (pc' := 17) 0 dX4_isLetter_16 rfl (by decide) ?_
    refine go_iret dX4_isLetter_17 (by first | exact pg_nar1 | exact pg_nar0 | exact pg_narB) ?_
    rw [if_neg (fun q => pg_lt_nle h_3 q.1)] at k
    exact k
  · refine go_iload_n (pc' := 7) dX4_isLetter_6 rfl rfl ?_
    refine go_bipush (pc' := 9) 122 dX4_isLetter_7 rfl (by decide) ?_
    refine go_icmp_gt (pc' := 12) (tgt := 16) dX4_isLetter_9 rfl (by decide) (fun h_9 => ?_) (fun h_9 => ?_)
    · refine go_iconst (pc' := 17) 0 dX4_isLetter_16 rfl (by decide) ?_
      refine go_iret dX4_isLetter_17 (by first | exact pg_nar1 | exact pg_nar0 | exact pg_narB) ?_
      rw [if_neg (fun q => pg_lt_nle h_9 q.2)] at k
      exact k
    · refine go_iconst (pc' := 13) 1 dX4_isLetter_12 rfl (by decide) ?_
      refine go_goto (pc' := 17) dX4_isLetter_13 (by decide) ?_
      refine go_iret dX4_isLetter_17 (by first | exact pg_nar1 | exact pg_nar0 | exact pg_narB) ?_
      rw [if_pos ⟨pg_nlt_le h_3, pg_nlt_le h_9⟩] at k
      exact k

set_option maxHeartbeats 4000000 in
set_option maxRecDepth 20000 in
theorem tX4_isDigit {sc : pg_Sc} {g : pg_S} {K : Int32 → pg_S → Prop} {x : Int32}  (k : K (if 48 ≤ x ∧ x ≤ 57 then 1 else 0) g) : pg_Cal sc 1 mX4_isDigit [.int x] g (pg_ki K) := by
  refine pg_Cal.of rfl (Nat.le_of_ble_eq_true rfl) rfl ?_
  refine go_iload_n (pc' := 1) dX4_isDigit_0 rfl rfl ?_
  refine go_bipush (pc' := 3) 48 dX4_isDigit_1 rfl (by decide) ?_
  refine go_icmp_lt (pc' := 6) (tgt := 16) dX4_isDigit_3 rfl (by decide) (fun h_3 => ?_) (fun h_3 => ?_)
  · refine go_iconst (pc' := 17) 0 dX4_isDigit_16 rfl (by decide) ?_
    refine go_iret dX4_isDigit_17 (by first | exact pg_nar1 | exact pg_nar0 | exact pg_narB) ?_
    rw [if_neg (fun q => pg_lt_nle h_3 q.1)] at k
    exact k
  · refine go_iload_n (pc' := 7) dX4_isDigit_6 rfl rfl ?_
    refine go_bipush (pc' := 9) 57 dX4_isDigit_7 rfl (by decide) ?_
    refine go_icmp_gt (pc' := 12) (tgt := 16) dX4_isDigit_9 rfl (by decide) (fun h_9 => ?_) (fun h_9 => ?_)
    · refine go_iconst (pc' := 17) 0 dX4_isDigit_16 rfl (by decide) ?_
      refine go_iret dX4_isDigit_17 (by first | exact pg_nar1 | exact pg_nar0 | exact pg_narB) ?_
      rw [if_neg (fun q => pg_lt_nle h_9 q.2)] at k
      exact k
    · refine go_iconst (pc' := 13) 1 dX4_isDigit_12 rfl (by decide) ?_
      refine go_goto (pc' := 17) dX4_isDigit_13 (by decide) ?_
      refine go_iret dX4_isDigit_17 (by first | exact pg_nar1 | exact pg_nar0 | exact pg_narB) ?_
      rw [if_pos ⟨pg_nlt_le h_3, pg_nlt_le h_9⟩] at k
      exact k

set_option maxHeartbeats 4000000 in
set_option maxRecDepth 20000 in
theorem ladv1 {sc : pg_Sc} {Q : pg_Q} {B : Nat → Nat} {L : Nat} : ∀ (m : Nat) (p : Nat) (g : pg_S), L ≤ p + m → p ≤ L → TP g B L → g.1 28 2 = nI p → (∀ g', TP g' B L → g'.1 28 2 = nI (scn (spB B L) m p) → FR 28 29 g g' → g'.1 28 3 = g.1 28 3 → g'.1 28 6 = g.1 28 6 → pg_Go sc 8 mX4_advance 38 [(0, .ref 28)] [] g' Q) → pg_Go sc 8 mX4_advance 0 [(0, .ref 28)] [] g Q := by
  intro m
  induction m with
  | zero =>
    intro p g hm hpL h hx k
    have hL := h.2.1
    obtain rfl : p = L := by omega
    refine go_aload_n (pc' := 1) dX4_advance_0 rfl rfl ?_
    refine go_getI (pc' := 4) dX4_advance_1 rfl flRX4_19 rfl rfl ?_
    rw [hx]
    refine go_aload_n (pc' := 5) dX4_advance_4 rfl rfl ?_
    refine go_getI (pc' := 8) dX4_advance_5 rfl flRX4_15 rfl rfl ?_
    rw [h.1]
    refine go_icmp_ge (pc' := 11) (tgt := 38) dX4_advance_8 rfl (by decide) (fun h_8 => ?_) (fun h_8 => absurd (Int32.le_refl _) h_8)
    exact k g h hx FR.rf rfl rfl
  | succ m ih =>
    intro p g hm hpL h hx k
    have hL := h.2.1
    refine go_aload_n (pc' := 1) dX4_advance_0 rfl rfl ?_
    refine go_getI (pc' := 4) dX4_advance_1 rfl flRX4_19 rfl rfl ?_
    rw [hx]
    refine go_aload_n (pc' := 5) dX4_advance_4 rfl rfl ?_
    refine go_getI (pc' := 8) dX4_advance_5 rfl flRX4_15 rfl rfl ?_
    rw [h.1]
    refine go_icmp_ge (pc' := 11) (tgt := 38) dX4_advance_8 rfl (by decide) (fun h_8 => ?_) (fun h_8 => ?_)
    · have hpl : ¬ p < L := by have := (nI_leI (by omega) (by omega)).mp h_8; omega
      rw [scn_f (fun q => hpl (spB_iff.mp q).1)] at k
      exact k g h hx FR.rf rfl rfl
    · have hpl : p < L := by
        rcases Nat.lt_or_ge p L with e | e
        · exact e
        · exact absurd (nI_le e (by omega)) h_8
      have hby := h.2.2 p hpl
      refine go_aload_n (pc' := 12) dX4_advance_11 rfl rfl ?_
      refine go_getR (pc' := 15) dX4_advance_12 rfl flRX4_11 rfl rfl ?_
      refine go_aload_n (pc' := 16) dX4_advance_15 rfl rfl ?_
      refine go_getI (pc' := 19) dX4_advance_16 rfl flRX4_19 rfl rfl ?_
      rw [hx]
      refine go_bald (pc' := 20) p dX4_advance_19 rfl rfl rfl (by omega) (by decide) ?_
      rw [hby.2]
      refine go_bipush (pc' := 22) 32 dX4_advance_20 rfl (by decide) ?_
      refine go_icmp_ne (pc' := 25) (tgt := 38) dX4_advance_22 rfl (by decide) (fun h_22 => ?_) (fun h_22 => ?_)
      · rw [scn_f (fun q => h_22 ((sb_32 _ hby.1).mpr (spB_iff.mp q).2))] at k
        exact k g h hx FR.rf rfl rfl
      · refine go_aload_n (pc' := 26) dX4_advance_25 rfl rfl ?_
        refine go_dup (pc' := 27) dX4_advance_26 rfl rfl ?_
        refine go_getI (pc' := 30) dX4_advance_27 rfl flRX4_19 rfl rfl ?_
        rw [hx]
        refine go_iconst (pc' := 31) 1 dX4_advance_30 rfl (by decide) ?_
        refine go_iadd (pc' := 32) dX4_advance_31 rfl ?_
        rw [nI_1]
        refine go_putI (pc' := 35) dX4_advance_32 rfl flRX4_19 rfl rfl ft4_2 ?_
        refine go_goto (pc' := 0) dX4_advance_35 (by decide) ?_
        have hc : spB B L p = true := spB_iff.mpr ⟨hpl, (sb_32 _ hby.1).mp h_22⟩
        rw [scn_t hc] at k
        refine go_gen (fun g1 e1 => ?_)
        have h1 : TP g1 B L := by rw [e1]; exact h.ui (by decide)
        have x1 : g1.1 28 2 = nI (p + 1) := by rw [e1]; simp [pg_ui_at]
        have f1 : FR 28 29 g g1 := by rw [e1]; exact FR.ui (by decide)
        exact ih (p + 1) g1 (by omega) (by omega) h1 x1 (fun g' z1 z2 z3 z4 z5 => k g' z1 z2 (FR.tr f1 z3) (z4.trans (by rw [e1]; simp [pg_ui_at])) (z5.trans (by rw [e1]; simp [pg_ui_at])))

set_option maxHeartbeats 4000000 in
set_option maxRecDepth 20000 in
theorem lsn1 {sc : pg_Sc} {Q : pg_Q} {B : Nat → Nat} {L : Nat} : ∀ (m : Nat) (p : Nat) (g : pg_S), L ≤ p + m → p ≤ L → TP g B L → g.1 28 2 = nI p → (∀ g', TP g' B L → g'.1 28 2 = nI (scn (leB B L) m p) → FR 28 29 g g' → g'.1 28 3 = g.1 28 3 → g'.1 28 6 = g.1 28 6 → pg_Go sc 7 mX4_scanName 39 [(0, .ref 28)] [] g' Q) → pg_Go sc 7 mX4_scanName 0 [(0, .ref 28)] [] g Q := by
  intro m
  induction m with
  | zero =>
    intro p g hm hpL h hx k
    have hL := h.2.1
    obtain rfl : p = L := by omega
    refine go_aload_n (pc' := 1) dX4_scanName_0 rfl rfl ?_
    refine go_getI (pc' := 4) dX4_scanName_1 rfl flRX4_19 rfl rfl ?_
    rw [hx]
    refine go_aload_n (pc' := 5) dX4_scanName_4 rfl rfl ?_
    refine go_getI (pc' := 8) dX4_scanName_5 rfl flRX4_15 rfl rfl ?_
    rw [h.1]
    refine go_icmp_ge (pc' := 11) (tgt := 39) dX4_scanName_8 rfl (by decide) (fun h_8 => ?_) (fun h_8 => absurd (Int32.le_refl _) h_8)
    exact k g h hx FR.rf rfl rfl
  | succ m ih =>
    intro p g hm hpL h hx k
    have hL := h.2.1
    refine go_aload_n (pc' := 1) dX4_scanName_0 rfl rfl ?_
    refine go_getI (pc' := 4) dX4_scanName_1 rfl flRX4_19 rfl rfl ?_
    rw [hx]
    refine go_aload_n (pc' := 5) dX4_scanName_4 rfl rfl ?_
    refine go_getI (pc' := 8) dX4_scanName_5 rfl flRX4_15 rfl rfl ?_
    rw [h.1]
    refine go_icmp_ge (pc' := 11) (tgt := 39) dX4_scanName_8 rfl (by decide) (fun h_8 => ?_) (fun h_8 => ?_)
    · have hpl : ¬ p < L := by have := (nI_leI (by omega) (by omega)).mp h_8; omega
      rw [scn_f (fun q => hpl (leB_iff.mp q).1)] at k
      exact k g h hx FR.rf rfl rfl
    · have hpl : p < L := by
        rcases Nat.lt_or_ge p L with e | e
        · exact e
        · exact absurd (nI_le e (by omega)) h_8
      have hby := h.2.2 p hpl
      refine go_aload_n (pc' := 12) dX4_scanName_11 rfl rfl ?_
      refine go_getR (pc' := 15) dX4_scanName_12 rfl flRX4_11 rfl rfl ?_
      refine go_aload_n (pc' := 16) dX4_scanName_15 rfl rfl ?_
      refine go_getI (pc' := 19) dX4_scanName_16 rfl flRX4_19 rfl rfl ?_
      rw [hx]
      refine go_bald (pc' := 20) p dX4_scanName_19 rfl rfl rfl (by omega) (by decide) ?_
      rw [hby.2]
      refine go_cSi1 (pc' := 23) (M' := mX4_isLetter) (d' := 1) dX4_scanName_20 rfl csRX4_81 (by decide) rfl (Nat.le_of_ble_eq_true rfl) ?_
      refine tX4_isLetter ?_
      refine go_if_eq (pc' := 26) (tgt := 39) dX4_scanName_23 rfl (by decide) (fun h_23 => ?_) (fun h_23 => ?_)
      · have h_23 := pg_b0 h_23
        rw [scn_f (fun q => h_23 ((sb_le _ hby.1).mpr (leB_iff.mp q).2))] at k
        exact k g h hx FR.rf rfl rfl
      · have h_23 := pg_b1 h_23
        refine go_aload_n (pc' := 27) dX4_scanName_26 rfl rfl ?_
        refine go_dup (pc' := 28) dX4_scanName_27 rfl rfl ?_
        refine go_getI (pc' := 31) dX4_scanName_28 rfl flRX4_19 rfl rfl ?_
        rw [hx]
        refine go_iconst (pc' := 32) 1 dX4_scanName_31 rfl (by decide) ?_
        refine go_iadd (pc' := 33) dX4_scanName_32 rfl ?_
        rw [nI_1]
        refine go_putI (pc' := 36) dX4_scanName_33 rfl flRX4_19 rfl rfl ft4_2 ?_
        refine go_goto (pc' := 0) dX4_scanName_36 (by decide) ?_
        have hc : leB B L p = true := leB_iff.mpr ⟨hpl, (sb_le _ hby.1).mp h_23⟩
        rw [scn_t hc] at k
        refine go_gen (fun g1 e1 => ?_)
        have h1 : TP g1 B L := by rw [e1]; exact h.ui (by decide)
        have x1 : g1.1 28 2 = nI (p + 1) := by rw [e1]; simp [pg_ui_at]
        have f1 : FR 28 29 g g1 := by rw [e1]; exact FR.ui (by decide)
        exact ih (p + 1) g1 (by omega) (by omega) h1 x1 (fun g' z1 z2 z3 z4 z5 => k g' z1 z2 (FR.tr f1 z3) (z4.trans (by rw [e1]; simp [pg_ui_at])) (z5.trans (by rw [e1]; simp [pg_ui_at])))

set_option maxHeartbeats 4000000 in
set_option maxRecDepth 20000 in
theorem lsp {sc : pg_Sc} {K : Int32 → pg_S → Prop} {g : pg_S} {B : Nat → Nat} {L s e c : Nat} (h : TP g B L) (hx : g.1 28 2 = nI e) (hz : g.1 28 3 = nI s) (hse : s ≤ e) (heL : e ≤ L) (hc : c < 20) (h7 : e - s ≤ 7) (k : K (if spe B s e c = true then 1 else 0) g) : ∀ (m : Nat) (i : Nat), i + m = 7 → (∀ j, j < i → pg_tx.getD (c * 7 + j) 0 = if s + j < e then sbI (B (s + j)) else 32) → pg_Go sc 6 mX4_isSpelt 18 [(0, .ref 28), (1, .int (nI c)), (2, .int (nI i))] [] g (pg_ki K) := by
  intro m
  induction m with
  | zero =>
    intro i hi hp
    obtain rfl : i = 7 := by omega
    refine go_iload_n (pc' := 19) dX4_isSpelt_18 rfl rfl ?_
    refine go_bipush (pc' := 21) 7 dX4_isSpelt_19 rfl (by decide) ?_
    refine go_icmp_ge (pc' := 24) (tgt := 77) dX4_isSpelt_21 rfl (by decide) (fun h_21 => ?_) (fun h_21 => absurd (Int32.le_refl _) h_21)
    refine go_iconst (pc' := 78) 1 dX4_isSpelt_77 rfl (by decide) ?_
    refine go_iret dX4_isSpelt_78 (by first | exact pg_nar1 | exact pg_nar0 | exact pg_narB) ?_
    rw [if_pos (spe_iff.mpr ⟨h7, hp⟩)] at k
    exact k
  | succ m ih =>
    intro i hi hp
    have hL := h.2.1
    have hin : i < 7 := by omega
    refine go_iload_n (pc' := 19) dX4_isSpelt_18 rfl rfl ?_
    refine go_bipush (pc' := 21) 7 dX4_isSpelt_19 rfl (by decide) ?_
    refine go_icmp_ge (pc' := 24) (tgt := 77) dX4_isSpelt_21 rfl (by decide) (fun h_21 => absurd h_21 (nI_ge (b := 7) hin (by decide))) (fun h_21 => ?_)
    refine go_aload_n (pc' := 25) dX4_isSpelt_24 rfl rfl ?_
    refine go_getI (pc' := 28) dX4_isSpelt_25 rfl flRX4_22 rfl rfl ?_
    rw [hz]
    refine go_iload_n (pc' := 29) dX4_isSpelt_28 rfl rfl ?_
    refine go_iadd (pc' := 30) dX4_isSpelt_29 rfl ?_
    rw [nI_add]
    refine go_aload_n (pc' := 31) dX4_isSpelt_30 rfl rfl ?_
    refine go_getI (pc' := 34) dX4_isSpelt_31 rfl flRX4_19 rfl rfl ?_
    rw [hx]
    refine go_icmp_ge (pc' := 37) (tgt := 51) dX4_isSpelt_34 rfl (by decide) (fun h_34 => ?_) (fun h_34 => ?_)
    · have hq : ¬ s + i < e := by have := (nI_leI (by omega) (by omega)).mp h_34; omega
      refine go_bipush (pc' := 53) 32 dX4_isSpelt_51 rfl (by decide) ?_
      refine go_istore_n (pc' := 54) dX4_isSpelt_53 rfl (by decide) rfl ?_
      refine go_ldcS (pc' := 56) dX4_isSpelt_54 rfl rfl ?_
      refine go_iload_n (pc' := 57) dX4_isSpelt_56 rfl rfl ?_
      refine go_bipush (pc' := 59) 7 dX4_isSpelt_57 rfl (by decide) ?_
      refine go_imul (pc' := 60) dX4_isSpelt_59 rfl ?_
      refine go_iload_n (pc' := 61) dX4_isSpelt_60 rfl rfl ?_
      refine go_iadd (pc' := 62) dX4_isSpelt_61 rfl ?_
      rw [show nI c * 7 + nI i = nI (c * 7 + i) by rw [show (7 : Int32) = nI 7 from rfl, pk_mul, nI_add]]
      refine go_cStr1 (pc' := 65) (M' := mJ0_charAt_5068e) (d' := 5) dX4_isSpelt_62 rfl cvRX4_98 rfl (by decide) rfl (Nat.le_of_ble_eq_true rfl) ?_
      refine tJ0_charAt_5068e (by omega) ?_
      refine go_iload_n (pc' := 66) dX4_isSpelt_65 rfl rfl ?_
      refine go_icmp_eq (pc' := 69) (tgt := 71) dX4_isSpelt_66 rfl (by decide) (fun h_66 => ?_) (fun h_66 => ?_)
      · refine go_iinc (pc' := 74) _ dX4_isSpelt_71 rfl rfl (pg_inc _) (by decide) rfl ?_
        refine go_goto (pc' := 18) dX4_isSpelt_74 (by decide) ?_
        refine go_sub [0, 1, 2] rfl ?_
        exact ih (i + 1) (by omega) (fun j hj => by
          by_cases q : j = i
          · subst q; rw [if_neg hq]; exact h_66
          · exact hp j (by omega))
      · refine go_iconst (pc' := 70) 0 dX4_isSpelt_69 rfl (by decide) ?_
        refine go_iret dX4_isSpelt_70 (by first | exact pg_nar1 | exact pg_nar0 | exact pg_narB) ?_
        rw [if_neg (fun q => by have := (spe_iff.mp q).2 i hin; rw [if_neg hq] at this; exact h_66 this)] at k
        exact k
    · have hq : s + i < e := by
        rcases Nat.lt_or_ge (s + i) e with q | q
        · exact q
        · exact absurd (nI_le q (by omega)) h_34
      refine go_aload_n (pc' := 38) dX4_isSpelt_37 rfl rfl ?_
      refine go_getR (pc' := 41) dX4_isSpelt_38 rfl flRX4_11 rfl rfl ?_
      refine go_aload_n (pc' := 42) dX4_isSpelt_41 rfl rfl ?_
      refine go_getI (pc' := 45) dX4_isSpelt_42 rfl flRX4_22 rfl rfl ?_
      rw [hz]
      refine go_iload_n (pc' := 46) dX4_isSpelt_45 rfl rfl ?_
      refine go_iadd (pc' := 47) dX4_isSpelt_46 rfl ?_
      rw [nI_add]
      refine go_bald (pc' := 48) (s + i) dX4_isSpelt_47 rfl rfl rfl (by omega) (by decide) ?_
      rw [(h.2.2 (s + i) (by omega)).2]
      refine go_goto (pc' := 53) dX4_isSpelt_48 (by decide) ?_
      refine go_istore_n (pc' := 54) dX4_isSpelt_53 rfl (by decide) rfl ?_
      refine go_ldcS (pc' := 56) dX4_isSpelt_54 rfl rfl ?_
      refine go_iload_n (pc' := 57) dX4_isSpelt_56 rfl rfl ?_
      refine go_bipush (pc' := 59) 7 dX4_isSpelt_57 rfl (by decide) ?_
      refine go_imul (pc' := 60) dX4_isSpelt_59 rfl ?_
      refine go_iload_n (pc' := 61) dX4_isSpelt_60 rfl rfl ?_
      refine go_iadd (pc' := 62) dX4_isSpelt_61 rfl ?_
      rw [show nI c * 7 + nI i = nI (c * 7 + i) by rw [show (7 : Int32) = nI 7 from rfl, pk_mul, nI_add]]
      refine go_cStr1 (pc' := 65) (M' := mJ0_charAt_5068e) (d' := 5) dX4_isSpelt_62 rfl cvRX4_98 rfl (by decide) rfl (Nat.le_of_ble_eq_true rfl) ?_
      refine tJ0_charAt_5068e (by omega) ?_
      refine go_iload_n (pc' := 66) dX4_isSpelt_65 rfl rfl ?_
      refine go_icmp_eq (pc' := 69) (tgt := 71) dX4_isSpelt_66 rfl (by decide) (fun h_66 => ?_) (fun h_66 => ?_)
      · refine go_iinc (pc' := 74) _ dX4_isSpelt_71 rfl rfl (pg_inc _) (by decide) rfl ?_
        refine go_goto (pc' := 18) dX4_isSpelt_74 (by decide) ?_
        refine go_sub [0, 1, 2] rfl ?_
        exact ih (i + 1) (by omega) (fun j hj => by
          by_cases q : j = i
          · subst q; rw [if_pos hq]; exact h_66
          · exact hp j (by omega))
      · refine go_iconst (pc' := 70) 0 dX4_isSpelt_69 rfl (by decide) ?_
        refine go_iret dX4_isSpelt_70 (by first | exact pg_nar1 | exact pg_nar0 | exact pg_narB) ?_
        rw [if_neg (fun q => by have := (spe_iff.mp q).2 i hin; rw [if_pos hq] at this; exact h_66 this)] at k
        exact k

set_option maxHeartbeats 4000000 in
set_option maxRecDepth 20000 in
theorem tX4_isSpelt {sc : pg_Sc} {g : pg_S} {K : Int32 → pg_S → Prop} {B : Nat → Nat} {L s e c : Nat} (h : TP g B L) (hx : g.1 28 2 = nI e) (hz : g.1 28 3 = nI s) (hse : s ≤ e) (heL : e ≤ L) (hc : c < 20) (k : K (if spe B s e c = true then 1 else 0) g) : pg_Cal sc 6 mX4_isSpelt [.ref 28, .int (nI c)] g (pg_ki K) := by
  refine pg_Cal.of rfl (Nat.le_of_ble_eq_true rfl) rfl ?_
  have hL := h.2.1
  refine go_aload_n (pc' := 1) dX4_isSpelt_0 rfl rfl ?_
  refine go_getI (pc' := 4) dX4_isSpelt_1 rfl flRX4_19 rfl rfl ?_
  rw [hx]
  refine go_aload_n (pc' := 5) dX4_isSpelt_4 rfl rfl ?_
  refine go_getI (pc' := 8) dX4_isSpelt_5 rfl flRX4_22 rfl rfl ?_
  rw [hz]
  refine go_isub (pc' := 9) dX4_isSpelt_8 rfl ?_
  rw [pk_sub hse]
  refine go_bipush (pc' := 11) 7 dX4_isSpelt_9 rfl (by decide) ?_
  refine go_icmp_le (pc' := 14) (tgt := 16) dX4_isSpelt_11 rfl (by decide) (fun h_11 => ?_) (fun h_11 => ?_)
  · refine go_iconst (pc' := 17) 0 dX4_isSpelt_16 rfl (by decide) ?_
    refine go_istore_n (pc' := 18) dX4_isSpelt_17 rfl (by decide) rfl ?_
    exact lsp h hx hz hse heL hc ((nI_leI (b := 7) (by omega) (by decide)).mp h_11) k 7 0 (by omega) (fun j hj => absurd hj (by omega))
  · refine go_iconst (pc' := 15) 0 dX4_isSpelt_14 rfl (by decide) ?_
    refine go_iret dX4_isSpelt_15 (by first | exact pg_nar1 | exact pg_nar0 | exact pg_narB) ?_
    rw [if_neg (fun q => h_11 (nI_le (b := 7) (spe_iff.mp q).1 (by decide)))] at k
    exact k

set_option maxHeartbeats 4000000 in
set_option maxRecDepth 20000 in
theorem lsn2 {sc : pg_Sc} {K : pg_S → Prop} {B : Nat → Nat} {L s e : Nat} (hse : s ≤ e) (heL : e ≤ L) : ∀ (m : Nat) (c : Nat) (v : Int32) (g : pg_S), c + m = 20 → TP g B L → g.1 28 2 = nI e → g.1 28 3 = nI s → g.1 28 5 = v → (∀ g', TP g' B L → g'.1 28 5 = nmF (spe B s e) m c v → (∀ j, j ≠ 5 → g'.1 28 j = g.1 28 j) → FR 28 29 g g' → K g') → pg_Go sc 7 mX4_scanName 51 [(0, .ref 28), (1, .int (nI c))] [] g (pg_kv K) := by
  intro m
  induction m with
  | zero =>
    intro c v g hm h hx hz hv k
    obtain rfl : c = 20 := by omega
    refine go_iload_n (pc' := 52) dX4_scanName_51 rfl rfl ?_
    refine go_bipush (pc' := 54) 20 dX4_scanName_52 rfl (by decide) ?_
    refine go_icmp_ge (pc' := 57) (tgt := 76) dX4_scanName_54 rfl (by decide) (fun h_54 => ?_) (fun h_54 => absurd (Int32.le_refl _) h_54)
    refine go_vret dX4_scanName_76 rfl ?_
    exact k g h hv (fun _ _ => rfl) FR.rf
  | succ m ih =>
    intro c v g hm h hx hz hv k
    have hin : c < 20 := by omega
    simp only [nmF] at k
    refine go_iload_n (pc' := 52) dX4_scanName_51 rfl rfl ?_
    refine go_bipush (pc' := 54) 20 dX4_scanName_52 rfl (by decide) ?_
    refine go_icmp_ge (pc' := 57) (tgt := 76) dX4_scanName_54 rfl (by decide) (fun h_54 => absurd h_54 (nI_ge (b := 20) hin (by decide))) (fun h_54 => ?_)
    refine go_aload_n (pc' := 58) dX4_scanName_57 rfl rfl ?_
    refine go_iload_n (pc' := 59) dX4_scanName_58 rfl rfl ?_
    refine go_cVi1 (pc' := 62) (M' := mX4_isSpelt) (d' := 6) dX4_scanName_59 rfl cvRX4_93 rfl rfl (by decide) rfl (Nat.le_of_ble_eq_true rfl) ?_
    refine tX4_isSpelt h hx hz hse heL hin ?_
    refine go_if_eq (pc' := 65) (tgt := 70) dX4_scanName_62 rfl (by decide) (fun h_62 => ?_) (fun h_62 => ?_)
    · have h_62 := pg_b0 h_62
      refine go_iinc (pc' := 73) _ dX4_scanName_70 rfl rfl (pg_inc _) (by decide) rfl ?_
      refine go_goto (pc' := 51) dX4_scanName_73 (by decide) ?_
      rw [if_neg h_62] at k
      exact ih (c + 1) v g (by omega) h hx hz hv k
    · have h_62 := pg_b1 h_62
      refine go_aload_n (pc' := 66) dX4_scanName_65 rfl rfl ?_
      refine go_iload_n (pc' := 67) dX4_scanName_66 rfl rfl ?_
      refine go_putI (pc' := 70) dX4_scanName_67 rfl flRX4_28 rfl rfl ft4_5 ?_
      refine go_iinc (pc' := 73) _ dX4_scanName_70 rfl rfl (pg_inc _) (by decide) rfl ?_
      refine go_goto (pc' := 51) dX4_scanName_73 (by decide) ?_
      rw [if_pos h_62] at k
      refine go_gen (fun g1 e1 => ?_)
      have a1 : ∀ j, j ≠ 5 → g1.1 28 j = g.1 28 j := by
        intro j hj
        rw [e1]
        show pg_ui g.1 28 5 (nI c) 28 j = _
        rw [pg_ui_at, if_neg (fun q => hj q.2)]
      exact ih (c + 1) (nI c) g1 (by omega) (by rw [e1]; exact h.ui (by decide)) ((a1 2 (by decide)).trans hx) ((a1 3 (by decide)).trans hz) (by rw [e1]; simp [pg_ui_at]) (fun g' z1 z2 z3 z4 => k g' z1 z2 (fun j hj => (z3 j hj).trans (a1 j hj)) (FR.tr (by rw [e1]; exact FR.ui (by decide)) z4))

set_option maxHeartbeats 4000000 in
set_option maxRecDepth 20000 in
theorem tX4_scanName {sc : pg_Sc} {g : pg_S} {K : pg_S → Prop} {B : Nat → Nat} {L s : Nat} (h : TP g B L) (hx : g.1 28 2 = nI s) (hz : g.1 28 3 = nI s) (hsL : s ≤ L) (k : ∀ g', TP g' B L → g'.1 28 2 = nI (scn (leB B L) L s) → g'.1 28 3 = nI s → g'.1 28 4 = 1 → g'.1 28 5 = nmI B s (scn (leB B L) L s) → g'.1 28 6 = g.1 28 6 → FR 28 29 g g' → K g') : pg_Cal sc 7 mX4_scanName [.ref 28] g (pg_kv K) := by
  refine pg_Cal.of rfl (Nat.le_of_ble_eq_true rfl) rfl ?_
  refine lsn1 L s g (by omega) hsL h hx (fun g1 h1 x1 f1 z1 n1 => ?_)
  refine go_aload_n (pc' := 40) dX4_scanName_39 rfl rfl ?_
  refine go_iconst (pc' := 41) 1 dX4_scanName_40 rfl (by decide) ?_
  refine go_putI (pc' := 44) dX4_scanName_41 rfl flRX4_25 rfl rfl ft4_4 ?_
  refine go_gen (fun g2 e2 => ?_)
  refine go_aload_n (pc' := 45) dX4_scanName_44 rfl rfl ?_
  refine go_iconst (pc' := 46) (-1) dX4_scanName_45 rfl (by decide) ?_
  refine go_putI (pc' := 49) dX4_scanName_46 rfl flRX4_28 rfl rfl ft4_5 ?_
  refine go_gen (fun g3 e3 => ?_)
  refine go_iconst (pc' := 50) 0 dX4_scanName_49 rfl (by decide) ?_
  refine go_istore_n (pc' := 51) dX4_scanName_50 rfl (by decide) rfl ?_
  have h3 : TP g3 B L := by rw [e3, e2]; exact (h1.ui (j := 4) (by decide)).ui (j := 5) (by decide)
  have f3 : FR 28 29 g1 g3 := by rw [e3, e2]; exact FR.tr (FR.ui (by decide)) (FR.ui (by decide))
  have a3 : ∀ j, j ≠ 4 → j ≠ 5 → g3.1 28 j = g1.1 28 j := by
    intro j q1 q2
    rw [e3, e2]
    show pg_ui (pg_ui g1.1 28 4 1) 28 5 (-1) 28 j = _
    rw [pg_ui_at, if_neg (fun q => q2 q.2), pg_ui_at, if_neg (fun q => q1 q.2)]
  refine lsn2 (s := s) (scn_ge L s) (le_end hsL) 20 0 (-1) g3 (by omega) h3 ((a3 2 (by decide) (by decide)).trans x1) ((a3 3 (by decide) (by decide)).trans (z1.trans hz)) (by rw [e3]; simp [pg_ui_at]) (fun g4 h4 v4 a4 f4 => ?_)
  refine k g4 h4 ?_ ?_ ?_ v4 ?_ (FR.tr f1 (FR.tr f3 f4))
  · rw [a4 2 (by decide), a3 2 (by decide) (by decide), x1]
  · rw [a4 3 (by decide), a3 3 (by decide) (by decide), z1, hz]
  · rw [a4 4 (by decide), e3, e2]; simp [pg_ui_at]
  · rw [a4 6 (by decide), a3 6 (by decide) (by decide), n1]

theorem rdI_lt {B : Nat → Nat} {s j : Nat} (h : j < 3) : rdI B s (j + 1) = rdI B s j * 10 + nI (B (s + j)) - 48 := if_pos h
theorem rdI_ge {B : Nat → Nat} {s j : Nat} (h : ¬ j < 3) : rdI B s (j + 1) = rdI B s j := if_neg h
set_option maxHeartbeats 4000000 in
set_option maxRecDepth 20000 in
theorem lsd {sc : pg_Sc} {Q : pg_Q} {B : Nat → Nat} {L s : Nat} : ∀ (m : Nat) (j : Nat) (g : pg_S), L ≤ s + j + m → s + j ≤ L → TP g B L → g.1 28 2 = nI (s + j) → g.1 28 3 = nI s → (∀ g', TP g' B L → g'.1 28 2 = nI (scn (diB B L) m (s + j)) → g'.1 28 3 = nI s → g'.1 28 6 = g.1 28 6 → FR 28 29 g g' → pg_Go sc 2 mX4_scanNumber 72 [(0, .ref 28), (1, .int (rdI B s (scn (diB B L) m (s + j) - s)))] [] g' Q) → pg_Go sc 2 mX4_scanNumber 2 [(0, .ref 28), (1, .int (rdI B s j))] [] g Q := by
  intro m
  induction m with
  | zero =>
    intro j g hm hpL h hx hz k
    have hL := h.2.1
    have hj : s + j = L := by omega
    refine go_aload_n (pc' := 3) dX4_scanNumber_2 rfl rfl ?_
    refine go_getI (pc' := 6) dX4_scanNumber_3 rfl flRX4_19 rfl rfl ?_
    rw [hx]
    refine go_aload_n (pc' := 7) dX4_scanNumber_6 rfl rfl ?_
    refine go_getI (pc' := 10) dX4_scanNumber_7 rfl flRX4_15 rfl rfl ?_
    rw [h.1]
    refine go_icmp_ge (pc' := 13) (tgt := 72) dX4_scanNumber_10 rfl (by decide) (fun h_10 => ?_) (fun h_10 => absurd (by rw [hj]; exact Int32.le_refl _) h_10)
    have kk := k g h hx hz rfl FR.rf
    rw [show scn (diB B L) 0 (s + j) - s = j from by show s + j - s = j; omega] at kk
    exact kk
  | succ m ih =>
    intro j g hm hpL h hx hz k
    have hL := h.2.1
    refine go_aload_n (pc' := 3) dX4_scanNumber_2 rfl rfl ?_
    refine go_getI (pc' := 6) dX4_scanNumber_3 rfl flRX4_19 rfl rfl ?_
    rw [hx]
    refine go_aload_n (pc' := 7) dX4_scanNumber_6 rfl rfl ?_
    refine go_getI (pc' := 10) dX4_scanNumber_7 rfl flRX4_15 rfl rfl ?_
    rw [h.1]
    refine go_icmp_ge (pc' := 13) (tgt := 72) dX4_scanNumber_10 rfl (by decide) (fun h_10 => ?_) (fun h_10 => ?_)
    · have hpl : ¬ s + j < L := by have := (nI_leI (by omega) (by omega)).mp h_10; omega
      have hc : ¬ diB B L (s + j) = true := fun q => hpl (diB_iff.mp q).1
      have kk := k g h (by rw [scn_f hc]; exact hx) hz rfl FR.rf
      rw [scn_f hc, show s + j - s = j by omega] at kk
      exact kk
    · have hpl : s + j < L := by
        rcases Nat.lt_or_ge (s + j) L with e | e
        · exact e
        · exact absurd (nI_le e (by omega)) h_10
      have hby := h.2.2 (s + j) hpl
      refine go_aload_n (pc' := 14) dX4_scanNumber_13 rfl rfl ?_
      refine go_getR (pc' := 17) dX4_scanNumber_14 rfl flRX4_11 rfl rfl ?_
      refine go_aload_n (pc' := 18) dX4_scanNumber_17 rfl rfl ?_
      refine go_getI (pc' := 21) dX4_scanNumber_18 rfl flRX4_19 rfl rfl ?_
      rw [hx]
      refine go_bald (pc' := 22) (s + j) dX4_scanNumber_21 rfl rfl rfl (by omega) (by decide) ?_
      rw [hby.2]
      refine go_cSi1 (pc' := 25) (M' := mX4_isDigit) (d' := 1) dX4_scanNumber_22 rfl csRX4_87 (by decide) rfl (Nat.le_of_ble_eq_true rfl) ?_
      refine tX4_isDigit ?_
      refine go_if_eq (pc' := 28) (tgt := 72) dX4_scanNumber_25 rfl (by decide) (fun h_25 => ?_) (fun h_25 => ?_)
      · have h_25 := pg_b0 h_25
        have hc : ¬ diB B L (s + j) = true := fun q => h_25 ((sb_di _ hby.1).mpr (diB_iff.mp q).2)
        have kk := k g h (by rw [scn_f hc]; exact hx) hz rfl FR.rf
        rw [scn_f hc, show s + j - s = j by omega] at kk
        exact kk
      · have h_25 := pg_b1 h_25
        have hc : diB B L (s + j) = true := diB_iff.mpr ⟨hpl, (sb_di _ hby.1).mp h_25⟩
        refine go_aload_n (pc' := 29) dX4_scanNumber_28 rfl rfl ?_
        refine go_getI (pc' := 32) dX4_scanNumber_29 rfl flRX4_19 rfl rfl ?_
        rw [hx]
        refine go_aload_n (pc' := 33) dX4_scanNumber_32 rfl rfl ?_
        refine go_getI (pc' := 36) dX4_scanNumber_33 rfl flRX4_22 rfl rfl ?_
        rw [hz]
        refine go_isub (pc' := 37) dX4_scanNumber_36 rfl ?_
        rw [show nI (s + j) - nI s = nI j by rw [pk_sub (by omega), show s + j - s = j by omega]]
        refine go_iconst (pc' := 38) 3 dX4_scanNumber_37 rfl (by decide) ?_
        refine go_icmp_ge (pc' := 41) (tgt := 59) dX4_scanNumber_38 rfl (by decide) (fun h_38 => ?_) (fun h_38 => ?_)
        · refine go_aload_n (pc' := 60) dX4_scanNumber_59 rfl rfl ?_
          refine go_dup (pc' := 61) dX4_scanNumber_60 rfl rfl ?_
          refine go_getI (pc' := 64) dX4_scanNumber_61 rfl flRX4_19 rfl rfl ?_
          rw [hx]
          refine go_iconst (pc' := 65) 1 dX4_scanNumber_64 rfl (by decide) ?_
          refine go_iadd (pc' := 66) dX4_scanNumber_65 rfl ?_
          rw [nI_1]
          refine go_putI (pc' := 69) dX4_scanNumber_66 rfl flRX4_19 rfl rfl ft4_2 ?_
          refine go_goto (pc' := 2) dX4_scanNumber_69 (by decide) ?_
          refine go_gen (fun g1 e1 => ?_)
          have h1 : TP g1 B L := by rw [e1]; exact h.ui (by decide)
          have x1 : g1.1 28 2 = nI (s + j + 1) := by rw [e1]; simp [pg_ui_at]
          have f1 : FR 28 29 g g1 := by rw [e1]; exact FR.ui (by decide)
          rw [scn_t hc] at k
          have hj3 : ¬ j < 3 := by have := (nI_leI (a := 3) (by decide) (by omega)).mp h_38; omega
          rw [← rdI_ge (B := B) (s := s) hj3]
          exact ih (j + 1) g1 (by omega) (by omega) h1 x1 (by rw [e1]; simpa [pg_ui_at] using hz) (fun g' z1 z2 z3 z4 z5 => k g' z1 z2 z3 (z4.trans (by rw [e1]; simp [pg_ui_at])) (FR.tr f1 z5))
        · refine go_iload_n (pc' := 42) dX4_scanNumber_41 rfl rfl ?_
          refine go_bipush (pc' := 44) 10 dX4_scanNumber_42 rfl (by decide) ?_
          refine go_imul (pc' := 45) dX4_scanNumber_44 rfl ?_
          refine go_aload_n (pc' := 46) dX4_scanNumber_45 rfl rfl ?_
          refine go_getR (pc' := 49) dX4_scanNumber_46 rfl flRX4_11 rfl rfl ?_
          refine go_aload_n (pc' := 50) dX4_scanNumber_49 rfl rfl ?_
          refine go_getI (pc' := 53) dX4_scanNumber_50 rfl flRX4_19 rfl rfl ?_
          rw [hx]
          refine go_bald (pc' := 54) (s + j) dX4_scanNumber_53 rfl rfl rfl (by omega) (by decide) ?_
          rw [hby.2, sb_n _ (by have := (diB_iff.mp hc).2; omega)]
          refine go_iadd (pc' := 55) dX4_scanNumber_54 rfl ?_
          refine go_bipush (pc' := 57) 48 dX4_scanNumber_55 rfl (by decide) ?_
          refine go_isub (pc' := 58) dX4_scanNumber_57 rfl ?_
          refine go_istore_n (pc' := 59) dX4_scanNumber_58 rfl (by decide) rfl ?_
          refine go_aload_n (pc' := 60) dX4_scanNumber_59 rfl rfl ?_
          refine go_dup (pc' := 61) dX4_scanNumber_60 rfl rfl ?_
          refine go_getI (pc' := 64) dX4_scanNumber_61 rfl flRX4_19 rfl rfl ?_
          rw [hx]
          refine go_iconst (pc' := 65) 1 dX4_scanNumber_64 rfl (by decide) ?_
          refine go_iadd (pc' := 66) dX4_scanNumber_65 rfl ?_
          rw [nI_1]
          refine go_putI (pc' := 69) dX4_scanNumber_66 rfl flRX4_19 rfl rfl ft4_2 ?_
          refine go_goto (pc' := 2) dX4_scanNumber_69 (by decide) ?_
          refine go_gen (fun g1 e1 => ?_)
          have h1 : TP g1 B L := by rw [e1]; exact h.ui (by decide)
          have x1 : g1.1 28 2 = nI (s + j + 1) := by rw [e1]; simp [pg_ui_at]
          have f1 : FR 28 29 g g1 := by rw [e1]; exact FR.ui (by decide)
          rw [scn_t hc] at k
          have hj3 : j < 3 := by
            rcases Nat.lt_or_ge j 3 with q | q
            · exact q
            · exact absurd (nI_le (a := 3) q (by omega)) h_38
          rw [← rdI_lt (B := B) (s := s) hj3]
          exact ih (j + 1) g1 (by omega) (by omega) h1 x1 (by rw [e1]; simpa [pg_ui_at] using hz) (fun g' z1 z2 z3 z4 z5 => k g' z1 z2 z3 (z4.trans (by rw [e1]; simp [pg_ui_at])) (FR.tr f1 z5))

set_option maxHeartbeats 4000000 in
set_option maxRecDepth 20000 in
theorem tX4_scanNumber {sc : pg_Sc} {g : pg_S} {K : pg_S → Prop} {B : Nat → Nat} {L s : Nat} (h : TP g B L) (hx : g.1 28 2 = nI s) (hz : g.1 28 3 = nI s) (hsL : s ≤ L) (k : ∀ g', TP g' B L → g'.1 28 2 = nI (scn (diB B L) L s) → g'.1 28 3 = nI s → g'.1 28 4 = 2 → g'.1 28 5 = nvI B s (scn (diB B L) L s) → g'.1 28 6 = g.1 28 6 → FR 28 29 g g' → K g') : pg_Cal sc 2 mX4_scanNumber [.ref 28] g (pg_kv K) := by
  refine pg_Cal.of rfl (Nat.le_of_ble_eq_true rfl) rfl ?_
  have hL := h.2.1
  refine go_iconst (pc' := 1) 0 dX4_scanNumber_0 rfl (by decide) ?_
  refine go_istore_n (pc' := 2) dX4_scanNumber_1 rfl (by decide) rfl ?_
  refine lsd (s := s) L 0 g (by omega) (by omega) h hx hz (fun g1 h1 x1 z1 n1 f1 => ?_)
  refine go_aload_n (pc' := 73) dX4_scanNumber_72 rfl rfl ?_
  refine go_iconst (pc' := 74) 2 dX4_scanNumber_73 rfl (by decide) ?_
  refine go_putI (pc' := 77) dX4_scanNumber_74 rfl flRX4_25 rfl rfl ft4_4 ?_
  refine go_gen (fun g2 e2 => ?_)
  have x2 : g2.1 28 2 = nI (scn (diB B L) L s) := by rw [e2]; simpa [pg_ui_at] using x1
  have z2 : g2.1 28 3 = nI s := by rw [e2]; simpa [pg_ui_at] using z1
  have hge := scn_ge (c := diB B L) L s
  have hle := di_end (B := B) hsL
  refine go_aload_n (pc' := 78) dX4_scanNumber_77 rfl rfl ?_
  refine go_aload_n (pc' := 79) dX4_scanNumber_78 rfl rfl ?_
  refine go_getI (pc' := 82) dX4_scanNumber_79 rfl flRX4_19 rfl rfl ?_
  rw [x2]
  refine go_aload_n (pc' := 83) dX4_scanNumber_82 rfl rfl ?_
  refine go_getI (pc' := 86) dX4_scanNumber_83 rfl flRX4_22 rfl rfl ?_
  rw [z2]
  refine go_isub (pc' := 87) dX4_scanNumber_86 rfl ?_
  rw [pk_sub hge]
  refine go_iconst (pc' := 88) 3 dX4_scanNumber_87 rfl (by decide) ?_
  refine go_icmp_le (pc' := 91) (tgt := 95) dX4_scanNumber_88 rfl (by decide) (fun h_88 => ?_) (fun h_88 => ?_)
  · refine go_iload_n (pc' := 96) dX4_scanNumber_95 rfl rfl ?_
    refine go_putI (pc' := 99) dX4_scanNumber_96 rfl flRX4_28 rfl rfl ft4_5 ?_
    refine go_vret dX4_scanNumber_99 rfl ?_
    have hv : nvI B s (scn (diB B L) L s) = rdI B s (scn (diB B L) L s - s) := if_neg (by have := (nI_leI (b := 3) (by omega) (by decide)).mp h_88; omega)
    refine k _ ?_ ?_ ?_ ?_ ?_ ?_ (FR.tr f1 (FR.tr (by rw [e2]; exact FR.ui (by decide)) (FR.ui (by decide))))
    · exact TP.ui (by rw [e2]; exact h1.ui (j := 4) (by decide)) (by decide)
    · simpa [pg_ui_at] using x2
    · simpa [pg_ui_at] using z2
    · rw [e2]; simp [pg_ui_at]
    · rw [hv]; simp [pg_ui_at]
    · rw [e2]; simpa [pg_ui_at] using n1
  · refine go_iconst (pc' := 92) (-1) dX4_scanNumber_91 rfl (by decide) ?_
    refine go_goto (pc' := 96) dX4_scanNumber_92 (by decide) ?_
    refine go_putI (pc' := 99) dX4_scanNumber_96 rfl flRX4_28 rfl rfl ft4_5 ?_
    refine go_vret dX4_scanNumber_99 rfl ?_
    have hv : nvI B s (scn (diB B L) L s) = -1 := if_pos (by
      rcases Nat.lt_or_ge 3 (scn (diB B L) L s - s) with q | q
      · exact q
      · exact absurd (nI_le (b := 3) q (by decide)) h_88)
    refine k _ ?_ ?_ ?_ ?_ ?_ ?_ (FR.tr f1 (FR.tr (by rw [e2]; exact FR.ui (by decide)) (FR.ui (by decide))))
    · exact TP.ui (by rw [e2]; exact h1.ui (j := 4) (by decide)) (by decide)
    · simpa [pg_ui_at] using x2
    · simpa [pg_ui_at] using z2
    · rw [e2]; simp [pg_ui_at]
    · rw [hv]; simp [pg_ui_at]
    · rw [e2]; simpa [pg_ui_at] using n1

set_option maxHeartbeats 4000000 in
set_option maxRecDepth 20000 in
theorem tX4_advance {sc : pg_Sc} {g : pg_S} {K : pg_S → Prop} {B : Nat → Nat} {L p : Nat} (h : TP g B L) (hx : g.1 28 2 = nI p) (hpL : p ≤ L) (k : ∀ g', TP g' B L → TK B L p g' → g'.1 28 6 = g.1 28 6 → FR 28 29 g g' → K g') : pg_Cal sc 8 mX4_advance [.ref 28] g (pg_kv K) := by
  refine pg_Cal.of rfl (Nat.le_of_ble_eq_true rfl) rfl ?_
  have hL := h.2.1
  have hsk := sk_le (B := B) hpL
  refine ladv1 L p g (by omega) hpL h hx (fun g1 h1 x1 f1 z1 n1 => ?_)
  have x1 : g1.1 28 2 = nI (skF B L p) := x1
  refine go_aload_n (pc' := 39) dX4_advance_38 rfl rfl ?_
  refine go_aload_n (pc' := 40) dX4_advance_39 rfl rfl ?_
  refine go_getI (pc' := 43) dX4_advance_40 rfl flRX4_19 rfl rfl ?_
  rw [x1]
  refine go_putI (pc' := 46) dX4_advance_43 rfl flRX4_22 rfl rfl ft4_3 ?_
  refine go_gen (fun g2 e2 => ?_)
  have h2 : TP g2 B L := by rw [e2]; exact h1.ui (by decide)
  have x2 : g2.1 28 2 = nI (skF B L p) := by rw [e2]; simpa [pg_ui_at] using x1
  have z2 : g2.1 28 3 = nI (skF B L p) := by rw [e2]; simp [pg_ui_at]
  have n2 : g2.1 28 6 = g.1 28 6 := by rw [e2]; simpa [pg_ui_at] using n1
  have f2 : FR 28 29 g g2 := by rw [e2]; exact FR.tr f1 (FR.ui (by decide))
  refine go_aload_n (pc' := 47) dX4_advance_46 rfl rfl ?_
  refine go_getI (pc' := 50) dX4_advance_47 rfl flRX4_19 rfl rfl ?_
  rw [x2]
  refine go_aload_n (pc' := 51) dX4_advance_50 rfl rfl ?_
  refine go_getI (pc' := 54) dX4_advance_51 rfl flRX4_15 rfl rfl ?_
  rw [h2.1]
  refine go_icmp_lt (pc' := 57) (tgt := 65) dX4_advance_54 rfl (by decide) (fun h_54 => ?_) (fun h_54 => ?_)
  · have hsl : skF B L p < L := (nI_ltI (by omega) (by omega)).mp h_54
    have hby := h2.2.2 _ hsl
    refine go_aload_n (pc' := 66) dX4_advance_65 rfl rfl ?_
    refine go_getR (pc' := 69) dX4_advance_66 rfl flRX4_11 rfl rfl ?_
    refine go_aload_n (pc' := 70) dX4_advance_69 rfl rfl ?_
    refine go_getI (pc' := 73) dX4_advance_70 rfl flRX4_19 rfl rfl ?_
    rw [x2]
    refine go_bald (pc' := 74) (skF B L p) dX4_advance_73 rfl rfl rfl (by omega) (by decide) ?_
    rw [hby.2]
    refine go_cSi1 (pc' := 77) (M' := mX4_isLetter) (d' := 1) dX4_advance_74 rfl csRX4_81 (by decide) rfl (Nat.le_of_ble_eq_true rfl) ?_
    refine tX4_isLetter ?_
    refine go_if_eq (pc' := 80) (tgt := 87) dX4_advance_77 rfl (by decide) (fun h_77 => ?_) (fun h_77 => ?_)
    · have h_77 := pg_b0 h_77
      have hle : ¬ leB B L (skF B L p) = true := fun q => h_77 ((sb_le _ hby.1).mpr (leB_iff.mp q).2)
      refine go_aload_n (pc' := 88) dX4_advance_87 rfl rfl ?_
      refine go_getR (pc' := 91) dX4_advance_88 rfl flRX4_11 rfl rfl ?_
      refine go_aload_n (pc' := 92) dX4_advance_91 rfl rfl ?_
      refine go_getI (pc' := 95) dX4_advance_92 rfl flRX4_19 rfl rfl ?_
      rw [x2]
      refine go_bald (pc' := 96) (skF B L p) dX4_advance_95 rfl rfl rfl (by omega) (by decide) ?_
      rw [hby.2]
      refine go_cSi1 (pc' := 99) (M' := mX4_isDigit) (d' := 1) dX4_advance_96 rfl csRX4_87 (by decide) rfl (Nat.le_of_ble_eq_true rfl) ?_
      refine tX4_isDigit ?_
      refine go_if_eq (pc' := 102) (tgt := 109) dX4_advance_99 rfl (by decide) (fun h_99 => ?_) (fun h_99 => ?_)
      · have h_99 := pg_b0 h_99
        have hdi : ¬ diB B L (skF B L p) = true := fun q => h_99 ((sb_di _ hby.1).mpr (diB_iff.mp q).2)
        refine go_aload_n (pc' := 110) dX4_advance_109 rfl rfl ?_
        refine go_iconst (pc' := 111) 3 dX4_advance_110 rfl (by decide) ?_
        refine go_putI (pc' := 114) dX4_advance_111 rfl flRX4_25 rfl rfl ft4_4 ?_
        refine go_gen (fun g3 e3 => ?_)
        have h3 : TP g3 B L := by rw [e3]; exact h2.ui (by decide)
        have x3 : g3.1 28 2 = nI (skF B L p) := by rw [e3]; simpa [pg_ui_at] using x2
        have hby3 := h3.2.2 _ hsl
        refine go_aload_n (pc' := 115) dX4_advance_114 rfl rfl ?_
        refine go_aload_n (pc' := 116) dX4_advance_115 rfl rfl ?_
        refine go_getR (pc' := 119) dX4_advance_116 rfl flRX4_11 rfl rfl ?_
        refine go_aload_n (pc' := 120) dX4_advance_119 rfl rfl ?_
        refine go_getI (pc' := 123) dX4_advance_120 rfl flRX4_19 rfl rfl ?_
        rw [x3]
        refine go_bald (pc' := 124) (skF B L p) dX4_advance_123 rfl rfl rfl (by omega) (by decide) ?_
        rw [hby3.2]
        refine go_putI (pc' := 127) dX4_advance_124 rfl flRX4_28 rfl rfl ft4_5 ?_
        refine go_gen (fun g4 e4 => ?_)
        have x4 : g4.1 28 2 = nI (skF B L p) := by rw [e4]; simpa [pg_ui_at] using x3
        refine go_aload_n (pc' := 128) dX4_advance_127 rfl rfl ?_
        refine go_dup (pc' := 129) dX4_advance_128 rfl rfl ?_
        refine go_getI (pc' := 132) dX4_advance_129 rfl flRX4_19 rfl rfl ?_
        rw [x4]
        refine go_iconst (pc' := 133) 1 dX4_advance_132 rfl (by decide) ?_
        refine go_iadd (pc' := 134) dX4_advance_133 rfl ?_
        rw [nI_1]
        refine go_putI (pc' := 137) dX4_advance_134 rfl flRX4_19 rfl rfl ft4_2 ?_
        refine go_vret dX4_advance_137 rfl ?_
        obtain ⟨t1, t2⟩ := tok3 (p := p) hsl hle hdi
        refine k _ ?_ ⟨?_, ?_, ?_, fun q => ?_, fun q => ?_, fun _ => ?_⟩ ?_ (FR.tr f2 (FR.tr (by rw [e4, e3]; exact FR.tr (FR.ui (by decide)) (FR.ui (by decide))) (FR.ui (by decide))))
        · exact TP.ui (by rw [e4]; exact h3.ui (by decide)) (by decide)
        · rw [t2]; simp [pg_ui_at]
        · rw [e4, e3]; simpa [pg_ui_at] using z2
        · rw [t1, e4, e3]; simp [pg_ui_at]; rfl
        · rw [t1] at q; omega
        · rw [t1] at q; omega
        · rw [e4]; simp [pg_ui_at]
        · rw [e4, e3]; simpa [pg_ui_at] using n2
      · have h_99 := pg_b1 h_99
        have hdi : diB B L (skF B L p) = true := diB_iff.mpr ⟨hsl, (sb_di _ hby.1).mp h_99⟩
        refine go_aload_n (pc' := 103) dX4_advance_102 rfl rfl ?_
        refine go_cVv0 (pc' := 106) (M' := mX4_scanNumber) (d' := 2) dX4_advance_103 rfl cvRX4_90 rfl rfl (by decide) rfl (Nat.le_of_ble_eq_true rfl) ?_
        refine tX4_scanNumber h2 x2 z2 hsk (fun g5 h5 x5 z5 s5 v5 n5 f5 => ?_)
        refine go_goto (pc' := 137) dX4_advance_106 (by decide) ?_
        refine go_vret dX4_advance_137 rfl ?_
        obtain ⟨t1, t2⟩ := tok2 (p := p) hle hdi
        refine k g5 h5 ⟨?_, z5, ?_, fun q => ?_, fun _ => ?_, fun q => ?_⟩ (n5.trans n2) (FR.tr f2 f5)
        · rw [t2]; exact x5
        · rw [t1, s5]; rfl
        · rw [t1] at q; omega
        · rw [t2]; exact v5
        · rw [t1] at q; omega
    · have h_77 := pg_b1 h_77
      have hle : leB B L (skF B L p) = true := leB_iff.mpr ⟨hsl, (sb_le _ hby.1).mp h_77⟩
      refine go_aload_n (pc' := 81) dX4_advance_80 rfl rfl ?_
      refine go_cVv0 (pc' := 84) (M' := mX4_scanName) (d' := 7) dX4_advance_81 rfl cvRX4_84 rfl rfl (by decide) rfl (Nat.le_of_ble_eq_true rfl) ?_
      refine tX4_scanName h2 x2 z2 hsk (fun g5 h5 x5 z5 s5 v5 n5 f5 => ?_)
      refine go_goto (pc' := 137) dX4_advance_84 (by decide) ?_
      refine go_vret dX4_advance_137 rfl ?_
      obtain ⟨t1, t2⟩ := tok1 (p := p) hle
      refine k g5 h5 ⟨?_, z5, ?_, fun _ => ?_, fun q => ?_, fun q => ?_⟩ (n5.trans n2) (FR.tr f2 f5)
      · rw [t2]; exact x5
      · rw [t1, s5]; rfl
      · rw [t2]; exact v5
      · rw [t1] at q; omega
      · rw [t1] at q; omega
  · have hsl : ¬ skF B L p < L := fun q => h_54 (nI_lt q (by omega))
    refine go_aload_n (pc' := 58) dX4_advance_57 rfl rfl ?_
    refine go_iconst (pc' := 59) 0 dX4_advance_58 rfl (by decide) ?_
    refine go_putI (pc' := 62) dX4_advance_59 rfl flRX4_25 rfl rfl ft4_4 ?_
    refine go_goto (pc' := 137) dX4_advance_62 (by decide) ?_
    refine go_vret dX4_advance_137 rfl ?_
    obtain ⟨t1, t2⟩ := tok0 (B := B) (L := L) (p := p) hsl
    refine k _ (h2.ui (by decide)) ⟨?_, ?_, ?_, fun q => ?_, fun q => ?_, fun q => ?_⟩ ?_ (FR.tr f2 (FR.ui (by decide)))
    · rw [t2]; simpa [pg_ui_at] using x2
    · simpa [pg_ui_at] using z2
    · rw [t1]; simp [pg_ui_at]; rfl
    · rw [t1] at q; omega
    · rw [t1] at q; omega
    · rw [t1] at q; omega
    · simpa [pg_ui_at] using n2

