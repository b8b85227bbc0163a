theorem pg_inc (n : Nat) : nI n + Int32.ofInt 1 = nI (n + 1) := nI_1 n
theorem pg_inc' (x : Int32) : x + Int32.ofInt 1 = x + 1 := rfl
theorem pg_b0 {c : Prop} [Decidable c] (h : (if c then (1 : Int32) else 0) = 0) : ¬ c := fun q => by rw [if_pos q] at h; exact absurd h (by decide)
theorem pg_b1 {c : Prop} [Decidable c] (h : ¬ (if c then (1 : Int32) else 0) = 0) : c := by
  by_cases q : c
  · exact q
  · rw [if_neg q] at h; exact absurd rfl h
def pg_in (v a b : Int32) : Int32 := if a ≤ v ∧ v ≤ b then 1 else 0
theorem pg_in1 {v a b : Int32} (h1 : a ≤ v) (h2 : v ≤ b) : pg_in v a b = 1 := if_pos ⟨h1, h2⟩
theorem pg_in0 {v a b : Int32} (h : ¬ (a ≤ v ∧ v ≤ b)) : pg_in v a b = 0 := if_neg h
theorem pg_lt_nle {a b : Int32} (h : a < b) : ¬ b ≤ a := by rw [Int32.le_iff_toInt_le]; rw [Int32.lt_iff_toInt_lt] at h; omega
theorem pg_nlt_le {a b : Int32} (h : ¬ a < b) : b ≤ a := by rw [Int32.le_iff_toInt_le]; rw [Int32.lt_iff_toInt_lt] at h; omega
theorem pg_nle_lt {a b : Int32} (h : ¬ a ≤ b) : b < a := by rw [Int32.lt_iff_toInt_lt]; rw [Int32.le_iff_toInt_le] at h; omega
theorem pg_lt_of_nle {a b : Int32} (h : ¬ a ≤ b) : b < a := pg_nle_lt h
theorem pg_le_of_lt {a b : Int32} (h : a < b) : a ≤ b := by rw [Int32.le_iff_toInt_le]; rw [Int32.lt_iff_toInt_lt] at h; omega
theorem pg_ix13 (p q : Nat) : (13 : Int32) + 5 * nI p + nI q = nI (13 + 5 * p + q) := by
  rw [show (13 : Int32) = nI 13 from rfl, show (5 : Int32) = nI 5 from rfl, pk_mul, nI_add, nI_add]
set_option maxHeartbeats 4000000 in
set_option maxRecDepth 20000 in
theorem tX7_in {sc : pg_Sc} {g : pg_S} {K : Int32 → pg_S → Prop} {v a b : Int32}  (k : K (if a ≤ v ∧ v ≤ b then 1 else 0) g) : pg_Cal sc 1 mX7_in [.int v, .int a, .int b] g (pg_ki K) := by
  refine pg_Cal.of rfl (Nat.le_of_ble_eq_true rfl) rfl ?_
  refine go_iload_n (pc' := 1) dX7_in_0 rfl rfl ?_
  refine go_iload_n (pc' := 2) dX7_in_1 rfl rfl ?_
  refine go_icmp_lt (pc' := 5) (tgt := 14) dX7_in_2 rfl (by decide) (fun h_2 => ?_) (fun h_2 => ?_)
  · refine go_iconst (pc' := 15) 0 dX7_in_14 rfl (by decide) ?_
    refine go_iret dX7_in_15 (by first | exact pg_nar1 | exact pg_nar0 | exact pg_narB) ?_
    first | (rw [if_pos ⟨by (first | assumption | (simp only [Int32.le_iff_toInt_le, Int32.lt_iff_toInt_lt, ← Int32.toInt_inj] at *; omega)), by (first | assumption | (simp only [Int32.le_iff_toInt_le, Int32.lt_iff_toInt_lt, ← Int32.toInt_inj] at *; omega))⟩] at k; exact k) | (rw [if_neg (fun h => by have h1 := h.1; have h2 := h.2; (first | assumption | (simp only [Int32.le_iff_toInt_le, Int32.lt_iff_toInt_lt, ← Int32.toInt_inj] at *; omega)))] at k; exact k)
  · refine go_iload_n (pc' := 6) dX7_in_5 rfl rfl ?_
    refine go_iload_n (pc' := 7) dX7_in_6 rfl rfl ?_
    refine go_icmp_gt (pc' := 10) (tgt := 14) dX7_in_7 rfl (by decide) (fun h_7 => ?_) (fun h_7 => ?_)
    · refine go_iconst (pc' := 15) 0 dX7_in_14 rfl (by decide) ?_
      refine go_iret dX7_in_15 (by first | exact pg_nar1 | exact pg_nar0 | exact pg_narB) ?_
      first | (rw [if_pos ⟨by (first | assumption | (simp only [Int32.le_iff_toInt_le, Int32.lt_iff_toInt_lt, ← Int32.toInt_inj] at *; omega)), by (first | assumption | (simp only [Int32.le_iff_toInt_le, Int32.lt_iff_toInt_lt, ← Int32.toInt_inj] at *; omega))⟩] at k; exact k) | (rw [if_neg (fun h => by have h1 := h.1; have h2 := h.2; (first | assumption | (simp only [Int32.le_iff_toInt_le, Int32.lt_iff_toInt_lt, ← Int32.toInt_inj] at *; omega)))] at k; exact k)
    · refine go_iconst (pc' := 11) 1 dX7_in_10 rfl (by decide) ?_
      refine go_goto (pc' := 15) dX7_in_11 (by decide) ?_
      refine go_iret dX7_in_15 (by first | exact pg_nar1 | exact pg_nar0 | exact pg_narB) ?_
      first | (rw [if_pos ⟨by (first | assumption | (simp only [Int32.le_iff_toInt_le, Int32.lt_iff_toInt_lt, ← Int32.toInt_inj] at *; omega)), by (first | assumption | (simp only [Int32.le_iff_toInt_le, Int32.lt_iff_toInt_lt, ← Int32.toInt_inj] at *; omega))⟩] at k; exact k) | (rw [if_neg (fun h => by have h1 := h.1; have h2 := h.2; (first | assumption | (simp only [Int32.le_iff_toInt_le, Int32.lt_iff_toInt_lt, ← Int32.toInt_inj] at *; omega)))] at k; exact k)

set_option maxHeartbeats 4000000 in
set_option maxRecDepth 20000 in
theorem tX7_its {sc : pg_Sc} {g : pg_S} {K : Int32 → pg_S → Prop} {p q : Nat} (hp : p < 8) (hq : q < 5) (k : K (g.1 60 (13 + 5 * p + q)) g) : pg_Cal sc 1 mX7_its [.ref 59, .int (nI p), .int (nI q)] g (pg_ki K) := by
  refine pg_Cal.of rfl (Nat.le_of_ble_eq_true rfl) rfl ?_
  refine go_aload_n (pc' := 1) dX7_its_0 rfl rfl ?_
  refine go_getR (pc' := 4) dX7_its_1 rfl flRX7_7 rfl rfl ?_
  refine go_bipush (pc' := 6) 13 dX7_its_4 rfl (by decide) ?_
  refine go_iconst (pc' := 7) 5 dX7_its_6 rfl (by decide) ?_
  refine go_iload_n (pc' := 8) dX7_its_7 rfl rfl ?_
  refine go_imul (pc' := 9) dX7_its_8 rfl ?_
  refine go_iadd (pc' := 10) dX7_its_9 rfl ?_
  refine go_iload_n (pc' := 11) dX7_its_10 rfl rfl ?_
  refine go_iadd (pc' := 12) dX7_its_11 rfl ?_
  refine go_iald (pc' := 13) (13 + 5 * p + q) dX7_its_12 rfl rfl (pg_ix13 p q) (by omega) (by decide) ?_
  refine go_iret dX7_its_13 (pg_narI _) ?_
  exact k

set_option maxHeartbeats 4000000 in
set_option maxRecDepth 20000 in
theorem tX7_sets {sc : pg_Sc} {g : pg_S} {K : pg_S → Prop} {p q : Nat} {v : Int32} (hp : p < 8) (hq : q < 5) (k : K (pg_ui g.1 60 (13 + 5 * p + q) v, g.2)) : pg_Cal sc 1 mX7_sets [.ref 59, .int (nI p), .int (nI q), .int v] g (pg_kv K) := by
  refine pg_Cal.of rfl (Nat.le_of_ble_eq_true rfl) rfl ?_
  refine go_aload_n (pc' := 1) dX7_sets_0 rfl rfl ?_
  refine go_getR (pc' := 4) dX7_sets_1 rfl flRX7_7 rfl rfl ?_
  refine go_bipush (pc' := 6) 13 dX7_sets_4 rfl (by decide) ?_
  refine go_iconst (pc' := 7) 5 dX7_sets_6 rfl (by decide) ?_
  refine go_iload_n (pc' := 8) dX7_sets_7 rfl rfl ?_
  refine go_imul (pc' := 9) dX7_sets_8 rfl ?_
  refine go_iadd (pc' := 10) dX7_sets_9 rfl ?_
  refine go_iload_n (pc' := 11) dX7_sets_10 rfl rfl ?_
  refine go_iadd (pc' := 12) dX7_sets_11 rfl ?_
  refine go_iload_n (pc' := 13) dX7_sets_12 rfl rfl ?_
  refine go_iast (pc' := 14) (13 + 5 * p + q) dX7_sets_13 rfl rfl (pg_ix13 p q) (by omega) (by decide) ?_
  refine go_vret dX7_sets_14 rfl ?_
  exact k

