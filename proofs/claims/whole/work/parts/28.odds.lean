abbrev nL (n : Nat) : Int64 := Int64.ofNat n
theorem nL_toInt {n : Nat} (h : n < 2 ^ 63) : (nL n).toInt = n := lg_ofNat_toInt h
theorem nL_mul (a b : Nat) : nL a * nL b = nL (a * b) := (Int64.ofNat_mul a b).symm
theorem nL_i2l {a : Nat} (h : a < 2 ^ 31) : (nI a).toInt64 = nL a := Int64.toInt_inj.mp (by rw [Int32.toInt_toInt64, nI_toInt h, nL_toInt (by omega)])
theorem nL_eq0 {a : Nat} (h : a < 2 ^ 63) : nL a = 0 ↔ a = 0 := by
  rw [← Int64.toInt_inj, nL_toInt h, show (0 : Int64).toInt = 0 from rfl]
  omega
theorem nL_div {a b : Nat} (ha : a < 2 ^ 63) (hb : b < 2 ^ 63) (h0 : 0 < b) : nL a / nL b = nL (a / b) := by
  have hq : a / b < 2 ^ 63 := Nat.lt_of_le_of_lt (Nat.div_le_self a b) ha
  apply Int64.toInt_inj.mp
  rw [lg_ldiv_nonneg (by rw [nL_toInt ha]; omega) (by rw [nL_toInt hb]; omega), nL_toInt ha, nL_toInt hb, nL_toInt hq]
  rfl
theorem nL_rem {a b : Nat} (ha : a < 2 ^ 63) (hb : b < 2 ^ 63) (h0 : 0 < b) : nL a - nL a / nL b * nL b = nL (a % b) := by
  have e := Nat.div_add_mod a b
  have e2 : b * (a / b) = a / b * b := Nat.mul_comm _ _
  rw [nL_div ha hb h0, nL_mul, ← Int64.ofNat_sub a (a / b * b) (by omega)]
  congr 1
  omega
def fbN : Nat → Nat
  | 0 => 1
  | 1 => 2
  | m + 2 => fbN (m + 1) + fbN m
def fbP : Nat → Nat × Nat
  | 0 => (1, 2)
  | m + 1 => ((fbP m).2, (fbP m).2 + (fbP m).1)
theorem fbP_eq : ∀ m, fbP m = (fbN m, fbN (m + 1))
  | 0 => rfl
  | m + 1 => by
    show ((fbP m).2, (fbP m).2 + (fbP m).1) = _
    rw [fbP_eq m]
    rfl
theorem fb100 : 10 ^ 16 < fbN 100 := by
  have e : (fbP 100).1 = fbN 100 := by rw [fbP_eq]
  rw [← e]
  decide +kernel
def eun : Nat → Nat → Nat → Prop
  | 0, _, b => b = 0
  | m + 1, a, b => b = 0 ∨ eun m b (a % b)
theorem eun_fb : ∀ m, (∀ a b, b < fbN m → eun m a b) ∧ (∀ a b, b < fbN (m + 1) → eun (m + 1) a b)
  | 0 => by
    refine ⟨fun a b h => ?_, fun a b h => ?_⟩
    · have h : b < 1 := h
      show b = 0
      omega
    · have h : b < 2 := h
      show b = 0 ∨ a % b = 0
      rcases (show b = 0 ∨ b = 1 by omega) with e | e
      · exact Or.inl e
      · exact Or.inr (by rw [e]; exact Nat.mod_one a)
  | m + 1 => by
    obtain ⟨h0, h1⟩ := eun_fb m
    refine ⟨h1, fun a b h => ?_⟩
    have h : b < fbN (m + 1) + fbN m := h
    show b = 0 ∨ eun (m + 1) b (a % b)
    rcases Nat.eq_zero_or_pos b with e | e
    · exact Or.inl e
    · refine Or.inr ?_
      have hr := Nat.mod_lt a e
      rcases Nat.lt_or_ge (a % b) (fbN (m + 1)) with q | q
      · exact h1 b (a % b) q
      · show a % b = 0 ∨ eun m (a % b) (b % (a % b))
        rcases Nat.eq_zero_or_pos (a % b) with e2 | e2
        · exact Or.inl e2
        · refine Or.inr (h0 _ _ ?_)
          have e3 : b % (a % b) = (b - a % b) % (a % b) := by rw [Nat.mod_eq_sub_mod (Nat.le_of_lt hr)]
          have e4 := Nat.mod_le (b - a % b) (a % b)
          omega
theorem gcd_st (a b : Nat) : Nat.gcd b (a % b) = Nat.gcd a b := by
  rw [Nat.gcd_comm a b, Nat.gcd_rec b a, Nat.gcd_comm]
def pwF (b : Int64) : Nat → Int64 → Int64
  | 0, r => r
  | m + 1, r => pwF b m (r * b)
theorem pwF_nL (c : Nat) : ∀ m r, pwF (nL c) m (nL r) = nL (r * c ^ m)
  | 0, r => by rw [Nat.pow_zero, Nat.mul_one]; rfl
  | m + 1, r => by
    show pwF (nL c) m (nL r * nL c) = _
    rw [nL_mul, pwF_nL c m (r * c), Nat.pow_succ, Nat.mul_assoc, Nat.mul_comm c (c ^ m)]
def wyF (n : Nat) : Nat → Nat → Int64 → Int64
  | 0, _, r => r
  | m + 1, i, r => wyF n m (i + 1) (r * nL (n - i) / nL (i + 1))
def wyN (n : Nat) : Nat → Nat → Nat → Nat
  | 0, _, r => r
  | m + 1, i, r => wyN n m (i + 1) (r * (n - i) / (i + 1))
theorem wy_eq : ∀ n, n < 9 → ∀ k, k < 9 → wyF n k 0 1 = nL (wyN n k 0 1) ∧ wyN n k 0 1 ≤ 70 := by decide +kernel
def odF (A B : Nat) (w : Int32) : Int64 := if w = 0 then nL A / nL (Nat.gcd A B) else nL B / nL (Nat.gcd A B)
def abN (n k c : Nat) : Nat := wyN n k 0 1 * c ^ k * (100 - c) ^ (n - k)
theorem ab_le {n k c : Nat} (hn : n ≤ 8) (hk : k ≤ n) (hc : c ≤ 100) : abN n k c < 2 ^ 63 := by
  have h1 := (wy_eq n (by omega) k (by omega)).2
  have h2 : c ^ k ≤ 100 ^ k := Nat.pow_le_pow_left hc k
  have h3 : (100 - c) ^ (n - k) ≤ 100 ^ (n - k) := Nat.pow_le_pow_left (by omega) _
  have h4 : 100 ^ k * 100 ^ (n - k) = 100 ^ n := by rw [← Nat.pow_add]; congr 1; omega
  have h5 : 100 ^ n ≤ 100 ^ 8 := Nat.pow_le_pow_right (by omega) hn
  have h6 : abN n k c ≤ 70 * 100 ^ k * 100 ^ (n - k) := Nat.mul_le_mul (Nat.mul_le_mul h1 h2) h3
  rw [Nat.mul_assoc, h4] at h6
  have h7 : 70 * 100 ^ n ≤ 70 * 100 ^ 8 := Nat.mul_le_mul_left 70 h5
  exact Nat.lt_of_le_of_lt (Nat.le_trans h6 h7) (by decide)
theorem nL_nlt1 {a : Nat} (h : a < 2 ^ 63) (h0 : 0 < a) : ¬ nL a < 1 := by
  rw [Int64.lt_iff_toInt_lt, nL_toInt h, show (1 : Int64).toInt = 1 from rfl]
  omega
set_option maxHeartbeats 4000000 in
set_option maxRecDepth 20000 in
theorem leu {sc : pg_Sc} {K : Int64 → pg_S → Prop} {A B : Int64} {g : pg_S} : ∀ (m : Nat) (i a b : Nat), i + m = 100 → eun m a b → a < 2 ^ 63 → b < 2 ^ 63 → K (nL (Nat.gcd a b)) g → pg_Go sc 1 mX6_commonDivisor 9 [(0, .long A), (2, .long B), (4, .long (nL a)), (6, .long (nL b)), (8, .int (nI i))] [] g (pg_kl K) := by
  intro m
  induction m with
  | zero =>
    intro i a b hi he ha hb k
    obtain rfl : i = 100 := by omega
    have he : b = 0 := he
    subst he
    rw [Nat.gcd_zero_right] at k
    refine go_iload (pc' := 11) dX6_commonDivisor_9 rfl rfl ?_
    refine go_bipush (pc' := 13) 100 dX6_commonDivisor_11 rfl (by decide) ?_
    refine go_icmp_ge (pc' := 16) (tgt := 44) dX6_commonDivisor_13 rfl (by decide) (fun h_13 => ?_) (fun h_13 => absurd (Int32.le_refl _) h_13)
    refine go_lload (pc' := 46) dX6_commonDivisor_44 rfl rfl ?_
    refine go_lret dX6_commonDivisor_46 rfl ?_
    exact k
  | succ m ih =>
    intro i a b hi he ha hb k
    have hin : i < 100 := by omega
    have he : b = 0 ∨ eun m b (a % b) := he
    refine go_iload (pc' := 11) dX6_commonDivisor_9 rfl rfl ?_
    refine go_bipush (pc' := 13) 100 dX6_commonDivisor_11 rfl (by decide) ?_
    refine go_icmp_ge (pc' := 16) (tgt := 44) dX6_commonDivisor_13 rfl (by decide) (fun h_13 => absurd h_13 (nI_ge (b := 100) hin (by decide))) (fun h_13 => ?_)
    refine go_lload (pc' := 18) dX6_commonDivisor_16 rfl rfl ?_
    refine go_lconst (pc' := 19) 0 dX6_commonDivisor_18 rfl (by decide) ?_
    refine go_lcmp (pc' := 20) dX6_commonDivisor_19 rfl ?_
    refine go_if_eq (pc' := 23) (tgt := 44) dX6_commonDivisor_20 rfl (by decide) (fun h_20 => ?_) (fun h_20 => ?_)
    · have eb : b = 0 := (nL_eq0 hb).mp ((lg_cmp_eq _ _).mp h_20)
      subst eb
      rw [Nat.gcd_zero_right] at k
      refine go_lload (pc' := 46) dX6_commonDivisor_44 rfl rfl ?_
      refine go_lret dX6_commonDivisor_46 rfl ?_
      exact k
    · have eb : ¬ b = 0 := fun q => h_20 ((lg_cmp_eq _ _).mpr ((nL_eq0 hb).mpr q))
      have eb0 : 0 < b := by omega
      refine go_lload (pc' := 25) dX6_commonDivisor_23 rfl rfl ?_
      refine go_lload (pc' := 27) dX6_commonDivisor_25 rfl rfl ?_
      refine go_lrem (pc' := 28) dX6_commonDivisor_27 rfl (fun q => eb ((nL_eq0 hb).mp q)) ?_
      rw [nL_rem ha hb eb0]
      refine go_lstore (pc' := 30) dX6_commonDivisor_28 rfl (by decide) rfl ?_
      refine go_lload (pc' := 32) dX6_commonDivisor_30 rfl rfl ?_
      refine go_lstore (pc' := 34) dX6_commonDivisor_32 rfl (by decide) rfl ?_
      refine go_lload (pc' := 36) dX6_commonDivisor_34 rfl rfl ?_
      refine go_lstore (pc' := 38) dX6_commonDivisor_36 rfl (by decide) rfl ?_
      refine go_iinc (pc' := 41) _ dX6_commonDivisor_38 rfl rfl (pg_inc _) (by decide) rfl ?_
      refine go_goto (pc' := 9) dX6_commonDivisor_41 (by decide) ?_
      refine go_sub [0, 1, 2, 3, 4] rfl ?_
      exact ih (i + 1) b (a % b) (by omega) (he.resolve_left eb) hb (by have := Nat.mod_lt a eb0; omega) (by rw [gcd_st]; exact k)

set_option maxHeartbeats 4000000 in
set_option maxRecDepth 20000 in
theorem tX6_commonDivisor {sc : pg_Sc} {g : pg_S} {K : Int64 → pg_S → Prop} {a b : Nat} (ha : a < 2 ^ 63) (hb : b ≤ 10 ^ 16) (k : K (nL (Nat.gcd a b)) g) : pg_Cal sc 1 mX6_commonDivisor [.long (nL a), .long (nL b)] g (pg_kl K) := by
  refine pg_Cal.of rfl (Nat.le_of_ble_eq_true rfl) rfl ?_
  refine go_lload_n (pc' := 1) dX6_commonDivisor_0 rfl rfl ?_
  refine go_lstore (pc' := 3) dX6_commonDivisor_1 rfl (by decide) rfl ?_
  refine go_lload_n (pc' := 4) dX6_commonDivisor_3 rfl rfl ?_
  refine go_lstore (pc' := 6) dX6_commonDivisor_4 rfl (by decide) rfl ?_
  refine go_iconst (pc' := 7) 0 dX6_commonDivisor_6 rfl (by decide) ?_
  refine go_istore (pc' := 9) dX6_commonDivisor_7 rfl (by decide) rfl ?_
  exact leu 100 0 a b (by omega) ((eun_fb 100).1 a b (Nat.lt_of_le_of_lt hb fb100)) ha (Nat.lt_of_le_of_lt hb (by decide)) k

set_option maxHeartbeats 4000000 in
set_option maxRecDepth 20000 in
theorem tX6_partOfFraction {sc : pg_Sc} {g : pg_S} {K : Int64 → pg_S → Prop} {a b : Nat} {x : Int32} (ha : a < 2 ^ 63) (hb : b ≤ 10 ^ 16) (h0 : 0 < b) (k : K (odF a b x) g) : pg_Cal sc 2 mX6_partOfFraction [.long (nL a), .long (nL b), .int x] g (pg_kl K) := by
  refine pg_Cal.of rfl (Nat.le_of_ble_eq_true rfl) rfl ?_
  have hg0 : 0 < Nat.gcd a b := Nat.gcd_pos_of_pos_right a h0
  have hg1 : Nat.gcd a b < 2 ^ 63 := Nat.lt_of_le_of_lt (Nat.le_trans (Nat.gcd_le_right a h0) hb) (by decide)
  refine go_lconst (pc' := 1) 1 dX6_partOfFraction_0 rfl (by decide) ?_
  refine go_lload_n (pc' := 2) dX6_partOfFraction_1 rfl rfl ?_
  refine go_lload_n (pc' := 3) dX6_partOfFraction_2 rfl rfl ?_
  refine go_cSl2 (pc' := 6) (M' := mX6_commonDivisor) (d' := 1) dX6_partOfFraction_3 rfl csRX6_323 (by decide) rfl (Nat.le_of_ble_eq_true rfl) ?_
  refine tX6_commonDivisor ha hb ?_
  refine go_lmax (pc' := 9) dX6_partOfFraction_6 rfl mw_lmax1 mw_lmax2 mw_ini mw_lmax4 (by decide) (Nat.le_of_ble_eq_true rfl) ?_
  rw [if_neg (nL_nlt1 hg1 hg0)]
  refine go_lstore (pc' := 11) dX6_partOfFraction_9 rfl (by decide) rfl ?_
  refine go_iload (pc' := 13) dX6_partOfFraction_11 rfl rfl ?_
  refine go_if_ne (pc' := 16) (tgt := 20) dX6_partOfFraction_13 rfl (by decide) (fun h_13 => ?_) (fun h_13 => ?_)
  · refine go_lload_n (pc' := 21) dX6_partOfFraction_20 rfl rfl ?_
    refine go_lload (pc' := 23) dX6_partOfFraction_21 rfl rfl ?_
    refine go_ldiv (pc' := 24) dX6_partOfFraction_23 rfl (fun q => by have := (nL_eq0 hg1).mp q; omega) ?_
    refine go_lret dX6_partOfFraction_24 rfl ?_
    unfold odF at k
    rw [if_neg h_13] at k
    exact k
  · refine go_lload_n (pc' := 17) dX6_partOfFraction_16 rfl rfl ?_
    refine go_goto (pc' := 21) dX6_partOfFraction_17 (by decide) ?_
    refine go_lload (pc' := 23) dX6_partOfFraction_21 rfl rfl ?_
    refine go_ldiv (pc' := 24) dX6_partOfFraction_23 rfl (fun q => by have := (nL_eq0 hg1).mp q; omega) ?_
    refine go_lret dX6_partOfFraction_24 rfl ?_
    unfold odF at k
    rw [if_pos h_13] at k
    exact k

set_option maxHeartbeats 4000000 in
set_option maxRecDepth 20000 in
theorem leu2 {sc : pg_Sc} {Q : pg_Q} {A B : Int64} {x : Int32} {g : pg_S} : ∀ (m : Nat) (a b : Nat), b ≤ m → a < 2 ^ 63 → b < 2 ^ 63 → pg_Go sc 1 mX7_lowest 31 [(0, .long A), (2, .long B), (4, .int x), (5, .long (nL (Nat.gcd a b)))] [] g Q → pg_Go sc 1 mX7_lowest 6 [(0, .long A), (2, .long B), (4, .int x), (5, .long (nL a)), (7, .long (nL b))] [] g Q := by
  intro m
  induction m with
  | zero =>
    intro a b hm ha hb k
    obtain rfl : b = 0 := by omega
    rw [Nat.gcd_zero_right] at k
    refine go_lload (pc' := 8) dX7_lowest_6 rfl rfl ?_
    refine go_lconst (pc' := 9) 0 dX7_lowest_8 rfl (by decide) ?_
    refine go_lcmp (pc' := 10) dX7_lowest_9 rfl ?_
    refine go_if_eq (pc' := 13) (tgt := 31) dX7_lowest_10 rfl (by decide) (fun h_10 => ?_) (fun h_10 => absurd ((lg_cmp_eq _ _).mpr rfl) h_10)
    refine go_sub [0, 1, 2, 3] rfl ?_
    exact k
  | succ m ih =>
    intro a b hm ha hb k
    refine go_lload (pc' := 8) dX7_lowest_6 rfl rfl ?_
    refine go_lconst (pc' := 9) 0 dX7_lowest_8 rfl (by decide) ?_
    refine go_lcmp (pc' := 10) dX7_lowest_9 rfl ?_
    refine go_if_eq (pc' := 13) (tgt := 31) dX7_lowest_10 rfl (by decide) (fun h_10 => ?_) (fun h_10 => ?_)
    · have eb : b = 0 := (nL_eq0 hb).mp ((lg_cmp_eq _ _).mp h_10)
      subst eb
      rw [Nat.gcd_zero_right] at k
      refine go_sub [0, 1, 2, 3] rfl ?_
      exact k
    · have eb : ¬ b = 0 := fun q => h_10 ((lg_cmp_eq _ _).mpr ((nL_eq0 hb).mpr q))
      have eb0 : 0 < b := by omega
      have hml := Nat.mod_lt a eb0
      refine go_lload (pc' := 15) dX7_lowest_13 rfl rfl ?_
      refine go_lload (pc' := 17) dX7_lowest_15 rfl rfl ?_
      refine go_lrem (pc' := 18) dX7_lowest_17 rfl (fun q => eb ((nL_eq0 hb).mp q)) ?_
      rw [nL_rem ha hb eb0]
      refine go_lstore (pc' := 20) dX7_lowest_18 rfl (by decide) rfl ?_
      refine go_lload (pc' := 22) dX7_lowest_20 rfl rfl ?_
      refine go_lstore (pc' := 24) dX7_lowest_22 rfl (by decide) rfl ?_
      refine go_lload (pc' := 26) dX7_lowest_24 rfl rfl ?_
      refine go_lstore (pc' := 28) dX7_lowest_26 rfl (by decide) rfl ?_
      refine go_goto (pc' := 6) dX7_lowest_28 (by decide) ?_
      refine go_sub [0, 1, 2, 3, 4] rfl ?_
      exact ih b (a % b) (by omega) hb (by omega) (by rw [gcd_st]; exact k)

set_option maxHeartbeats 4000000 in
set_option maxRecDepth 20000 in
theorem tX7_lowest {sc : pg_Sc} {g : pg_S} {K : Int64 → pg_S → Prop} {a b : Nat} {x : Int32} (ha : a < 2 ^ 63) (hb : b ≤ 10 ^ 16) (h0 : 0 < b) (k : K (odF a b x) g) : pg_Cal sc 1 mX7_lowest [.long (nL a), .long (nL b), .int x] g (pg_kl K) := by
  refine pg_Cal.of rfl (Nat.le_of_ble_eq_true rfl) rfl ?_
  have hg0 : 0 < Nat.gcd a b := Nat.gcd_pos_of_pos_right a h0
  have hg1 : Nat.gcd a b < 2 ^ 63 := Nat.lt_of_le_of_lt (Nat.le_trans (Nat.gcd_le_right a h0) hb) (by decide)
  refine go_lload_n (pc' := 1) dX7_lowest_0 rfl rfl ?_
  refine go_lstore (pc' := 3) dX7_lowest_1 rfl (by decide) rfl ?_
  refine go_lload_n (pc' := 4) dX7_lowest_3 rfl rfl ?_
  refine go_lstore (pc' := 6) dX7_lowest_4 rfl (by decide) rfl ?_
  refine leu2 a b a (Nat.le_refl a) (Nat.lt_of_le_of_lt hb (by decide)) ha ?_
  rw [Nat.gcd_comm b a]
  refine go_iload (pc' := 33) dX7_lowest_31 rfl rfl ?_
  refine go_if_ne (pc' := 36) (tgt := 43) dX7_lowest_33 rfl (by decide) (fun h_33 => ?_) (fun h_33 => ?_)
  · refine go_lload_n (pc' := 44) dX7_lowest_43 rfl rfl ?_
    refine go_lload (pc' := 46) dX7_lowest_44 rfl rfl ?_
    refine go_ldiv (pc' := 47) dX7_lowest_46 rfl (fun q => by have := (nL_eq0 hg1).mp q; omega) ?_
    refine go_lret dX7_lowest_47 rfl ?_
    unfold odF at k
    rw [if_neg h_33] at k
    exact k
  · refine go_lload_n (pc' := 37) dX7_lowest_36 rfl rfl ?_
    refine go_lload (pc' := 39) dX7_lowest_37 rfl rfl ?_
    refine go_ldiv (pc' := 40) dX7_lowest_39 rfl (fun q => by have := (nL_eq0 hg1).mp q; omega) ?_
    refine go_goto (pc' := 47) dX7_lowest_40 (by decide) ?_
    refine go_lret dX7_lowest_47 rfl ?_
    unfold odF at k
    rw [if_pos h_33] at k
    exact k

set_option maxHeartbeats 4000000 in
set_option maxRecDepth 20000 in
theorem lpw {sc : pg_Sc} {K : Int64 → pg_S → Prop} {b : Int64} {c : Nat} {g : pg_S} (hc : c < 2 ^ 31) : ∀ (m : Nat) (i : Nat) (r : Int64), i + m = c → K (pwF b m r) g → pg_Go sc 1 mX6_power 5 [(0, .long b), (2, .int (nI c)), (3, .long r), (5, .int (nI i))] [] g (pg_kl K) := by
  intro m
  induction m with
  | zero =>
    intro i r hi k
    obtain rfl : i = c := by omega
    refine go_iload (pc' := 7) dX6_power_5 rfl rfl ?_
    refine go_iload_n (pc' := 8) dX6_power_7 rfl rfl ?_
    refine go_icmp_ge (pc' := 11) (tgt := 21) dX6_power_8 rfl (by decide) (fun h_8 => ?_) (fun h_8 => absurd (Int32.le_refl _) h_8)
    refine go_lload_n (pc' := 22) dX6_power_21 rfl rfl ?_
    refine go_lret dX6_power_22 rfl ?_
    exact k
  | succ m ih =>
    intro i r hi k
    have hin : i < c := by omega
    refine go_iload (pc' := 7) dX6_power_5 rfl rfl ?_
    refine go_iload_n (pc' := 8) dX6_power_7 rfl rfl ?_
    refine go_icmp_ge (pc' := 11) (tgt := 21) dX6_power_8 rfl (by decide) (fun h_8 => absurd h_8 (nI_ge hin hc)) (fun h_8 => ?_)
    refine go_lload_n (pc' := 12) dX6_power_11 rfl rfl ?_
    refine go_lload_n (pc' := 13) dX6_power_12 rfl rfl ?_
    refine go_lmul (pc' := 14) dX6_power_13 rfl ?_
    refine go_lstore_n (pc' := 15) dX6_power_14 rfl (by decide) rfl ?_
    refine go_iinc (pc' := 18) _ dX6_power_15 rfl rfl (pg_inc _) (by decide) rfl ?_
    refine go_goto (pc' := 5) dX6_power_18 (by decide) ?_
    exact ih (i + 1) _ (by omega) k

set_option maxHeartbeats 4000000 in
set_option maxRecDepth 20000 in
theorem tX6_power {sc : pg_Sc} {g : pg_S} {K : Int64 → pg_S → Prop} {b : Int64} {c : Nat} (hc : c < 2 ^ 31) (k : K (pwF b c 1) g) : pg_Cal sc 1 mX6_power [.long b, .int (nI c)] g (pg_kl K) := by
  refine pg_Cal.of rfl (Nat.le_of_ble_eq_true rfl) rfl ?_
  refine go_lconst (pc' := 1) 1 dX6_power_0 rfl (by decide) ?_
  refine go_lstore_n (pc' := 2) dX6_power_1 rfl (by decide) rfl ?_
  refine go_iconst (pc' := 3) 0 dX6_power_2 rfl (by decide) ?_
  refine go_istore (pc' := 5) dX6_power_3 rfl (by decide) rfl ?_
  exact lpw hc c 0 1 (by omega) k

set_option maxHeartbeats 4000000 in
set_option maxRecDepth 20000 in
theorem lmpw {sc : pg_Sc} {K : Int64 → pg_S → Prop} {b : Int32} {c : Nat} {g : pg_S} (hc : c < 2 ^ 31) : ∀ (m : Nat) (i : Nat) (r : Int64), i + m = c → K (pwF b.toInt64 m r) g → pg_Go sc 1 mX7_powerOf 5 [(0, .int b), (1, .int (nI c)), (2, .long r), (4, .int (nI i))] [] g (pg_kl K) := by
  intro m
  induction m with
  | zero =>
    intro i r hi k
    obtain rfl : i = c := by omega
    refine go_iload (pc' := 7) dX7_powerOf_5 rfl rfl ?_
    refine go_iload_n (pc' := 8) dX7_powerOf_7 rfl rfl ?_
    refine go_icmp_ge (pc' := 11) (tgt := 22) dX7_powerOf_8 rfl (by decide) (fun h_8 => ?_) (fun h_8 => absurd (Int32.le_refl _) h_8)
    refine go_lload_n (pc' := 23) dX7_powerOf_22 rfl rfl ?_
    refine go_lret dX7_powerOf_23 rfl ?_
    exact k
  | succ m ih =>
    intro i r hi k
    have hin : i < c := by omega
    refine go_iload (pc' := 7) dX7_powerOf_5 rfl rfl ?_
    refine go_iload_n (pc' := 8) dX7_powerOf_7 rfl rfl ?_
    refine go_icmp_ge (pc' := 11) (tgt := 22) dX7_powerOf_8 rfl (by decide) (fun h_8 => absurd h_8 (nI_ge hin hc)) (fun h_8 => ?_)
    refine go_lload_n (pc' := 12) dX7_powerOf_11 rfl rfl ?_
    refine go_iload_n (pc' := 13) dX7_powerOf_12 rfl rfl ?_
    refine go_i2l (pc' := 14) dX7_powerOf_13 rfl ?_
    refine go_lmul (pc' := 15) dX7_powerOf_14 rfl ?_
    refine go_lstore_n (pc' := 16) dX7_powerOf_15 rfl (by decide) rfl ?_
    refine go_iinc (pc' := 19) _ dX7_powerOf_16 rfl rfl (pg_inc _) (by decide) rfl ?_
    refine go_goto (pc' := 5) dX7_powerOf_19 (by decide) ?_
    exact ih (i + 1) _ (by omega) k

set_option maxHeartbeats 4000000 in
set_option maxRecDepth 20000 in
theorem tX7_powerOf {sc : pg_Sc} {g : pg_S} {K : Int64 → pg_S → Prop} {b : Int32} {c : Nat} (hc : c < 2 ^ 31) (k : K (pwF b.toInt64 c 1) g) : pg_Cal sc 1 mX7_powerOf [.int b, .int (nI c)] g (pg_kl K) := by
  refine pg_Cal.of rfl (Nat.le_of_ble_eq_true rfl) rfl ?_
  refine go_lconst (pc' := 1) 1 dX7_powerOf_0 rfl (by decide) ?_
  refine go_lstore_n (pc' := 2) dX7_powerOf_1 rfl (by decide) rfl ?_
  refine go_iconst (pc' := 3) 0 dX7_powerOf_2 rfl (by decide) ?_
  refine go_istore (pc' := 5) dX7_powerOf_3 rfl (by decide) rfl ?_
  exact lmpw hc c 0 1 (by omega) k

set_option maxHeartbeats 4000000 in
set_option maxRecDepth 20000 in
theorem lwy {sc : pg_Sc} {K : Int64 → pg_S → Prop} {n c : Nat} {g : pg_S} (hn : n ≤ 8) (hc : c ≤ n) : ∀ (m : Nat) (i : Nat) (r : Int64), i + m = c → K (wyF n m i r) g → pg_Go sc 1 mX6_ways 5 [(0, .int (nI n)), (1, .int (nI c)), (2, .long r), (4, .int (nI i))] [] g (pg_kl K) := by
  intro m
  induction m with
  | zero =>
    intro i r hi k
    obtain rfl : i = c := by omega
    refine go_iload (pc' := 7) dX6_ways_5 rfl rfl ?_
    refine go_iload_n (pc' := 8) dX6_ways_7 rfl rfl ?_
    refine go_icmp_ge (pc' := 11) (tgt := 31) dX6_ways_8 rfl (by decide) (fun h_8 => ?_) (fun h_8 => absurd (Int32.le_refl _) h_8)
    refine go_lload_n (pc' := 32) dX6_ways_31 rfl rfl ?_
    refine go_lret dX6_ways_32 rfl ?_
    exact k
  | succ m ih =>
    intro i r hi k
    have hin : i < c := by omega
    refine go_iload (pc' := 7) dX6_ways_5 rfl rfl ?_
    refine go_iload_n (pc' := 8) dX6_ways_7 rfl rfl ?_
    refine go_icmp_ge (pc' := 11) (tgt := 31) dX6_ways_8 rfl (by decide) (fun h_8 => absurd h_8 (nI_ge hin (by omega))) (fun h_8 => ?_)
    refine go_lload_n (pc' := 12) dX6_ways_11 rfl rfl ?_
    refine go_iload_n (pc' := 13) dX6_ways_12 rfl rfl ?_
    refine go_iload (pc' := 15) dX6_ways_13 rfl rfl ?_
    refine go_isub (pc' := 16) dX6_ways_15 rfl ?_
    rw [pk_sub (by omega)]
    refine go_i2l (pc' := 17) dX6_ways_16 rfl ?_
    rw [nL_i2l (by omega)]
    refine go_lmul (pc' := 18) dX6_ways_17 rfl ?_
    refine go_iload (pc' := 20) dX6_ways_18 rfl rfl ?_
    refine go_iconst (pc' := 21) 1 dX6_ways_20 rfl (by decide) ?_
    refine go_iadd (pc' := 22) dX6_ways_21 rfl ?_
    rw [nI_1]
    refine go_i2l (pc' := 23) dX6_ways_22 rfl ?_
    rw [nL_i2l (by omega)]
    refine go_ldiv (pc' := 24) dX6_ways_23 rfl (fun q => by have := (nL_eq0 (by omega)).mp q; omega) ?_
    refine go_lstore_n (pc' := 25) dX6_ways_24 rfl (by decide) rfl ?_
    refine go_iinc (pc' := 28) _ dX6_ways_25 rfl rfl (pg_inc _) (by decide) rfl ?_
    refine go_goto (pc' := 5) dX6_ways_28 (by decide) ?_
    exact ih (i + 1) _ (by omega) k

set_option maxHeartbeats 4000000 in
set_option maxRecDepth 20000 in
theorem tX6_ways {sc : pg_Sc} {g : pg_S} {K : Int64 → pg_S → Prop} {n c : Nat} (hn : n ≤ 8) (hc : c ≤ n) (k : K (wyF n c 0 1) g) : pg_Cal sc 1 mX6_ways [.int (nI n), .int (nI c)] g (pg_kl K) := by
  refine pg_Cal.of rfl (Nat.le_of_ble_eq_true rfl) rfl ?_
  refine go_lconst (pc' := 1) 1 dX6_ways_0 rfl (by decide) ?_
  refine go_lstore_n (pc' := 2) dX6_ways_1 rfl (by decide) rfl ?_
  refine go_iconst (pc' := 3) 0 dX6_ways_2 rfl (by decide) ?_
  refine go_istore (pc' := 5) dX6_ways_3 rfl (by decide) rfl ?_
  exact lwy hn hc c 0 1 (by omega) k

set_option maxHeartbeats 4000000 in
set_option maxRecDepth 20000 in
theorem tX6_odds {sc : pg_Sc} {g : pg_S} {K : Int64 → pg_S → Prop} {T : TW} {n : Nat} {a b x : Int32} (h : CR g 1 T n) (wf : WF T n) (k1 : ¬ (UP a 8 ∧ UP b a ∧ UP x 1) → K (-1) g) (k2 : UP a 8 ∧ UP b a ∧ UP x 1 → K (odF (abN (pn a) (pn b) (pn (T 0 3))) (100 ^ pn a) x) g) : pg_Cal sc 3 mX6_odds [.ref 0, .int a, .int b, .int x] g (pg_kl K) := by
  refine pg_Cal.of rfl (Nat.le_of_ble_eq_true rfl) rfl ?_
  have hn := wf.1
  refine go_iload_n (pc' := 1) dX6_odds_0 rfl rfl ?_
  refine go_bipush (pc' := 3) 8 dX6_odds_1 rfl (by decide) ?_
  refine go_cSi2 (pc' := 6) (M' := mX6_upTo) (d' := 1) dX6_odds_3 rfl csRX6_97 (by decide) rfl (Nat.le_of_ble_eq_true rfl) ?_
  refine tX6_upTo ?_
  refine go_if_eq (pc' := 9) (tgt := 25) dX6_odds_6 rfl (by decide) (fun h_6 => ?_) (fun h_6 => ?_)
  · have h_6 := pg_b0 h_6
    refine go_ldc2 (pc' := 28) dX6_odds_25 rfl clRX6_216 ?_
    refine go_lret dX6_odds_28 rfl ?_
    exact k1 (fun q => h_6 q.1)
  · have h_6 := pg_b1 h_6
    obtain ⟨n8, hn8, rfl⟩ := up_ex 8 rfl (by decide) h_6
    have en8 : pn (nI n8) = n8 := nI_clamp (by omega)
    refine go_iload_n (pc' := 10) dX6_odds_9 rfl rfl ?_
    refine go_iload_n (pc' := 11) dX6_odds_10 rfl rfl ?_
    refine go_cSi2 (pc' := 14) (M' := mX6_upTo) (d' := 1) dX6_odds_11 rfl csRX6_97 (by decide) rfl (Nat.le_of_ble_eq_true rfl) ?_
    refine tX6_upTo ?_
    refine go_if_eq (pc' := 17) (tgt := 25) dX6_odds_14 rfl (by decide) (fun h_14 => ?_) (fun h_14 => ?_)
    · have h_14 := pg_b0 h_14
      refine go_ldc2 (pc' := 28) dX6_odds_25 rfl clRX6_216 ?_
      refine go_lret dX6_odds_28 rfl ?_
      exact k1 (fun q => h_14 q.2.1)
    · have h_14 := pg_b1 h_14
      obtain ⟨c, hc, rfl⟩ := up_ex n8 rfl (by omega) h_14
      have ec : pn (nI c) = c := nI_clamp (by omega)
      refine go_iload_n (pc' := 18) dX6_odds_17 rfl rfl ?_
      refine go_iconst (pc' := 19) 1 dX6_odds_18 rfl (by decide) ?_
      refine go_cSi2 (pc' := 22) (M' := mX6_upTo) (d' := 1) dX6_odds_19 rfl csRX6_97 (by decide) rfl (Nat.le_of_ble_eq_true rfl) ?_
      refine tX6_upTo ?_
      refine go_if_ne (pc' := 25) (tgt := 29) dX6_odds_22 rfl (by decide) (fun h_22 => ?_) (fun h_22 => ?_)
      · have h_22 := pg_b1 h_22
        obtain ⟨ch, hch, ech⟩ := wf.2.2.1
        have ecn : pn (T 0 3) = ch := by rw [ech]; exact nI_clamp (by omega)
        rw [en8, ec, ecn] at k2
        obtain ⟨wy1, wy2⟩ := wy_eq n8 (by omega) c (by omega)
        have hb16 : 100 ^ n8 ≤ 10 ^ 16 := Nat.le_trans (Nat.pow_le_pow_right (by omega) hn8) (by decide)
        have hb0 : 0 < 100 ^ n8 := Nat.pow_pos (by omega)
        have hab := ab_le hn8 hc (show ch ≤ 100 by omega)
        refine go_aload_n (pc' := 30) dX6_odds_29 rfl rfl ?_
        refine go_getR (pc' := 33) dX6_odds_30 rfl flRX6_10 rfl rfl ?_
        refine go_getR (pc' := 36) dX6_odds_33 rfl flRX6_104 rfl rfl ?_
        refine go_iconst (pc' := 37) 3 dX6_odds_36 rfl (by decide) ?_
        refine go_iald (pc' := 38) 3 dX6_odds_37 rfl rfl rfl (by decide) (by decide) ?_
        rw [c1_law h (by decide), ech]
        refine go_i2l (pc' := 39) dX6_odds_38 rfl ?_
        rw [nL_i2l (by omega)]
        refine go_lstore (pc' := 41) dX6_odds_39 rfl (by decide) rfl ?_
        refine go_iload_n (pc' := 42) dX6_odds_41 rfl rfl ?_
        refine go_iload_n (pc' := 43) dX6_odds_42 rfl rfl ?_
        refine go_cSl2 (pc' := 46) (M' := mX6_ways) (d' := 1) dX6_odds_43 rfl csRX6_218 (by decide) rfl (Nat.le_of_ble_eq_true rfl) ?_
        refine tX6_ways hn8 hc ?_
        rw [wy1]
        refine go_lload (pc' := 48) dX6_odds_46 rfl rfl ?_
        refine go_iload_n (pc' := 49) dX6_odds_48 rfl rfl ?_
        refine go_cSl2 (pc' := 52) (M' := mX6_power) (d' := 1) dX6_odds_49 rfl csRX6_222 (by decide) rfl (Nat.le_of_ble_eq_true rfl) ?_
        refine tX6_power (by omega) ?_
        rw [show (1 : Int64) = nL 1 from rfl, pwF_nL ch c 1, Nat.one_mul]
        refine go_lmul (pc' := 53) dX6_odds_52 rfl ?_
        rw [nL_mul]
        refine go_ldc2 (pc' := 56) dX6_odds_53 rfl clRX6_226 ?_
        refine go_lload (pc' := 58) dX6_odds_56 rfl rfl ?_
        refine go_lsub (pc' := 59) dX6_odds_58 rfl ?_
        rw [show (100 : Int64) = nL 100 from rfl, ← Int64.ofNat_sub 100 ch (by omega)]
        refine go_iload_n (pc' := 60) dX6_odds_59 rfl rfl ?_
        refine go_iload_n (pc' := 61) dX6_odds_60 rfl rfl ?_
        refine go_isub (pc' := 62) dX6_odds_61 rfl ?_
        rw [pk_sub hc]
        refine go_cSl2 (pc' := 65) (M' := mX6_power) (d' := 1) dX6_odds_62 rfl csRX6_222 (by decide) rfl (Nat.le_of_ble_eq_true rfl) ?_
        refine tX6_power (by omega) ?_
        rw [show (1 : Int64) = nL 1 from rfl, pwF_nL (100 - ch) (n8 - c) 1, Nat.one_mul]
        refine go_lmul (pc' := 66) dX6_odds_65 rfl ?_
        rw [nL_mul]
        refine go_lstore (pc' := 68) dX6_odds_66 rfl (by decide) rfl ?_
        refine go_lload (pc' := 70) dX6_odds_68 rfl rfl ?_
        refine go_ldc2 (pc' := 73) dX6_odds_70 rfl clRX6_226 ?_
        refine go_iload_n (pc' := 74) dX6_odds_73 rfl rfl ?_
        refine go_cSl2 (pc' := 77) (M' := mX6_power) (d' := 1) dX6_odds_74 rfl csRX6_222 (by decide) rfl (Nat.le_of_ble_eq_true rfl) ?_
        refine tX6_power (by omega) ?_
        rw [show (100 : Int64) = nL 100 from rfl]
        rw [show (1 : Int64) = nL 1 from rfl, pwF_nL 100 n8 1, Nat.one_mul]
        refine go_iload_n (pc' := 78) dX6_odds_77 rfl rfl ?_
        refine go_cSl3 (pc' := 81) (M' := mX6_partOfFraction) (d' := 2) dX6_odds_78 rfl csRX6_228 (by decide) rfl (Nat.le_of_ble_eq_true rfl) ?_
        refine tX6_partOfFraction hab hb16 hb0 ?_
        refine go_lret dX6_odds_81 rfl ?_
        exact k2 ⟨h_6, h_14, h_22⟩
      · have h_22 := pg_b0 h_22
        refine go_ldc2 (pc' := 28) dX6_odds_25 rfl clRX6_216 ?_
        refine go_lret dX6_odds_28 rfl ?_
        exact k1 (fun q => h_22 q.2.2)

set_option maxHeartbeats 4000000 in
set_option maxRecDepth 20000 in
theorem lmwy {sc : pg_Sc} {Q : pg_Q} {n c : Nat} {x : Int32} {g : pg_S} (hn : n ≤ 8) (hc : c ≤ n) : ∀ (m : Nat) (i : Nat) (r : Int64), i + m = c → pg_Go sc 2 mX7_odds 66 [(0, .ref 59), (1, .int (nI n)), (2, .int (nI c)), (3, .int x), (4, .long (wyF n m i r))] [] g Q → pg_Go sc 2 mX7_odds 38 [(0, .ref 59), (1, .int (nI n)), (2, .int (nI c)), (3, .int x), (4, .long r), (6, .int (nI i))] [] g Q := by
  intro m
  induction m with
  | zero =>
    intro i r hi k
    obtain rfl : i = c := by omega
    refine go_iload (pc' := 40) dX7_odds_38 rfl rfl ?_
    refine go_iload_n (pc' := 41) dX7_odds_40 rfl rfl ?_
    refine go_icmp_ge (pc' := 44) (tgt := 66) dX7_odds_41 rfl (by decide) (fun h_41 => ?_) (fun h_41 => absurd (Int32.le_refl _) h_41)
    refine go_sub [0, 1, 2, 3, 4] rfl ?_
    exact k
  | succ m ih =>
    intro i r hi k
    have hin : i < c := by omega
    refine go_iload (pc' := 40) dX7_odds_38 rfl rfl ?_
    refine go_iload_n (pc' := 41) dX7_odds_40 rfl rfl ?_
    refine go_icmp_ge (pc' := 44) (tgt := 66) dX7_odds_41 rfl (by decide) (fun h_41 => absurd h_41 (nI_ge hin (by omega))) (fun h_41 => ?_)
    refine go_lload (pc' := 46) dX7_odds_44 rfl rfl ?_
    refine go_iload_n (pc' := 47) dX7_odds_46 rfl rfl ?_
    refine go_iload (pc' := 49) dX7_odds_47 rfl rfl ?_
    refine go_isub (pc' := 50) dX7_odds_49 rfl ?_
    rw [pk_sub (by omega)]
    refine go_i2l (pc' := 51) dX7_odds_50 rfl ?_
    rw [nL_i2l (by omega)]
    refine go_lmul (pc' := 52) dX7_odds_51 rfl ?_
    refine go_iload (pc' := 54) dX7_odds_52 rfl rfl ?_
    refine go_iconst (pc' := 55) 1 dX7_odds_54 rfl (by decide) ?_
    refine go_iadd (pc' := 56) dX7_odds_55 rfl ?_
    rw [nI_1]
    refine go_i2l (pc' := 57) dX7_odds_56 rfl ?_
    rw [nL_i2l (by omega)]
    refine go_ldiv (pc' := 58) dX7_odds_57 rfl (fun q => by have := (nL_eq0 (by omega)).mp q; omega) ?_
    refine go_lstore (pc' := 60) dX7_odds_58 rfl (by decide) rfl ?_
    refine go_iinc (pc' := 63) _ dX7_odds_60 rfl rfl (pg_inc _) (by decide) rfl ?_
    refine go_goto (pc' := 38) dX7_odds_63 (by decide) ?_
    exact ih (i + 1) _ (by omega) k

set_option maxHeartbeats 4000000 in
set_option maxRecDepth 20000 in
theorem tX7_odds {sc : pg_Sc} {g : pg_S} {K : Int64 → pg_S → Prop} {T : TW} {n : Nat} {a b x : Int32} (h : MR g 60 T n) (wf : WF T n) (k1 : ¬ (UP a 8 ∧ UP b a ∧ UP x 1) → K (-1) g) (k2 : UP a 8 ∧ UP b a ∧ UP x 1 → K (odF (abN (pn a) (pn b) (pn (T 0 3))) (100 ^ pn a) x) g) : pg_Cal sc 2 mX7_odds [.ref 59, .int a, .int b, .int x] g (pg_kl K) := by
  refine pg_Cal.of rfl (Nat.le_of_ble_eq_true rfl) rfl ?_
  have hn := wf.1
  refine go_iload_n (pc' := 1) dX7_odds_0 rfl rfl ?_
  refine go_iconst (pc' := 2) 0 dX7_odds_1 rfl (by decide) ?_
  refine go_bipush (pc' := 4) 8 dX7_odds_2 rfl (by decide) ?_
  refine go_cSi3 (pc' := 7) (M' := mX7_in) (d' := 1) dX7_odds_4 rfl csRX7_60 (by decide) rfl (Nat.le_of_ble_eq_true rfl) ?_
  refine tX7_in ?_
  refine go_if_eq (pc' := 10) (tgt := 28) dX7_odds_7 rfl (by decide) (fun h_7 => ?_) (fun h_7 => ?_)
  · have h_7 := pg_b0 h_7
    refine go_ldc2 (pc' := 31) dX7_odds_28 rfl clRX7_100 ?_
    refine go_lret dX7_odds_31 rfl ?_
    exact k1 (fun q => h_7 q.1)
  · have h_7 := pg_b1 h_7
    obtain ⟨n8, hn8, rfl⟩ := up_ex 8 rfl (by decide) h_7
    have en8 : pn (nI n8) = n8 := nI_clamp (by omega)
    refine go_iload_n (pc' := 11) dX7_odds_10 rfl rfl ?_
    refine go_iconst (pc' := 12) 0 dX7_odds_11 rfl (by decide) ?_
    refine go_iload_n (pc' := 13) dX7_odds_12 rfl rfl ?_
    refine go_cSi3 (pc' := 16) (M' := mX7_in) (d' := 1) dX7_odds_13 rfl csRX7_60 (by decide) rfl (Nat.le_of_ble_eq_true rfl) ?_
    refine tX7_in ?_
    refine go_if_eq (pc' := 19) (tgt := 28) dX7_odds_16 rfl (by decide) (fun h_16 => ?_) (fun h_16 => ?_)
    · have h_16 := pg_b0 h_16
      refine go_ldc2 (pc' := 31) dX7_odds_28 rfl clRX7_100 ?_
      refine go_lret dX7_odds_31 rfl ?_
      exact k1 (fun q => h_16 q.2.1)
    · have h_16 := pg_b1 h_16
      obtain ⟨c, hc, rfl⟩ := up_ex n8 rfl (by omega) h_16
      have ec : pn (nI c) = c := nI_clamp (by omega)
      refine go_iload_n (pc' := 20) dX7_odds_19 rfl rfl ?_
      refine go_iconst (pc' := 21) 0 dX7_odds_20 rfl (by decide) ?_
      refine go_iconst (pc' := 22) 1 dX7_odds_21 rfl (by decide) ?_
      refine go_cSi3 (pc' := 25) (M' := mX7_in) (d' := 1) dX7_odds_22 rfl csRX7_60 (by decide) rfl (Nat.le_of_ble_eq_true rfl) ?_
      refine tX7_in ?_
      refine go_if_ne (pc' := 28) (tgt := 32) dX7_odds_25 rfl (by decide) (fun h_25 => ?_) (fun h_25 => ?_)
      · have h_25 := pg_b1 h_25
        obtain ⟨ch, hch, ech⟩ := wf.2.2.1
        have ecn : pn (T 0 3) = ch := by rw [ech]; exact nI_clamp (by omega)
        rw [en8, ec, ecn] at k2
        obtain ⟨wy1, wy2⟩ := wy_eq n8 (by omega) c (by omega)
        have hb16 : 100 ^ n8 ≤ 10 ^ 16 := Nat.le_trans (Nat.pow_le_pow_right (by omega) hn8) (by decide)
        have hb0 : 0 < 100 ^ n8 := Nat.pow_pos (by omega)
        have hab := ab_le hn8 hc (show ch ≤ 100 by omega)
        refine go_lconst (pc' := 33) 1 dX7_odds_32 rfl (by decide) ?_
        refine go_lstore (pc' := 35) dX7_odds_33 rfl (by decide) rfl ?_
        refine go_iconst (pc' := 36) 0 dX7_odds_35 rfl (by decide) ?_
        refine go_istore (pc' := 38) dX7_odds_36 rfl (by decide) rfl ?_
        refine lmwy hn8 hc c 0 1 (by omega) ?_
        rw [wy1]
        refine go_lload (pc' := 68) dX7_odds_66 rfl rfl ?_
        refine go_aload_n (pc' := 69) dX7_odds_68 rfl rfl ?_
        refine go_getR (pc' := 72) dX7_odds_69 rfl flRX7_7 rfl rfl ?_
        refine go_iconst (pc' := 73) 3 dX7_odds_72 rfl (by decide) ?_
        refine go_iald (pc' := 74) 3 dX7_odds_73 rfl rfl rfl (by decide) (by decide) ?_
        rw [m60_law h (by decide), ech]
        refine go_iload_n (pc' := 75) dX7_odds_74 rfl rfl ?_
        refine go_cSl2 (pc' := 78) (M' := mX7_powerOf) (d' := 1) dX7_odds_75 rfl csRX7_299 (by decide) rfl (Nat.le_of_ble_eq_true rfl) ?_
        refine tX7_powerOf (by omega) ?_
        rw [nL_i2l (by omega)]
        rw [show (1 : Int64) = nL 1 from rfl, pwF_nL ch c 1, Nat.one_mul]
        refine go_lmul (pc' := 79) dX7_odds_78 rfl ?_
        rw [nL_mul]
        refine go_bipush (pc' := 81) 100 dX7_odds_79 rfl (by decide) ?_
        refine go_aload_n (pc' := 82) dX7_odds_81 rfl rfl ?_
        refine go_getR (pc' := 85) dX7_odds_82 rfl flRX7_7 rfl rfl ?_
        refine go_iconst (pc' := 86) 3 dX7_odds_85 rfl (by decide) ?_
        refine go_iald (pc' := 87) 3 dX7_odds_86 rfl rfl rfl (by decide) (by decide) ?_
        rw [m60_law h (by decide), ech]
        refine go_isub (pc' := 88) dX7_odds_87 rfl ?_
        rw [show (100 : Int32) = nI 100 from rfl, pk_sub (show ch ≤ 100 by omega)]
        refine go_iload_n (pc' := 89) dX7_odds_88 rfl rfl ?_
        refine go_iload_n (pc' := 90) dX7_odds_89 rfl rfl ?_
        refine go_isub (pc' := 91) dX7_odds_90 rfl ?_
        rw [pk_sub hc]
        refine go_cSl2 (pc' := 94) (M' := mX7_powerOf) (d' := 1) dX7_odds_91 rfl csRX7_299 (by decide) rfl (Nat.le_of_ble_eq_true rfl) ?_
        refine tX7_powerOf (by omega) ?_
        rw [nL_i2l (by omega)]
        rw [show (1 : Int64) = nL 1 from rfl, pwF_nL (100 - ch) (n8 - c) 1, Nat.one_mul]
        refine go_lmul (pc' := 95) dX7_odds_94 rfl ?_
        rw [nL_mul]
        refine go_bipush (pc' := 97) 100 dX7_odds_95 rfl (by decide) ?_
        refine go_iload_n (pc' := 98) dX7_odds_97 rfl rfl ?_
        refine go_cSl2 (pc' := 101) (M' := mX7_powerOf) (d' := 1) dX7_odds_98 rfl csRX7_299 (by decide) rfl (Nat.le_of_ble_eq_true rfl) ?_
        refine tX7_powerOf (by omega) ?_
        rw [show ((100 : Int32)).toInt64 = nL 100 from rfl]
        rw [show (1 : Int64) = nL 1 from rfl, pwF_nL 100 n8 1, Nat.one_mul]
        refine go_iload_n (pc' := 102) dX7_odds_101 rfl rfl ?_
        refine go_cSl3 (pc' := 105) (M' := mX7_lowest) (d' := 1) dX7_odds_102 rfl csRX7_303 (by decide) rfl (Nat.le_of_ble_eq_true rfl) ?_
        refine tX7_lowest hab hb16 hb0 ?_
        refine go_lret dX7_odds_105 rfl ?_
        exact k2 ⟨h_7, h_16, h_25⟩
      · have h_25 := pg_b0 h_25
        refine go_ldc2 (pc' := 31) dX7_odds_28 rfl clRX7_100 ?_
        refine go_lret dX7_odds_31 rfl ?_
        exact k1 (fun q => h_25 q.2.2)

set_option maxHeartbeats 4000000 in
set_option maxRecDepth 20000 in
theorem tX6_hope {sc : pg_Sc} {g : pg_S} {K : Int64 → pg_S → Prop} {T : TW} {n : Nat} {a x : Int32} (h : CR g 1 T n) (wf : WF T n) (k1 : ¬ (UP a 99 ∧ UP x 1) → K (-1) g) (k2 : UP a 99 ∧ UP x 1 → K (odF (pn a * pn (T 0 3)) 100 x) g) : pg_Cal sc 3 mX6_hope [.ref 0, .int a, .int x] g (pg_kl K) := by
  refine pg_Cal.of rfl (Nat.le_of_ble_eq_true rfl) rfl ?_
  have hn := wf.1
  refine go_iload_n (pc' := 1) dX6_hope_0 rfl rfl ?_
  refine go_bipush (pc' := 3) 99 dX6_hope_1 rfl (by decide) ?_
  refine go_cSi2 (pc' := 6) (M' := mX6_upTo) (d' := 1) dX6_hope_3 rfl csRX6_97 (by decide) rfl (Nat.le_of_ble_eq_true rfl) ?_
  refine tX6_upTo ?_
  refine go_if_eq (pc' := 9) (tgt := 17) dX6_hope_6 rfl (by decide) (fun h_6 => ?_) (fun h_6 => ?_)
  · have h_6 := pg_b0 h_6
    refine go_ldc2 (pc' := 20) dX6_hope_17 rfl clRX6_216 ?_
    refine go_lret dX6_hope_20 rfl ?_
    exact k1 (fun q => h_6 q.1)
  · have h_6 := pg_b1 h_6
    obtain ⟨n8, hn8, rfl⟩ := up_ex 99 rfl (by decide) h_6
    have en8 : pn (nI n8) = n8 := nI_clamp (by omega)
    obtain ⟨ch, hch, ech⟩ := wf.2.2.1
    have ecn : pn (T 0 3) = ch := by rw [ech]; exact nI_clamp (by omega)
    rw [en8, ecn] at k2
    have hab : n8 * ch < 2 ^ 63 := Nat.lt_of_le_of_lt (Nat.mul_le_mul hn8 hch) (by decide)
    refine go_iload_n (pc' := 10) dX6_hope_9 rfl rfl ?_
    refine go_iconst (pc' := 11) 1 dX6_hope_10 rfl (by decide) ?_
    refine go_cSi2 (pc' := 14) (M' := mX6_upTo) (d' := 1) dX6_hope_11 rfl csRX6_97 (by decide) rfl (Nat.le_of_ble_eq_true rfl) ?_
    refine tX6_upTo ?_
    refine go_if_ne (pc' := 17) (tgt := 21) dX6_hope_14 rfl (by decide) (fun h_14 => ?_) (fun h_14 => ?_)
    · have h_14 := pg_b1 h_14
      refine go_iload_n (pc' := 22) dX6_hope_21 rfl rfl ?_
      refine go_i2l (pc' := 23) dX6_hope_22 rfl ?_
      rw [nL_i2l (by omega)]
      refine go_aload_n (pc' := 24) dX6_hope_23 rfl rfl ?_
      refine go_getR (pc' := 27) dX6_hope_24 rfl flRX6_10 rfl rfl ?_
      refine go_getR (pc' := 30) dX6_hope_27 rfl flRX6_104 rfl rfl ?_
      refine go_iconst (pc' := 31) 3 dX6_hope_30 rfl (by decide) ?_
      refine go_iald (pc' := 32) 3 dX6_hope_31 rfl rfl rfl (by decide) (by decide) ?_
      rw [c1_law h (by decide), ech]
      refine go_i2l (pc' := 33) dX6_hope_32 rfl ?_
      rw [nL_i2l (by omega)]
      refine go_lmul (pc' := 34) dX6_hope_33 rfl ?_
      rw [nL_mul]
      refine go_ldc2 (pc' := 37) dX6_hope_34 rfl clRX6_226 ?_
      rw [show (100 : Int64) = nL 100 from rfl]
      refine go_iload_n (pc' := 38) dX6_hope_37 rfl rfl ?_
      refine go_cSl3 (pc' := 41) (M' := mX6_partOfFraction) (d' := 2) dX6_hope_38 rfl csRX6_228 (by decide) rfl (Nat.le_of_ble_eq_true rfl) ?_
      refine tX6_partOfFraction hab (by decide) (by decide) ?_
      refine go_lret dX6_hope_41 rfl ?_
      exact k2 ⟨h_6, h_14⟩
    · have h_14 := pg_b0 h_14
      refine go_ldc2 (pc' := 20) dX6_hope_17 rfl clRX6_216 ?_
      refine go_lret dX6_hope_20 rfl ?_
      exact k1 (fun q => h_14 q.2)

set_option maxHeartbeats 4000000 in
set_option maxRecDepth 20000 in
theorem tX7_hope {sc : pg_Sc} {g : pg_S} {K : Int64 → pg_S → Prop} {T : TW} {n : Nat} {a x : Int32} (h : MR g 60 T n) (wf : WF T n) (k1 : ¬ (UP a 99 ∧ UP x 1) → K (-1) g) (k2 : UP a 99 ∧ UP x 1 → K (odF (pn a * pn (T 0 3)) 100 x) g) : pg_Cal sc 2 mX7_hope [.ref 59, .int a, .int x] g (pg_kl K) := by
  refine pg_Cal.of rfl (Nat.le_of_ble_eq_true rfl) rfl ?_
  have hn := wf.1
  refine go_iload_n (pc' := 1) dX7_hope_0 rfl rfl ?_
  refine go_iconst (pc' := 2) 0 dX7_hope_1 rfl (by decide) ?_
  refine go_bipush (pc' := 4) 99 dX7_hope_2 rfl (by decide) ?_
  refine go_cSi3 (pc' := 7) (M' := mX7_in) (d' := 1) dX7_hope_4 rfl csRX7_60 (by decide) rfl (Nat.le_of_ble_eq_true rfl) ?_
  refine tX7_in ?_
  refine go_if_eq (pc' := 10) (tgt := 39) dX7_hope_7 rfl (by decide) (fun h_7 => ?_) (fun h_7 => ?_)
  · have h_7 := pg_b0 h_7
    refine go_ldc2 (pc' := 42) dX7_hope_39 rfl clRX7_100 ?_
    refine go_lret dX7_hope_42 rfl ?_
    exact k1 (fun q => h_7 q.1)
  · have h_7 := pg_b1 h_7
    obtain ⟨n8, hn8, rfl⟩ := up_ex 99 rfl (by decide) h_7
    have en8 : pn (nI n8) = n8 := nI_clamp (by omega)
    obtain ⟨ch, hch, ech⟩ := wf.2.2.1
    have ecn : pn (T 0 3) = ch := by rw [ech]; exact nI_clamp (by omega)
    rw [en8, ecn] at k2
    have hab : n8 * ch < 2 ^ 63 := Nat.lt_of_le_of_lt (Nat.mul_le_mul hn8 hch) (by decide)
    refine go_iload_n (pc' := 11) dX7_hope_10 rfl rfl ?_
    refine go_iconst (pc' := 12) 0 dX7_hope_11 rfl (by decide) ?_
    refine go_iconst (pc' := 13) 1 dX7_hope_12 rfl (by decide) ?_
    refine go_cSi3 (pc' := 16) (M' := mX7_in) (d' := 1) dX7_hope_13 rfl csRX7_60 (by decide) rfl (Nat.le_of_ble_eq_true rfl) ?_
    refine tX7_in ?_
    refine go_if_eq (pc' := 19) (tgt := 39) dX7_hope_16 rfl (by decide) (fun h_16 => ?_) (fun h_16 => ?_)
    · have h_16 := pg_b0 h_16
      refine go_ldc2 (pc' := 42) dX7_hope_39 rfl clRX7_100 ?_
      refine go_lret dX7_hope_42 rfl ?_
      exact k1 (fun q => h_16 q.2)
    · have h_16 := pg_b1 h_16
      refine go_iload_n (pc' := 20) dX7_hope_19 rfl rfl ?_
      refine go_i2l (pc' := 21) dX7_hope_20 rfl ?_
      rw [nL_i2l (by omega)]
      refine go_aload_n (pc' := 22) dX7_hope_21 rfl rfl ?_
      refine go_getR (pc' := 25) dX7_hope_22 rfl flRX7_7 rfl rfl ?_
      refine go_iconst (pc' := 26) 3 dX7_hope_25 rfl (by decide) ?_
      refine go_iald (pc' := 27) 3 dX7_hope_26 rfl rfl rfl (by decide) (by decide) ?_
      rw [m60_law h (by decide), ech]
      refine go_i2l (pc' := 28) dX7_hope_27 rfl ?_
      rw [nL_i2l (by omega)]
      refine go_lmul (pc' := 29) dX7_hope_28 rfl ?_
      rw [nL_mul]
      refine go_ldc2 (pc' := 32) dX7_hope_29 rfl clRX7_307 ?_
      rw [show (100 : Int64) = nL 100 from rfl]
      refine go_iload_n (pc' := 33) dX7_hope_32 rfl rfl ?_
      refine go_cSl3 (pc' := 36) (M' := mX7_lowest) (d' := 1) dX7_hope_33 rfl csRX7_303 (by decide) rfl (Nat.le_of_ble_eq_true rfl) ?_
      refine tX7_lowest hab (by decide) (by decide) ?_
      refine go_goto (pc' := 42) dX7_hope_36 (by decide) ?_
      refine go_lret dX7_hope_42 rfl ?_
      exact k2 ⟨h_7, h_16⟩

