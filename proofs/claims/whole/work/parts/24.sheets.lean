theorem sheet_sh (s : Nat) (h : s < 4) : pg_sh[45 + 2 * s]? = some (.inr (2, [46 + 2 * s + 2, 0, 0])) := by
  rcases (show s = 0 ∨ s = 1 ∨ s = 2 ∨ s = 3 by omega) with rfl | rfl | rfl | rfl <;> rfl
theorem items_sh (s : Nat) (h : s < 4) : pg_sh[46 + 2 * s]? = some (.inl (0, 40, [])) := by
  rcases (show s = 0 ∨ s = 1 ∨ s = 2 ∨ s = 3 by omega) with rfl | rfl | rfl | rfl <;> rfl
theorem sheet_rs (s : Nat) (h : s < 4) : ([45, 47, 49, 51] : List Nat)[s]? = some (45 + 2 * s) := by
  rcases (show s = 0 ∨ s = 1 ∨ s = 2 ∨ s = 3 by omega) with rfl | rfl | rfl | rfl <;> rfl
theorem shelf_sh (s : Nat) (h : s < 4) : pg_sh[54 + s]? = some (.inr (3, [0, 0, 0, 0])) := by
  rcases (show s = 0 ∨ s = 1 ∨ s = 2 ∨ s = 3 by omega) with rfl | rfl | rfl | rfl <;> rfl
theorem shelf_rs (s : Nat) (h : s < 4) : ([54, 55, 56, 57] : List Nat)[s]? = some (54 + s) := by
  rcases (show s = 0 ∨ s = 1 ∨ s = 2 ∨ s = 3 by omega) with rfl | rfl | rfl | rfl <;> rfl
def narF (so v : Int32) : Int32 := if so = 0 then v.toInt8.toInt32 else if so = 1 then v.toInt16.toInt32 else v
def itemA (so ct v x y z : Int32) : Int32 := if ¬ (UP x 3 ∧ UP y 3) then -1 else if so = -1 then -11 else if ¬ so = y then -13 else if ¬ (0 ≤ z ∧ z < ct) then -12 else v
theorem itemA_1 {so ct v x y z : Int32} (h : ¬ (UP x 3 ∧ UP y 3)) : itemA so ct v x y z = -1 := if_pos h
theorem itemA_11 {so ct v x y z : Int32} (h : UP x 3 ∧ UP y 3) (h2 : so = -1) : itemA so ct v x y z = -11 := by unfold itemA; rw [if_neg (fun q => q h), if_pos h2]
theorem itemA_13 {so ct v x y z : Int32} (h : UP x 3 ∧ UP y 3) (h2 : ¬ so = -1) (h3 : ¬ so = y) : itemA so ct v x y z = -13 := by unfold itemA; rw [if_neg (fun q => q h), if_neg h2, if_pos h3]
theorem itemA_12 {so ct v x y z : Int32} (h : UP x 3 ∧ UP y 3) (h2 : ¬ so = -1) (h3 : so = y) (h4 : ¬ (0 ≤ z ∧ z < ct)) : itemA so ct v x y z = -12 := by unfold itemA; rw [if_neg (fun q => q h), if_neg h2, if_neg (fun q => q h3), if_pos h4]
theorem itemA_v {so ct v x y z : Int32} (h : UP x 3 ∧ UP y 3) (h2 : ¬ so = -1) (h3 : so = y) (h4 : 0 ≤ z ∧ z < ct) : itemA so ct v x y z = v := by unfold itemA; rw [if_neg (fun q => q h), if_neg h2, if_neg (fun q => q h3), if_neg (fun q => q h4)]
theorem sort_lt {so : Int32} (h : ∃ k, k ≤ 4 ∧ so = nI k - 1) : so < 0 ↔ so = -1 := by
  obtain ⟨k, hk, e⟩ := h
  rw [e]
  exact (by decide +kernel : ∀ k, k ≤ 4 → (nI k - 1 < 0 ↔ nI k - 1 = -1)) k hk
theorem ix40 (s i : Nat) : (40 : Int32) * nI s + nI i = nI (40 * s + i) := by rw [show (40 : Int32) = nI 40 from rfl, pk_mul, nI_add]
theorem pg_lk2 (a b x : Int32) : x = a ∨ x = b ∨ (¬ x = a ∧ ¬ x = b) := by
  by_cases h : x = a
  · exact Or.inl h
  · by_cases h2 : x = b
    · exact Or.inr (Or.inl h2)
    · exact Or.inr (Or.inr ⟨h, h2⟩)
theorem nar_off {x : Int32} (h : ¬ x = 0 ∧ ¬ x = 1) : Op.lookupswitch.offset [(0, 28), (1, 31)] 34 x.toInt = 34 := by
  have h0 : x.toInt ≠ 0 := fun e => h.1 (Int32.toInt_inj.mp (e.trans (by decide)))
  have h1 : x.toInt ≠ 1 := fun e => h.2 (Int32.toInt_inj.mp (e.trans (by decide)))
  simp [Op.lookupswitch.offset, List.find?, Ne.symm h0, Ne.symm h1, h0, h1]
set_option maxHeartbeats 4000000 in
set_option maxRecDepth 20000 in
theorem tX6_isSheet {sc : pg_Sc} {g : pg_S} {K : Int32 → pg_S → Prop} {x : Int32}  (k : K (if UP x 3 then 1 else 0) g) : pg_Cal sc 2 mX6_isSheet [.int x] g (pg_ki K) := by
  refine pg_Cal.of rfl (Nat.le_of_ble_eq_true rfl) rfl ?_
  refine go_iload_n (pc' := 1) dX6_isSheet_0 rfl rfl ?_
  refine go_iconst (pc' := 2) 3 dX6_isSheet_1 rfl (by decide) ?_
  refine go_cSi2 (pc' := 5) (M' := mX6_upTo) (d' := 1) dX6_isSheet_2 rfl csRX6_97 (by decide) rfl (Nat.le_of_ble_eq_true rfl) ?_
  refine tX6_upTo ?_
  refine go_iret dX6_isSheet_5 pg_narB ?_
  exact k

set_option maxHeartbeats 4000000 in
set_option maxRecDepth 20000 in
theorem tX6_isShelf {sc : pg_Sc} {g : pg_S} {K : Int32 → pg_S → Prop} {x : Int32}  (k : K (if UP x 3 then 1 else 0) g) : pg_Cal sc 2 mX6_isShelf [.int x] g (pg_ki K) := by
  refine pg_Cal.of rfl (Nat.le_of_ble_eq_true rfl) rfl ?_
  refine go_iload_n (pc' := 1) dX6_isShelf_0 rfl rfl ?_
  refine go_iconst (pc' := 2) 3 dX6_isShelf_1 rfl (by decide) ?_
  refine go_cSi2 (pc' := 5) (M' := mX6_upTo) (d' := 1) dX6_isShelf_2 rfl csRX6_97 (by decide) rfl (Nat.le_of_ble_eq_true rfl) ?_
  refine tX6_upTo ?_
  refine go_iret dX6_isShelf_5 pg_narB ?_
  exact k

set_option maxHeartbeats 4000000 in
set_option maxRecDepth 20000 in
theorem tX7_isShelf {sc : pg_Sc} {g : pg_S} {K : Int32 → pg_S → Prop} {x : Int32}  (k : K (if UP x 3 then 1 else 0) g) : pg_Cal sc 2 mX7_isShelf [.int x] g (pg_ki K) := by
  refine pg_Cal.of rfl (Nat.le_of_ble_eq_true rfl) rfl ?_
  refine go_iload_n (pc' := 1) dX7_isShelf_0 rfl rfl ?_
  refine go_iconst (pc' := 2) 0 dX7_isShelf_1 rfl (by decide) ?_
  refine go_iconst (pc' := 3) 3 dX7_isShelf_2 rfl (by decide) ?_
  refine go_cSi3 (pc' := 6) (M' := mX7_in) (d' := 1) dX7_isShelf_3 rfl csRX7_60 (by decide) rfl (Nat.le_of_ble_eq_true rfl) ?_
  refine tX7_in ?_
  refine go_iret dX7_isShelf_6 pg_narB ?_
  exact k

set_option maxHeartbeats 4000000 in
set_option maxRecDepth 20000 in
theorem tX2_has {sc : pg_Sc} {g : pg_S} {K : Int32 → pg_S → Prop} {s : Nat} {x : Int32} (hs4 : s < 4) (k : K (if 0 ≤ x ∧ x < g.1 (45 + 2 * s) 2 then 1 else 0) g) : pg_Cal sc 1 mX2_has [.ref (45 + 2 * s), .int x] g (pg_ki K) := by
  refine pg_Cal.of rfl (Nat.le_of_ble_eq_true rfl) rfl ?_
  refine go_iload_n (pc' := 1) dX2_has_0 rfl rfl ?_
  refine go_if_lt (pc' := 4) (tgt := 16) dX2_has_1 rfl (by decide) (fun h_1 => ?_) (fun h_1 => ?_)
  · refine go_iconst (pc' := 17) 0 dX2_has_16 rfl (by decide) ?_
    refine go_iret dX2_has_17 (by first | exact pg_nar1 | exact pg_nar0 | exact pg_narB) ?_
    rw [if_neg (fun q => pg_lt_nle h_1 q.1)] at k
    exact k
  · refine go_iload_n (pc' := 5) dX2_has_4 rfl rfl ?_
    refine go_aload_n (pc' := 6) dX2_has_5 rfl rfl ?_
    refine go_getI (pc' := 9) dX2_has_6 rfl flRX2_19 (sheet_sh s hs4) rfl ?_
    refine go_icmp_ge (pc' := 12) (tgt := 16) dX2_has_9 rfl (by decide) (fun h_9 => ?_) (fun h_9 => ?_)
    · refine go_iconst (pc' := 17) 0 dX2_has_16 rfl (by decide) ?_
      refine go_iret dX2_has_17 (by first | exact pg_nar1 | exact pg_nar0 | exact pg_narB) ?_
      rw [if_neg (fun q => pg_lt_nle q.2 h_9)] at k
      exact k
    · refine go_iconst (pc' := 13) 1 dX2_has_12 rfl (by decide) ?_
      refine go_goto (pc' := 17) dX2_has_13 (by decide) ?_
      refine go_iret dX2_has_17 (by first | exact pg_nar1 | exact pg_nar0 | exact pg_narB) ?_
      rw [if_pos ⟨pg_nlt_le h_1, pg_nle_lt h_9⟩] at k
      exact k

set_option maxHeartbeats 4000000 in
set_option maxRecDepth 20000 in
theorem tX2_narrowed {sc : pg_Sc} {g : pg_S} {K : Int32 → pg_S → Prop} {s : Nat} {v : Int32} (hs4 : s < 4) (k : K (narF (g.1 (45 + 2 * s) 1) v) g) : pg_Cal sc 1 mX2_narrowed [.ref (45 + 2 * s), .int v] g (pg_ki K) := by
  refine pg_Cal.of rfl (Nat.le_of_ble_eq_true rfl) rfl ?_
  refine go_aload_n (pc' := 1) dX2_narrowed_0 rfl rfl ?_
  refine go_getI (pc' := 4) dX2_narrowed_1 rfl flRX2_15 (sheet_sh s hs4) rfl ?_
  refine go_xcase _ (pg_lk2 0 1) (fun h_4 => ?_)
  rcases h_4 with h_4 | h_4 | h_4
  · refine go_lookup (pc' := 32) (off := 28) dX2_narrowed_4 (by decide) (by rw [h_4]; decide) (by decide) ?_
    refine go_iload_n (pc' := 33) dX2_narrowed_32 rfl rfl ?_
    refine go_i2b (pc' := 34) dX2_narrowed_33 rfl ?_
    refine go_iret dX2_narrowed_34 (pg_narI _) ?_
    unfold narF at k
    rw [if_pos h_4] at k
    exact k
  · refine go_lookup (pc' := 35) (off := 31) dX2_narrowed_4 (by decide) (by rw [h_4]; decide) (by decide) ?_
    refine go_iload_n (pc' := 36) dX2_narrowed_35 rfl rfl ?_
    refine go_i2s (pc' := 37) dX2_narrowed_36 rfl ?_
    refine go_iret dX2_narrowed_37 (pg_narI _) ?_
    unfold narF at k
    rw [if_neg (by rw [h_4]; decide), if_pos h_4] at k
    exact k
  · refine go_lookup (pc' := 38) (off := 34) dX2_narrowed_4 (by decide) (nar_off h_4) (by decide) ?_
    refine go_iload_n (pc' := 39) dX2_narrowed_38 rfl rfl ?_
    refine go_iret dX2_narrowed_39 (pg_narI _) ?_
    unfold narF at k
    rw [if_neg h_4.1, if_neg h_4.2] at k
    exact k

set_option maxHeartbeats 4000000 in
set_option maxRecDepth 20000 in
theorem tX2_lose {sc : pg_Sc} {g : pg_S} {K : pg_S → Prop} {s : Nat} (hs4 : s < 4) (k : K (pg_ui (pg_ui g.1 (45 + 2 * s) 1 (-1)) (45 + 2 * s) 2 0, g.2)) : pg_Cal sc 1 mX2_lose [.ref (45 + 2 * s)] g (pg_kv K) := by
  refine pg_Cal.of rfl (Nat.le_of_ble_eq_true rfl) rfl ?_
  refine go_aload_n (pc' := 1) dX2_lose_0 rfl rfl ?_
  refine go_iconst (pc' := 2) (-1) dX2_lose_1 rfl (by decide) ?_
  refine go_putI (pc' := 5) dX2_lose_2 rfl flRX2_15 (sheet_sh s hs4) rfl ft2_1 ?_
  refine go_aload_n (pc' := 6) dX2_lose_5 rfl rfl ?_
  refine go_iconst (pc' := 7) 0 dX2_lose_6 rfl (by decide) ?_
  refine go_putI (pc' := 10) dX2_lose_7 rfl flRX2_19 (sheet_sh s hs4) rfl ft2_2 ?_
  refine go_vret dX2_lose_10 rfl ?_
  exact k

set_option maxHeartbeats 4000000 in
set_option maxRecDepth 20000 in
theorem lbeg {sc : pg_Sc} {K : pg_S → Prop} {s : Nat} {a b : Int32} (hs4 : s < 4) : ∀ (m : Nat) (i : Nat) (g : pg_S), i + m = 40 → (∀ j, j < i → g.1 (46 + 2 * s) j = 0) → (∀ g', (∀ j, j < 40 → g'.1 (46 + 2 * s) j = 0) → FR (46 + 2 * s) (47 + 2 * s) g g' → K g') → pg_Go sc 1 mX2_begin 12 [(0, .ref (45 + 2 * s)), (1, .int a), (2, .int b), (3, .int (nI i))] [] g (pg_kv K) := by
  intro m
  induction m with
  | zero =>
    intro i g hi hr k
    obtain rfl : i = 40 := by omega
    refine go_iload_n (pc' := 13) dX2_begin_12 rfl rfl ?_
    refine go_bipush (pc' := 15) 40 dX2_begin_13 rfl (by decide) ?_
    refine go_icmp_ge (pc' := 18) (tgt := 31) dX2_begin_15 rfl (by decide) (fun h_15 => ?_) (fun h_15 => absurd (Int32.le_refl _) h_15)
    refine go_vret dX2_begin_31 rfl ?_
    exact k _ hr FR.rf
  | succ m ih =>
    intro i g hi hr k
    have hin : i < 40 := by omega
    refine go_iload_n (pc' := 13) dX2_begin_12 rfl rfl ?_
    refine go_bipush (pc' := 15) 40 dX2_begin_13 rfl (by decide) ?_
    refine go_icmp_ge (pc' := 18) (tgt := 31) dX2_begin_15 rfl (by decide) (fun h_15 => absurd h_15 (nI_ge (b := 40) hin (by decide))) (fun h_15 => ?_)
    refine go_aload_n (pc' := 19) dX2_begin_18 rfl rfl ?_
    refine go_getR (pc' := 22) dX2_begin_19 rfl flRX2_9 (sheet_sh s hs4) rfl ?_
    refine go_iload_n (pc' := 23) dX2_begin_22 rfl rfl ?_
    refine go_iconst (pc' := 24) 0 dX2_begin_23 rfl (by decide) ?_
    refine go_iast (pc' := 25) i dX2_begin_24 rfl (items_sh s hs4) rfl (by omega) (by decide) ?_
    refine go_iinc (pc' := 28) _ dX2_begin_25 rfl rfl (pg_inc _) (by decide) rfl ?_
    refine go_goto (pc' := 12) dX2_begin_28 (by decide) ?_
    refine ih (i + 1) _ (by omega) (fun j hj => ?_) (fun g' z1 z2 => k g' z1 (FR.tr (FR.ui (by omega)) z2))
    show pg_ui g.1 (46 + 2 * s) i 0 (46 + 2 * s) j = 0
    rw [pg_ui_at]
    by_cases e : j = i
    · rw [if_pos ⟨rfl, e⟩]
    · rw [if_neg (fun q => e q.2)]; exact hr j (by omega)

set_option maxHeartbeats 4000000 in
set_option maxRecDepth 20000 in
theorem tX2_begin {sc : pg_Sc} {g : pg_S} {K : pg_S → Prop} {s : Nat} {a b : Int32} (hs4 : s < 4) (k : ∀ g', g'.1 (45 + 2 * s) 1 = a → g'.1 (45 + 2 * s) 2 = b → (∀ j, j < 40 → g'.1 (46 + 2 * s) j = 0) → FR (45 + 2 * s) (47 + 2 * s) g g' → K g') : pg_Cal sc 1 mX2_begin [.ref (45 + 2 * s), .int a, .int b] g (pg_kv K) := by
  refine pg_Cal.of rfl (Nat.le_of_ble_eq_true rfl) rfl ?_
  refine go_aload_n (pc' := 1) dX2_begin_0 rfl rfl ?_
  refine go_iload_n (pc' := 2) dX2_begin_1 rfl rfl ?_
  refine go_putI (pc' := 5) dX2_begin_2 rfl flRX2_15 (sheet_sh s hs4) rfl ft2_1 ?_
  refine go_aload_n (pc' := 6) dX2_begin_5 rfl rfl ?_
  refine go_iload_n (pc' := 7) dX2_begin_6 rfl rfl ?_
  refine go_putI (pc' := 10) dX2_begin_7 rfl flRX2_19 (sheet_sh s hs4) rfl ft2_2 ?_
  refine go_gen (fun g1 e1 => ?_)
  have f1 : FR (45 + 2 * s) (46 + 2 * s) g g1 := by rw [e1]; exact FR.tr (FR.ui (by omega)) (FR.ui (by omega))
  refine go_iconst (pc' := 11) 0 dX2_begin_10 rfl (by decide) ?_
  refine go_istore_n (pc' := 12) dX2_begin_11 rfl (by decide) rfl ?_
  refine lbeg hs4 40 0 g1 (by omega) (fun j hj => absurd hj (by omega)) (fun g2 z f2 => k g2 ?_ ?_ z (FR.tr (f1.wd (by omega) (by omega)) (f2.wd (by omega) (by omega))))
  · rw [f2.1 (45 + 2 * s) (by omega), e1]; simp [pg_ui_at]
  · rw [f2.1 (45 + 2 * s) (by omega), e1]; simp [pg_ui_at]

set_option maxHeartbeats 4000000 in
set_option maxRecDepth 20000 in
theorem tX6_item {sc : pg_Sc} {g : pg_S} {K : Int32 → pg_S → Prop} {x y z : Int32} (hS : ∀ s, s < 4 → ∃ c, c ≤ 40 ∧ g.1 (45 + 2 * s) 2 = nI c) (k : K (itemA (g.1 (45 + 2 * pn x) 1) (g.1 (45 + 2 * pn x) 2) (g.1 (46 + 2 * pn x) (pn z)) x y z) g) : pg_Cal sc 3 mX6_item [.ref 0, .int x, .int y, .int z] g (pg_ki K) := by
  refine pg_Cal.of rfl (Nat.le_of_ble_eq_true rfl) rfl ?_
  refine go_iload_n (pc' := 1) dX6_item_0 rfl rfl ?_
  refine go_cSi1 (pc' := 4) (M' := mX6_isSheet) (d' := 2) dX6_item_1 rfl csRX6_206 (by decide) rfl (Nat.le_of_ble_eq_true rfl) ?_
  refine tX6_isSheet ?_
  refine go_if_eq (pc' := 7) (tgt := 15) dX6_item_4 rfl (by decide) (fun h_4 => ?_) (fun h_4 => ?_)
  · have h_4 := pg_b0 h_4
    refine go_iconst (pc' := 16) (-1) dX6_item_15 rfl (by decide) ?_
    refine go_iret dX6_item_16 (pg_narI _) ?_
    rw [itemA_1 (fun q => h_4 q.1)] at k
    exact k
  · have h_4 := pg_b1 h_4
    obtain ⟨s, hs, rfl⟩ := up_ex 3 rfl (by decide) h_4
    have es : pn (nI s) = s := nI_clamp (by omega)
    have hs4 : s < 4 := by omega
    rw [es] at k
    refine go_iload_n (pc' := 8) dX6_item_7 rfl rfl ?_
    refine go_iconst (pc' := 9) 3 dX6_item_8 rfl (by decide) ?_
    refine go_cSi2 (pc' := 12) (M' := mX6_upTo) (d' := 1) dX6_item_9 rfl csRX6_97 (by decide) rfl (Nat.le_of_ble_eq_true rfl) ?_
    refine tX6_upTo ?_
    refine go_if_ne (pc' := 15) (tgt := 17) dX6_item_12 rfl (by decide) (fun h_12 => ?_) (fun h_12 => ?_)
    · have h_12 := pg_b1 h_12
      refine go_aload_n (pc' := 18) dX6_item_17 rfl rfl ?_
      refine go_getR (pc' := 21) dX6_item_18 rfl flRX6_49 rfl rfl ?_
      refine go_iload_n (pc' := 22) dX6_item_21 rfl rfl ?_
      refine go_aald (pc' := 23) s dX6_item_22 rfl rfl (by decide) rfl hs4 (by decide) (sheet_rs s hs4) ?_
      refine go_astore (pc' := 25) dX6_item_23 rfl (by decide) rfl ?_
      refine go_aload (pc' := 27) dX6_item_25 rfl rfl ?_
      refine go_getI (pc' := 30) dX6_item_27 rfl flRX6_209 (sheet_sh s hs4) rfl ?_
      refine go_iconst (pc' := 31) (-1) dX6_item_30 rfl (by decide) ?_
      refine go_icmp_ne (pc' := 34) (tgt := 37) dX6_item_31 rfl (by decide) (fun h_31 => ?_) (fun h_31 => ?_)
      · refine go_aload (pc' := 39) dX6_item_37 rfl rfl ?_
        refine go_getI (pc' := 42) dX6_item_39 rfl flRX6_209 (sheet_sh s hs4) rfl ?_
        refine go_iload_n (pc' := 43) dX6_item_42 rfl rfl ?_
        refine go_icmp_eq (pc' := 46) (tgt := 49) dX6_item_43 rfl (by decide) (fun h_43 => ?_) (fun h_43 => ?_)
        · refine go_aload (pc' := 51) dX6_item_49 rfl rfl ?_
          refine go_iload_n (pc' := 52) dX6_item_51 rfl rfl ?_
          refine go_cVi1 (pc' := 55) (M' := mX2_has) (d' := 1) dX6_item_52 rfl cvRX6_265 (sheet_sh s hs4) rfl (by decide) rfl (Nat.le_of_ble_eq_true rfl) ?_
          refine tX2_has hs4 ?_
          refine go_if_eq (pc' := 58) (tgt := 68) dX6_item_55 rfl (by decide) (fun h_55 => ?_) (fun h_55 => ?_)
          · have h_55 := pg_b0 h_55
            refine go_bipush (pc' := 70) (-12) dX6_item_68 rfl (by decide) ?_
            refine go_iret dX6_item_70 (pg_narI _) ?_
            rw [itemA_12 ⟨h_4, h_12⟩ h_31 h_43 h_55] at k
            exact k
          · have h_55 := pg_b1 h_55
            obtain ⟨c, hc, ec⟩ := hS s hs4
            have h_5 := h_55
            rw [ec] at h_5
            obtain ⟨i, hi, rfl⟩ := pp_ex h_5
            have ei : pn (nI i) = i := nI_clamp (by omega)
            rw [ei] at k
            refine go_aload (pc' := 60) dX6_item_58 rfl rfl ?_
            refine go_getR (pc' := 63) dX6_item_60 rfl flRX6_248 (sheet_sh s hs4) rfl ?_
            refine go_iload_n (pc' := 64) dX6_item_63 rfl rfl ?_
            refine go_iald (pc' := 65) i dX6_item_64 rfl (items_sh s hs4) rfl (by omega) (by decide) ?_
            refine go_goto (pc' := 70) dX6_item_65 (by decide) ?_
            refine go_iret dX6_item_70 (pg_narI _) ?_
            rw [itemA_v ⟨h_4, h_12⟩ h_31 h_43 h_55] at k
            exact k
        · refine go_bipush (pc' := 48) (-13) dX6_item_46 rfl (by decide) ?_
          refine go_iret dX6_item_48 (pg_narI _) ?_
          rw [itemA_13 ⟨h_4, h_12⟩ h_31 h_43] at k
          exact k
      · refine go_bipush (pc' := 36) (-11) dX6_item_34 rfl (by decide) ?_
        refine go_iret dX6_item_36 (pg_narI _) ?_
        rw [itemA_11 ⟨h_4, h_12⟩ h_31] at k
        exact k
    · have h_12 := pg_b0 h_12
      refine go_iconst (pc' := 16) (-1) dX6_item_15 rfl (by decide) ?_
      refine go_iret dX6_item_16 (pg_narI _) ?_
      rw [itemA_1 (fun q => h_12 q.2)] at k
      exact k

set_option maxHeartbeats 4000000 in
set_option maxRecDepth 20000 in
theorem tX7_lacksSort {sc : pg_Sc} {g : pg_S} {K : Int32 → pg_S → Prop} {s : Nat} {y : Int32} (hs4 : s < 4) (hk : ∃ k, k ≤ 4 ∧ g.1 68 s = nI k - 1) (k : K (if g.1 68 s = -1 then -11 else if ¬ g.1 68 s = y then -13 else 0) g) : pg_Cal sc 1 mX7_lacksSort [.ref 59, .int (nI s), .int y] g (pg_ki K) := by
  refine pg_Cal.of rfl (Nat.le_of_ble_eq_true rfl) rfl ?_
  refine go_aload_n (pc' := 1) dX7_lacksSort_0 rfl rfl ?_
  refine go_getR (pc' := 4) dX7_lacksSort_1 rfl flRX7_34 rfl rfl ?_
  refine go_iload_n (pc' := 5) dX7_lacksSort_4 rfl rfl ?_
  refine go_iald (pc' := 6) _ dX7_lacksSort_5 rfl rfl rfl (by omega) (by decide) ?_
  refine go_if_ge (pc' := 9) (tgt := 14) dX7_lacksSort_6 rfl (by decide) (fun h_6 => ?_) (fun h_6 => ?_)
  · refine go_aload_n (pc' := 15) dX7_lacksSort_14 rfl rfl ?_
    refine go_getR (pc' := 18) dX7_lacksSort_15 rfl flRX7_34 rfl rfl ?_
    refine go_iload_n (pc' := 19) dX7_lacksSort_18 rfl rfl ?_
    refine go_iald (pc' := 20) _ dX7_lacksSort_19 rfl rfl rfl (by omega) (by decide) ?_
    refine go_iload_n (pc' := 21) dX7_lacksSort_20 rfl rfl ?_
    refine go_icmp_eq (pc' := 24) (tgt := 29) dX7_lacksSort_21 rfl (by decide) (fun h_21 => ?_) (fun h_21 => ?_)
    · refine go_iconst (pc' := 30) 0 dX7_lacksSort_29 rfl (by decide) ?_
      refine go_iret dX7_lacksSort_30 (pg_narI _) ?_
      rw [if_neg (fun q => pg_lt_nle ((sort_lt hk).mpr q) h_6), if_neg (fun q => q h_21)] at k
      exact k
    · refine go_bipush (pc' := 26) (-13) dX7_lacksSort_24 rfl (by decide) ?_
      refine go_goto (pc' := 30) dX7_lacksSort_26 (by decide) ?_
      refine go_iret dX7_lacksSort_30 (pg_narI _) ?_
      rw [if_neg (fun q => pg_lt_nle ((sort_lt hk).mpr q) h_6), if_pos h_21] at k
      exact k
  · refine go_bipush (pc' := 11) (-11) dX7_lacksSort_9 rfl (by decide) ?_
    refine go_goto (pc' := 30) dX7_lacksSort_11 (by decide) ?_
    refine go_iret dX7_lacksSort_30 (pg_narI _) ?_
    rw [if_pos ((sort_lt hk).mp (pg_nle_lt h_6))] at k
    exact k

set_option maxHeartbeats 4000000 in
set_option maxRecDepth 20000 in
theorem tX7_item {sc : pg_Sc} {g : pg_S} {K : Int32 → pg_S → Prop} {x y z : Int32} (hS : ∀ s, s < 4 → (∃ c, c ≤ 40 ∧ g.1 69 s = nI c) ∧ ∃ k, k ≤ 4 ∧ g.1 68 s = nI k - 1) (k : K (itemA (g.1 68 (pn x)) (g.1 69 (pn x)) (g.2 70 (40 * pn x + pn z)).toInt32 x y z) g) : pg_Cal sc 3 mX7_item [.ref 59, .int x, .int y, .int z] g (pg_ki K) := by
  refine pg_Cal.of rfl (Nat.le_of_ble_eq_true rfl) rfl ?_
  refine go_iload_n (pc' := 1) dX7_item_0 rfl rfl ?_
  refine go_cSi1 (pc' := 4) (M' := mX7_isShelf) (d' := 2) dX7_item_1 rfl csRX7_293 (by decide) rfl (Nat.le_of_ble_eq_true rfl) ?_
  refine tX7_isShelf ?_
  refine go_if_eq (pc' := 7) (tgt := 16) dX7_item_4 rfl (by decide) (fun h_4 => ?_) (fun h_4 => ?_)
  · have h_4 := pg_b0 h_4
    refine go_iconst (pc' := 17) (-1) dX7_item_16 rfl (by decide) ?_
    refine go_iret dX7_item_17 (pg_narI _) ?_
    rw [itemA_1 (fun q => h_4 q.1)] at k
    exact k
  · have h_4 := pg_b1 h_4
    obtain ⟨s, hs, rfl⟩ := up_ex 3 rfl (by decide) h_4
    have es : pn (nI s) = s := nI_clamp (by omega)
    have hs4 : s < 4 := by omega
    rw [es] at k
    refine go_iload_n (pc' := 8) dX7_item_7 rfl rfl ?_
    refine go_iconst (pc' := 9) 0 dX7_item_8 rfl (by decide) ?_
    refine go_iconst (pc' := 10) 3 dX7_item_9 rfl (by decide) ?_
    refine go_cSi3 (pc' := 13) (M' := mX7_in) (d' := 1) dX7_item_10 rfl csRX7_60 (by decide) rfl (Nat.le_of_ble_eq_true rfl) ?_
    refine tX7_in ?_
    refine go_if_ne (pc' := 16) (tgt := 18) dX7_item_13 rfl (by decide) (fun h_13 => ?_) (fun h_13 => ?_)
    · have h_13 := pg_b1 h_13
      refine go_aload_n (pc' := 19) dX7_item_18 rfl rfl ?_
      refine go_iload_n (pc' := 20) dX7_item_19 rfl rfl ?_
      refine go_iload_n (pc' := 21) dX7_item_20 rfl rfl ?_
      refine go_cVi2 (pc' := 24) (M' := mX7_lacksSort) (d' := 1) dX7_item_21 rfl cvRX7_316 rfl rfl (by decide) rfl (Nat.le_of_ble_eq_true rfl) ?_
      obtain ⟨⟨c, hc, ec⟩, hk⟩ := hS s hs4
      have hio := one_iff' (n := c) (by omega) z
      refine tX7_lacksSort hs4 hk ?_
      refine go_istore (pc' := 26) dX7_item_24 rfl (by decide) rfl ?_
      refine go_iload (pc' := 28) dX7_item_26 rfl rfl ?_
      refine go_if_eq (pc' := 31) (tgt := 34) dX7_item_28 rfl (by decide) (fun h_28 => ?_) (fun h_28 => ?_)
      · refine go_iload_n (pc' := 35) dX7_item_34 rfl rfl ?_
        refine go_iconst (pc' := 36) 0 dX7_item_35 rfl (by decide) ?_
        refine go_aload_n (pc' := 37) dX7_item_36 rfl rfl ?_
        refine go_getR (pc' := 40) dX7_item_37 rfl flRX7_37 rfl rfl ?_
        refine go_iload_n (pc' := 41) dX7_item_40 rfl rfl ?_
        refine go_iald (pc' := 42) _ dX7_item_41 rfl rfl rfl (by omega) (by decide) ?_
        rw [ec]
        refine go_iconst (pc' := 43) 1 dX7_item_42 rfl (by decide) ?_
        refine go_isub (pc' := 44) dX7_item_43 rfl ?_
        refine go_cSi3 (pc' := 47) (M' := mX7_in) (d' := 1) dX7_item_44 rfl csRX7_60 (by decide) rfl (Nat.le_of_ble_eq_true rfl) ?_
        refine tX7_in ?_
        refine go_if_eq (pc' := 50) (tgt := 65) dX7_item_47 rfl (by decide) (fun h_47 => ?_) (fun h_47 => ?_)
        · have h_47 := pg_b0 h_47
          refine go_bipush (pc' := 67) (-12) dX7_item_65 rfl (by decide) ?_
          refine go_iret dX7_item_67 (pg_narI _) ?_
          have e1 : ¬ g.1 68 s = -1 := fun q => by rw [if_pos q] at h_28; exact absurd h_28 (by decide)
          have e2 : g.1 68 s = y := by
            by_cases e2 : g.1 68 s = y
            · exact e2
            · rw [if_neg e1, if_pos e2] at h_28; exact absurd h_28 (by decide)
          rw [itemA_12 ⟨h_4, h_13⟩ e1 e2 (fun q => h_47 (hio.mpr (by rw [ec] at q; exact q)))] at k
          exact k
        · have h_47 := pg_b1 h_47
          have h_5 := hio.mp h_47
          obtain ⟨i, hi, rfl⟩ := pp_ex h_5
          have ei : pn (nI i) = i := nI_clamp (by omega)
          rw [ei] at k
          refine go_aload_n (pc' := 51) dX7_item_50 rfl rfl ?_
          refine go_getR (pc' := 54) dX7_item_51 rfl flRX7_40 rfl rfl ?_
          refine go_bipush (pc' := 56) 40 dX7_item_54 rfl (by decide) ?_
          refine go_iload_n (pc' := 57) dX7_item_56 rfl rfl ?_
          refine go_imul (pc' := 58) dX7_item_57 rfl ?_
          refine go_iload_n (pc' := 59) dX7_item_58 rfl rfl ?_
          refine go_iadd (pc' := 60) dX7_item_59 rfl ?_
          refine go_lald (pc' := 61) (40 * s + i) dX7_item_60 rfl rfl (ix40 s i) (by omega) (by decide) ?_
          refine go_l2i (pc' := 62) dX7_item_61 rfl ?_
          refine go_goto (pc' := 67) dX7_item_62 (by decide) ?_
          refine go_iret dX7_item_67 (pg_narI _) ?_
          have e1 : ¬ g.1 68 s = -1 := fun q => by rw [if_pos q] at h_28; exact absurd h_28 (by decide)
          have e2 : g.1 68 s = y := by
            by_cases e2 : g.1 68 s = y
            · exact e2
            · rw [if_neg e1, if_pos e2] at h_28; exact absurd h_28 (by decide)
          rw [itemA_v ⟨h_4, h_13⟩ e1 e2 (by rw [ec]; exact h_5)] at k
          exact k
      · refine go_iload (pc' := 33) dX7_item_31 rfl rfl ?_
        refine go_iret dX7_item_33 (pg_narI _) ?_
        by_cases e1 : g.1 68 s = -1
        · rw [if_pos e1]; rw [itemA_11 ⟨h_4, h_13⟩ e1] at k; exact k
        · rw [if_neg e1] at h_28 ⊢
          by_cases e2 : g.1 68 s = y
          · rw [if_neg (fun q => q e2)] at h_28; exact absurd rfl h_28
          · rw [if_pos e2]; rw [itemA_13 ⟨h_4, h_13⟩ e1 e2] at k; exact k
    · have h_13 := pg_b0 h_13
      refine go_iconst (pc' := 17) (-1) dX7_item_16 rfl (by decide) ?_
      refine go_iret dX7_item_17 (pg_narI _) ?_
      rw [itemA_1 (fun q => h_13 q.2)] at k
      exact k

def putA (so ct x z : Int32) : Int32 := if ¬ UP x 3 then -1 else if so = -1 then -11 else if ¬ (0 ≤ z ∧ z < ct) then -12 else 1
set_option maxHeartbeats 4000000 in
set_option maxRecDepth 20000 in
theorem tX6_put {sc : pg_Sc} {g : pg_S} {K : Int32 → pg_S → Prop} {x z v : Int32} (hS : ∀ s, s < 4 → ∃ c, c ≤ 40 ∧ g.1 (45 + 2 * s) 2 = nI c) (k1 : ¬ (UP x 3 ∧ ¬ g.1 (45 + 2 * pn x) 1 = -1 ∧ (0 ≤ z ∧ z < g.1 (45 + 2 * pn x) 2)) → K (putA (g.1 (45 + 2 * pn x) 1) (g.1 (45 + 2 * pn x) 2) x z) g) (k : UP x 3 ∧ ¬ g.1 (45 + 2 * pn x) 1 = -1 ∧ (0 ≤ z ∧ z < g.1 (45 + 2 * pn x) 2) → K 1 (pg_ui g.1 (46 + 2 * pn x) (pn z) (narF (g.1 (45 + 2 * pn x) 1) v), g.2)) : pg_Cal sc 3 mX6_put [.ref 0, .int x, .int z, .int v] g (pg_ki K) := by
  refine pg_Cal.of rfl (Nat.le_of_ble_eq_true rfl) rfl ?_
  refine go_iload_n (pc' := 1) dX6_put_0 rfl rfl ?_
  refine go_cSi1 (pc' := 4) (M' := mX6_isSheet) (d' := 2) dX6_put_1 rfl csRX6_206 (by decide) rfl (Nat.le_of_ble_eq_true rfl) ?_
  refine tX6_isSheet ?_
  refine go_if_ne (pc' := 7) (tgt := 9) dX6_put_4 rfl (by decide) (fun h_4 => ?_) (fun h_4 => ?_)
  · have h_4 := pg_b1 h_4
    obtain ⟨s, hs, rfl⟩ := up_ex 3 rfl (by decide) h_4
    have es : pn (nI s) = s := nI_clamp (by omega)
    have hs4 : s < 4 := by omega
    rw [es] at k k1
    refine go_aload_n (pc' := 10) dX6_put_9 rfl rfl ?_
    refine go_getR (pc' := 13) dX6_put_10 rfl flRX6_49 rfl rfl ?_
    refine go_iload_n (pc' := 14) dX6_put_13 rfl rfl ?_
    refine go_aald (pc' := 15) s dX6_put_14 rfl rfl (by decide) rfl hs4 (by decide) (sheet_rs s hs4) ?_
    refine go_astore (pc' := 17) dX6_put_15 rfl (by decide) rfl ?_
    refine go_aload (pc' := 19) dX6_put_17 rfl rfl ?_
    refine go_getI (pc' := 22) dX6_put_19 rfl flRX6_209 (sheet_sh s hs4) rfl ?_
    refine go_iconst (pc' := 23) (-1) dX6_put_22 rfl (by decide) ?_
    refine go_icmp_ne (pc' := 26) (tgt := 29) dX6_put_23 rfl (by decide) (fun h_23 => ?_) (fun h_23 => ?_)
    · refine go_aload (pc' := 31) dX6_put_29 rfl rfl ?_
      refine go_iload_n (pc' := 32) dX6_put_31 rfl rfl ?_
      refine go_cVi1 (pc' := 35) (M' := mX2_has) (d' := 1) dX6_put_32 rfl cvRX6_265 (sheet_sh s hs4) rfl (by decide) rfl (Nat.le_of_ble_eq_true rfl) ?_
      refine tX2_has hs4 ?_
      refine go_if_ne (pc' := 38) (tgt := 41) dX6_put_35 rfl (by decide) (fun h_35 => ?_) (fun h_35 => ?_)
      · have h_35 := pg_b1 h_35
        obtain ⟨c, hc, ec⟩ := hS s hs4
        have h_5 := h_35
        rw [ec] at h_5
        obtain ⟨i, hi, rfl⟩ := pp_ex h_5
        have ei : pn (nI i) = i := nI_clamp (by omega)
        rw [ei] at k
        refine go_aload (pc' := 43) dX6_put_41 rfl rfl ?_
        refine go_getR (pc' := 46) dX6_put_43 rfl flRX6_248 (sheet_sh s hs4) rfl ?_
        refine go_iload_n (pc' := 47) dX6_put_46 rfl rfl ?_
        refine go_aload (pc' := 49) dX6_put_47 rfl rfl ?_
        refine go_iload_n (pc' := 50) dX6_put_49 rfl rfl ?_
        refine go_cVi1 (pc' := 53) (M' := mX2_narrowed) (d' := 1) dX6_put_50 rfl cvRX6_267 (sheet_sh s hs4) rfl (by decide) rfl (Nat.le_of_ble_eq_true rfl) ?_
        refine tX2_narrowed hs4 ?_
        refine go_iast (pc' := 54) i dX6_put_53 rfl (items_sh s hs4) rfl (by omega) (by decide) ?_
        refine go_iconst (pc' := 55) 1 dX6_put_54 rfl (by decide) ?_
        refine go_iret dX6_put_55 (pg_narI _) ?_
        exact k ⟨h_4, h_23, h_35⟩
      · have h_35 := pg_b0 h_35
        refine go_bipush (pc' := 40) (-12) dX6_put_38 rfl (by decide) ?_
        refine go_iret dX6_put_40 (pg_narI _) ?_
        have e : putA (g.1 (45 + 2 * s) 1) (g.1 (45 + 2 * s) 2) (nI s) z = -12 := by unfold putA; rw [if_neg (fun q => q h_4), if_neg h_23, if_pos h_35]
        rw [e] at k1
        exact k1 (fun q => h_35 q.2.2)
    · refine go_bipush (pc' := 28) (-11) dX6_put_26 rfl (by decide) ?_
      refine go_iret dX6_put_28 (pg_narI _) ?_
      have e : putA (g.1 (45 + 2 * s) 1) (g.1 (45 + 2 * s) 2) (nI s) z = -11 := by unfold putA; rw [if_neg (fun q => q h_4), if_pos h_23]
      rw [e] at k1
      exact k1 (fun q => q.2.1 h_23)
  · have h_4 := pg_b0 h_4
    refine go_iconst (pc' := 8) (-1) dX6_put_7 rfl (by decide) ?_
    refine go_iret dX6_put_8 (pg_narI _) ?_
    have e : putA (g.1 (45 + 2 * pn x) 1) (g.1 (45 + 2 * pn x) 2) x z = -1 := by unfold putA; rw [if_pos h_4]
    rw [e] at k1
    exact k1 (fun q => h_4 q.1)

set_option maxHeartbeats 4000000 in
set_option maxRecDepth 20000 in
theorem tX7_put {sc : pg_Sc} {g : pg_S} {K : Int32 → pg_S → Prop} {x z v : Int32} (hS : ∀ s, s < 4 → (∃ c, c ≤ 40 ∧ g.1 69 s = nI c) ∧ ∃ k, k ≤ 4 ∧ g.1 68 s = nI k - 1) (k1 : ¬ (UP x 3 ∧ ¬ g.1 68 (pn x) = -1 ∧ (0 ≤ z ∧ z < g.1 69 (pn x))) → K (putA (g.1 68 (pn x)) (g.1 69 (pn x)) x z) g) (k : UP x 3 ∧ ¬ g.1 68 (pn x) = -1 ∧ (0 ≤ z ∧ z < g.1 69 (pn x)) → K 1 (g.1, pg_uj g.2 70 (40 * pn x + pn z) (narF (g.1 68 (pn x)) v).toInt64)) : pg_Cal sc 3 mX7_put [.ref 59, .int x, .int z, .int v] g (pg_ki K) := by
  refine pg_Cal.of rfl (Nat.le_of_ble_eq_true rfl) rfl ?_
  refine go_iload_n (pc' := 1) dX7_put_0 rfl rfl ?_
  refine go_cSi1 (pc' := 4) (M' := mX7_isShelf) (d' := 2) dX7_put_1 rfl csRX7_293 (by decide) rfl (Nat.le_of_ble_eq_true rfl) ?_
  refine tX7_isShelf ?_
  refine go_if_ne (pc' := 7) (tgt := 9) dX7_put_4 rfl (by decide) (fun h_4 => ?_) (fun h_4 => ?_)
  · have h_4 := pg_b1 h_4
    obtain ⟨s, hs, rfl⟩ := up_ex 3 rfl (by decide) h_4
    have es : pn (nI s) = s := nI_clamp (by omega)
    have hs4 : s < 4 := by omega
    rw [es] at k k1
    obtain ⟨⟨c, hc, ec⟩, hk⟩ := hS s hs4
    have hio := one_iff' (n := c) (by omega) z
    refine go_aload_n (pc' := 10) dX7_put_9 rfl rfl ?_
    refine go_getR (pc' := 13) dX7_put_10 rfl flRX7_34 rfl rfl ?_
    refine go_iload_n (pc' := 14) dX7_put_13 rfl rfl ?_
    refine go_iald (pc' := 15) _ dX7_put_14 rfl rfl rfl (by omega) (by decide) ?_
    refine go_if_ge (pc' := 18) (tgt := 21) dX7_put_15 rfl (by decide) (fun h_15 => ?_) (fun h_15 => ?_)
    · refine go_iload_n (pc' := 22) dX7_put_21 rfl rfl ?_
      refine go_iconst (pc' := 23) 0 dX7_put_22 rfl (by decide) ?_
      refine go_aload_n (pc' := 24) dX7_put_23 rfl rfl ?_
      refine go_getR (pc' := 27) dX7_put_24 rfl flRX7_37 rfl rfl ?_
      refine go_iload_n (pc' := 28) dX7_put_27 rfl rfl ?_
      refine go_iald (pc' := 29) _ dX7_put_28 rfl rfl rfl (by omega) (by decide) ?_
      rw [ec]
      refine go_iconst (pc' := 30) 1 dX7_put_29 rfl (by decide) ?_
      refine go_isub (pc' := 31) dX7_put_30 rfl ?_
      refine go_cSi3 (pc' := 34) (M' := mX7_in) (d' := 1) dX7_put_31 rfl csRX7_60 (by decide) rfl (Nat.le_of_ble_eq_true rfl) ?_
      refine tX7_in ?_
      refine go_if_ne (pc' := 37) (tgt := 40) dX7_put_34 rfl (by decide) (fun h_34 => ?_) (fun h_34 => ?_)
      · have h_34 := pg_b1 h_34
        have h_5 := hio.mp h_34
        obtain ⟨i, hi, rfl⟩ := pp_ex h_5
        have ei : pn (nI i) = i := nI_clamp (by omega)
        rw [ei] at k
        refine go_aload_n (pc' := 41) dX7_put_40 rfl rfl ?_
        refine go_getR (pc' := 44) dX7_put_41 rfl flRX7_40 rfl rfl ?_
        refine go_bipush (pc' := 46) 40 dX7_put_44 rfl (by decide) ?_
        refine go_iload_n (pc' := 47) dX7_put_46 rfl rfl ?_
        refine go_imul (pc' := 48) dX7_put_47 rfl ?_
        refine go_iload_n (pc' := 49) dX7_put_48 rfl rfl ?_
        refine go_iadd (pc' := 50) dX7_put_49 rfl ?_
        refine go_aload_n (pc' := 51) dX7_put_50 rfl rfl ?_
        refine go_getR (pc' := 54) dX7_put_51 rfl flRX7_34 rfl rfl ?_
        refine go_iload_n (pc' := 55) dX7_put_54 rfl rfl ?_
        refine go_iald (pc' := 56) _ dX7_put_55 rfl rfl rfl (by omega) (by decide) ?_
        refine go_if_ne (pc' := 59) (tgt := 65) dX7_put_56 rfl (by decide) (fun h_56 => ?_) (fun h_56 => ?_)
        · refine go_aload_n (pc' := 66) dX7_put_65 rfl rfl ?_
          refine go_getR (pc' := 69) dX7_put_66 rfl flRX7_34 rfl rfl ?_
          refine go_iload_n (pc' := 70) dX7_put_69 rfl rfl ?_
          refine go_iald (pc' := 71) _ dX7_put_70 rfl rfl rfl (by omega) (by decide) ?_
          refine go_iconst (pc' := 72) 1 dX7_put_71 rfl (by decide) ?_
          refine go_icmp_ne (pc' := 75) (tgt := 81) dX7_put_72 rfl (by decide) (fun h_72 => ?_) (fun h_72 => ?_)
          · refine go_iload_n (pc' := 82) dX7_put_81 rfl rfl ?_
            refine go_i2l (pc' := 83) dX7_put_82 rfl ?_
            refine go_last (pc' := 84) (40 * s + i) dX7_put_83 rfl rfl (ix40 s i) (by omega) (by decide) ?_
            refine go_iconst (pc' := 85) 1 dX7_put_84 rfl (by decide) ?_
            refine go_iret dX7_put_85 (pg_narI _) ?_
            have e1 : ¬ g.1 68 s = -1 := fun q => pg_lt_nle ((sort_lt hk).mpr q) h_15
            unfold narF at k
            rw [if_neg h_56, if_neg h_72] at k
            exact k ⟨h_4, e1, by rw [ec]; exact h_5⟩
          · refine go_iload_n (pc' := 76) dX7_put_75 rfl rfl ?_
            refine go_i2s (pc' := 77) dX7_put_76 rfl ?_
            refine go_i2l (pc' := 78) dX7_put_77 rfl ?_
            refine go_goto (pc' := 83) dX7_put_78 (by decide) ?_
            refine go_last (pc' := 84) (40 * s + i) dX7_put_83 rfl rfl (ix40 s i) (by omega) (by decide) ?_
            refine go_iconst (pc' := 85) 1 dX7_put_84 rfl (by decide) ?_
            refine go_iret dX7_put_85 (pg_narI _) ?_
            have e1 : ¬ g.1 68 s = -1 := fun q => pg_lt_nle ((sort_lt hk).mpr q) h_15
            unfold narF at k
            rw [if_neg h_56, if_pos h_72] at k
            exact k ⟨h_4, e1, by rw [ec]; exact h_5⟩
        · refine go_iload_n (pc' := 60) dX7_put_59 rfl rfl ?_
          refine go_i2b (pc' := 61) dX7_put_60 rfl ?_
          refine go_i2l (pc' := 62) dX7_put_61 rfl ?_
          refine go_goto (pc' := 83) dX7_put_62 (by decide) ?_
          refine go_last (pc' := 84) (40 * s + i) dX7_put_83 rfl rfl (ix40 s i) (by omega) (by decide) ?_
          refine go_iconst (pc' := 85) 1 dX7_put_84 rfl (by decide) ?_
          refine go_iret dX7_put_85 (pg_narI _) ?_
          have e1 : ¬ g.1 68 s = -1 := fun q => pg_lt_nle ((sort_lt hk).mpr q) h_15
          unfold narF at k
          rw [if_pos h_56] at k
          exact k ⟨h_4, e1, by rw [ec]; exact h_5⟩
      · have h_34 := pg_b0 h_34
        refine go_bipush (pc' := 39) (-12) dX7_put_37 rfl (by decide) ?_
        refine go_iret dX7_put_39 (pg_narI _) ?_
        have e1 : ¬ g.1 68 s = -1 := fun q => pg_lt_nle ((sort_lt hk).mpr q) h_15
        have e2 : ¬ (0 ≤ z ∧ z < g.1 69 s) := fun q => h_34 (hio.mpr (by rw [ec] at q; exact q))
        have e : putA (g.1 68 s) (g.1 69 s) (nI s) z = -12 := by unfold putA; rw [if_neg (fun q => q h_4), if_neg e1, if_pos e2]
        rw [e] at k1
        exact k1 (fun q => e2 q.2.2)
    · refine go_bipush (pc' := 20) (-11) dX7_put_18 rfl (by decide) ?_
      refine go_iret dX7_put_20 (pg_narI _) ?_
      have e1 := (sort_lt hk).mp (pg_nle_lt h_15)
      have e : putA (g.1 68 s) (g.1 69 s) (nI s) z = -11 := by unfold putA; rw [if_neg (fun q => q h_4), if_pos e1]
      rw [e] at k1
      exact k1 (fun q => q.2.1 e1)
  · have h_4 := pg_b0 h_4
    refine go_iconst (pc' := 8) (-1) dX7_put_7 rfl (by decide) ?_
    refine go_iret dX7_put_8 (pg_narI _) ?_
    have e : putA (g.1 68 (pn x)) (g.1 69 (pn x)) x z = -1 := by unfold putA; rw [if_pos h_4]
    rw [e] at k1
    exact k1 (fun q => h_4 q.1)

