def CS (g : pg_S) (s : Nat) (h a b : Int32) : Prop := g.1 (54 + s) 0 = h ∧ (h = 0 → g.1 (54 + s) 1 = a) ∧ (h = 1 → g.1 (54 + s) 2 = a ∧ g.1 (54 + s) 3 = b)
def MS (g : pg_S) (s : Nat) (h a b : Int32) : Prop := g.1 71 s = (if h = 2 then -1 else h) ∧ (h = 0 → g.1 72 s = a) ∧ (h = 1 → g.1 72 s = a ∧ g.1 73 s = b)
abbrev OKS (n : Nat) (x y z : Int32) : Prop := UP x 3 ∧ ((y = 0 ∧ PP n z) ∨ (y = 1 ∧ UP z 3) ∨ y = 2)
def shH (y so : Int32) : Int32 := if y = 1 ∧ so = -1 then 2 else y
theorem shH_0 (so : Int32) : shH 0 so = 0 := if_neg (fun q => absurd q.1 (by decide))
theorem shH_2 (so : Int32) : shH 2 so = 2 := if_neg (fun q => absurd q.1 (by decide))
theorem shH_1 {so : Int32} (h : ¬ so = -1) : shH 1 so = 1 := if_neg (fun q => h q.2)
theorem shH_m {so : Int32} (h : so = -1) : shH 1 so = 2 := if_pos ⟨rfl, h⟩
def shN (y so z : Int32) : Int32 := if y = 1 then so else z
abbrev UND (v u : Int32) : Prop := u = 0 ∨ u = v ∨ (u = 1 ∧ v = 3) ∨ (u = 2 ∧ v = 4)
def uaF : Nat → Int32 → Int32 → Bool
  | 0, _, _ => false
  | m + 1, v, u => if ¬ UP v 5 then false else if v = u then true else uaF m (pg_t2.getD (pn v) 0) u
theorem uaF_n {m : Nat} {v u : Int32} (h : ¬ UP v 5) : uaF (m + 1) v u = false := if_pos h
theorem uaF_e {m : Nat} {v u : Int32} (h : UP v 5) (h2 : v = u) : uaF (m + 1) v u = true := (if_neg (fun q => q h)).trans (if_pos h2)
theorem uaF_s {m : Nat} {v u : Int32} (h : UP v 5) (h2 : ¬ v = u) : uaF (m + 1) v u = uaF m (pg_t2.getD (pn v) 0) u := (if_neg (fun q => q h)).trans (if_neg h2)
theorem uaF_und : ∀ k, k < 6 → ∀ w, w < 6 → (uaF 6 (nI k) (nI w) = true ↔ UND (nI k) (nI w)) := by decide +kernel
def koF (T : TW) (n : Nat) (h a : Int32) : Int32 := if h = 0 then (if PP n a then T 2 (pn a) else -1) else if h = 1 then 9 else -1
def takA (n : Nat) (T : TW) (h a b x y : Int32) : Int32 := if ¬ (UP x 3 ∧ (UP y 5 ∨ IN y 10 13)) then -1 else if h = 1 then (if a = y - 10 then b else -13) else if ¬ (h = 0 ∧ PP n a) then -11 else if UP y 5 ∧ UND (T 2 (pn a)) y then a else -13
theorem takA_1 {n : Nat} {T : TW} {h a b x y : Int32} (q : ¬ (UP x 3 ∧ (UP y 5 ∨ IN y 10 13))) : takA n T h a b x y = -1 := if_pos q
theorem takA_r {n : Nat} {T : TW} {h a b x y : Int32} (q : UP x 3 ∧ (UP y 5 ∨ IN y 10 13)) (e : h = 1) : takA n T h a b x y = if a = y - 10 then b else -13 := (if_neg (fun z => z q)).trans (if_pos e)
theorem takA_n {n : Nat} {T : TW} {h a b x y : Int32} (q : UP x 3 ∧ (UP y 5 ∨ IN y 10 13)) (e : ¬ h = 1) (e2 : ¬ (h = 0 ∧ PP n a)) : takA n T h a b x y = -11 := (if_neg (fun z => z q)).trans ((if_neg e).trans (if_pos e2))
theorem takA_p {n : Nat} {T : TW} {h a b x y : Int32} (q : UP x 3 ∧ (UP y 5 ∨ IN y 10 13)) (e : ¬ h = 1) (e2 : h = 0 ∧ PP n a) : takA n T h a b x y = if UP y 5 ∧ UND (T 2 (pn a)) y then a else -13 := (if_neg (fun z => z q)).trans ((if_neg e).trans (if_neg (fun z => z e2)))
theorem sub10 {a y : Int32} : y = 10 + a ↔ a = y - 10 := by
  constructor
  · intro h
    rw [h]
    apply Int32.toBitVec_inj.1
    show a.toBitVec = (10 : BitVec 32) + a.toBitVec - 10
    rw [BitVec.add_comm, BitVec.add_sub_cancel]
  · intro h
    rw [h]
    apply Int32.toBitVec_inj.1
    show y.toBitVec = (10 : BitVec 32) + (y.toBitVec - 10)
    rw [BitVec.add_comm, BitVec.sub_add_cancel]
set_option maxHeartbeats 4000000 in
set_option maxRecDepth 20000 in
theorem tX3_holdPerson {sc : pg_Sc} {g : pg_S} {K : pg_S → Prop} {s : Nat} {x : Int32} (hs4 : s < 4) (k : K (pg_ui (pg_ui g.1 (54 + s) 0 0) (54 + s) 1 x, g.2)) : pg_Cal sc 1 mX3_holdPerson [.ref (54 + s), .int x] g (pg_kv K) := by
  refine pg_Cal.of rfl (Nat.le_of_ble_eq_true rfl) rfl ?_
  refine go_aload_n (pc' := 1) dX3_holdPerson_0 rfl rfl ?_
  refine go_iconst (pc' := 2) 0 dX3_holdPerson_1 rfl (by decide) ?_
  refine go_putI (pc' := 5) dX3_holdPerson_2 rfl flRX3_9 (shelf_sh s hs4) rfl ft3_0 ?_
  refine go_aload_n (pc' := 6) dX3_holdPerson_5 rfl rfl ?_
  refine go_iload_n (pc' := 7) dX3_holdPerson_6 rfl rfl ?_
  refine go_putI (pc' := 10) dX3_holdPerson_7 rfl flRX3_15 (shelf_sh s hs4) rfl ft3_1 ?_
  refine go_vret dX3_holdPerson_10 rfl ?_
  exact k

set_option maxHeartbeats 4000000 in
set_option maxRecDepth 20000 in
theorem tX3_holdRow {sc : pg_Sc} {g : pg_S} {K : pg_S → Prop} {s t : Nat} (hs4 : s < 4) (ht4 : t < 4) (k : ∀ g', g'.1 (54 + s) 0 = (if g.1 (45 + 2 * t) 1 = -1 then 2 else 1) → g'.1 (54 + s) 2 = g.1 (45 + 2 * t) 1 → g'.1 (54 + s) 3 = g.1 (45 + 2 * t) 2 → FR (54 + s) (55 + s) g g' → K g') : pg_Cal sc 1 mX3_holdRow [.ref (54 + s), .ref (45 + 2 * t)] g (pg_kv K) := by
  refine pg_Cal.of rfl (Nat.le_of_ble_eq_true rfl) rfl ?_
  refine go_aload_n (pc' := 1) dX3_holdRow_0 rfl rfl ?_
  refine go_aload_n (pc' := 2) dX3_holdRow_1 rfl rfl ?_
  refine go_getI (pc' := 5) dX3_holdRow_2 rfl flRX3_24 (sheet_sh t ht4) rfl ?_
  refine go_iconst (pc' := 6) (-1) dX3_holdRow_5 rfl (by decide) ?_
  refine go_icmp_ne (pc' := 9) (tgt := 13) dX3_holdRow_6 rfl (by decide) (fun h_6 => ?_) (fun h_6 => ?_)
  · refine go_iconst (pc' := 14) 1 dX3_holdRow_13 rfl (by decide) ?_
    refine go_putI (pc' := 17) dX3_holdRow_14 rfl flRX3_9 (shelf_sh s hs4) rfl ft3_0 ?_
    refine go_gen (fun g1 e1 => ?_)
    have f1 : FR (54 + s) (55 + s) g g1 := by rw [e1]; exact FR.ui (by omega)
    refine go_aload_n (pc' := 18) dX3_holdRow_17 rfl rfl ?_
    refine go_aload_n (pc' := 19) dX3_holdRow_18 rfl rfl ?_
    refine go_getI (pc' := 22) dX3_holdRow_19 rfl flRX3_24 (sheet_sh t ht4) rfl ?_
    rw [f1.1 (45 + 2 * t) (by omega)]
    refine go_putI (pc' := 25) dX3_holdRow_22 rfl flRX3_18 (shelf_sh s hs4) rfl ft3_2 ?_
    refine go_gen (fun g2 e2 => ?_)
    have f2 : FR (54 + s) (55 + s) g g2 := by rw [e2]; exact FR.tr f1 (FR.ui (by omega))
    refine go_aload_n (pc' := 26) dX3_holdRow_25 rfl rfl ?_
    refine go_aload_n (pc' := 27) dX3_holdRow_26 rfl rfl ?_
    refine go_getI (pc' := 30) dX3_holdRow_27 rfl flRX3_27 (sheet_sh t ht4) rfl ?_
    rw [f2.1 (45 + 2 * t) (by omega)]
    refine go_putI (pc' := 33) dX3_holdRow_30 rfl flRX3_21 (shelf_sh s hs4) rfl ft3_3 ?_
    refine go_vret dX3_holdRow_33 rfl ?_
    refine k _ ?_ ?_ ?_ (FR.tr f2 (FR.ui (by omega)))
    · rw [if_neg h_6, e2, e1]; simp [pg_ui_at]
    · rw [e2]; simp [pg_ui_at]
    · simp [pg_ui_at]
  · refine go_iconst (pc' := 10) 2 dX3_holdRow_9 rfl (by decide) ?_
    refine go_goto (pc' := 14) dX3_holdRow_10 (by decide) ?_
    refine go_putI (pc' := 17) dX3_holdRow_14 rfl flRX3_9 (shelf_sh s hs4) rfl ft3_0 ?_
    refine go_gen (fun g1 e1 => ?_)
    have f1 : FR (54 + s) (55 + s) g g1 := by rw [e1]; exact FR.ui (by omega)
    refine go_aload_n (pc' := 18) dX3_holdRow_17 rfl rfl ?_
    refine go_aload_n (pc' := 19) dX3_holdRow_18 rfl rfl ?_
    refine go_getI (pc' := 22) dX3_holdRow_19 rfl flRX3_24 (sheet_sh t ht4) rfl ?_
    rw [f1.1 (45 + 2 * t) (by omega)]
    refine go_putI (pc' := 25) dX3_holdRow_22 rfl flRX3_18 (shelf_sh s hs4) rfl ft3_2 ?_
    refine go_gen (fun g2 e2 => ?_)
    have f2 : FR (54 + s) (55 + s) g g2 := by rw [e2]; exact FR.tr f1 (FR.ui (by omega))
    refine go_aload_n (pc' := 26) dX3_holdRow_25 rfl rfl ?_
    refine go_aload_n (pc' := 27) dX3_holdRow_26 rfl rfl ?_
    refine go_getI (pc' := 30) dX3_holdRow_27 rfl flRX3_27 (sheet_sh t ht4) rfl ?_
    rw [f2.1 (45 + 2 * t) (by omega)]
    refine go_putI (pc' := 33) dX3_holdRow_30 rfl flRX3_21 (shelf_sh s hs4) rfl ft3_3 ?_
    refine go_vret dX3_holdRow_33 rfl ?_
    refine k _ ?_ ?_ ?_ (FR.tr f2 (FR.ui (by omega)))
    · rw [if_pos h_6, e2, e1]; simp [pg_ui_at]
    · rw [e2]; simp [pg_ui_at]
    · simp [pg_ui_at]

set_option maxHeartbeats 4000000 in
set_option maxRecDepth 20000 in
theorem tX6_shelf {sc : pg_Sc} {g : pg_S} {K : Int32 → pg_S → Prop} {T : TW} {n : Nat} {x y z : Int32} (h : CR g 1 T n) (wf : WF T n) (k1 : ¬ OKS n x y z → K (-1) g) (k2 : OKS n x y z → ∀ g', CS g' (pn x) (shH y (g.1 (45 + 2 * pn z) 1)) (shN y (g.1 (45 + 2 * pn z) 1) z) (g.1 (45 + 2 * pn z) 2) → FR (54 + pn x) (55 + pn x) g g' → K 1 g') : pg_Cal sc 3 mX6_shelf [.ref 0, .int x, .int y, .int z] g (pg_ki K) := by
  refine pg_Cal.of rfl (Nat.le_of_ble_eq_true rfl) rfl ?_
  have hn := wf.1
  refine go_iload_n (pc' := 1) dX6_shelf_0 rfl rfl ?_
  refine go_cSi1 (pc' := 4) (M' := mX6_isShelf) (d' := 2) dX6_shelf_1 rfl csRX6_270 (by decide) rfl (Nat.le_of_ble_eq_true rfl) ?_
  refine tX6_isShelf ?_
  refine go_if_ne (pc' := 7) (tgt := 9) dX6_shelf_4 rfl (by decide) (fun h_4 => ?_) (fun h_4 => ?_)
  · have h_4 := pg_b1 h_4
    obtain ⟨s, hs, rfl⟩ := up_ex 3 rfl (by decide) h_4
    have es : pn (nI s) = s := nI_clamp (by omega)
    have hs4 : s < 4 := by omega
    rw [es] at k2
    refine go_aload_n (pc' := 10) dX6_shelf_9 rfl rfl ?_
    refine go_getR (pc' := 13) dX6_shelf_10 rfl flRX6_55 rfl rfl ?_
    refine go_iload_n (pc' := 14) dX6_shelf_13 rfl rfl ?_
    refine go_aald (pc' := 15) s dX6_shelf_14 rfl rfl (by decide) rfl hs4 (by decide) (shelf_rs s hs4) ?_
    refine go_astore (pc' := 17) dX6_shelf_15 rfl (by decide) rfl ?_
    refine go_iload_n (pc' := 18) dX6_shelf_17 rfl rfl ?_
    refine go_xcase _ pg_sw0_2 (fun h_18 => ?_)
    rcases h_18 with h_18 | h_18 | h_18 | h_18
    · refine go_tableIn (pc' := 44) dX6_shelf_18 (by rw [h_18]; decide) (by rw [h_18]; decide) (by rw [h_18]; rfl) (by decide) ?_
      refine go_aload_n (pc' := 45) dX6_shelf_44 rfl rfl ?_
      refine go_iload_n (pc' := 46) dX6_shelf_45 rfl rfl ?_
      refine go_cVi1 (pc' := 49) (M' := mX6_isPerson) (d' := 1) dX6_shelf_46 rfl cvRX6_111 rfl rfl (by decide) rfl (Nat.le_of_ble_eq_true rfl) ?_
      refine tX6_isPerson h ?_
      refine go_if_ne (pc' := 52) (tgt := 54) dX6_shelf_49 rfl (by decide) (fun h_49 => ?_) (fun h_49 => ?_)
      · have h_49 := pg_b1 h_49
        refine go_aload (pc' := 56) dX6_shelf_54 rfl rfl ?_
        refine go_iload_n (pc' := 57) dX6_shelf_56 rfl rfl ?_
        refine go_cVv1 (pc' := 60) (M' := mX3_holdPerson) (d' := 1) dX6_shelf_57 rfl cvRX6_273 (shelf_sh s hs4) rfl (by decide) rfl (Nat.le_of_ble_eq_true rfl) ?_
        refine tX3_holdPerson hs4 ?_
        refine go_iconst (pc' := 61) 1 dX6_shelf_60 rfl (by decide) ?_
        refine go_iret dX6_shelf_61 (pg_narI _) ?_
        subst h_18
        refine k2 ⟨h_4, Or.inl ⟨rfl, h_49⟩⟩ _ ⟨?_, fun _ => ?_, fun q => absurd ((shH_0 _).symm.trans q) (by decide)⟩ (FR.tr (FR.ui (by omega)) (FR.ui (by omega)))
        · simp [pg_ui_at, shH]
        · simp [pg_ui_at, shN]
      · have h_49 := pg_b0 h_49
        refine go_iconst (pc' := 53) (-1) dX6_shelf_52 rfl (by decide) ?_
        refine go_iret dX6_shelf_53 (pg_narI _) ?_
        exact k1 (fun q => by rcases q.2 with e | e | e; exact h_49 e.2; exact absurd (h_18.symm.trans e.1) (by decide); exact absurd (h_18.symm.trans e) (by decide))
    · refine go_tableIn (pc' := 62) dX6_shelf_18 (by rw [h_18]; decide) (by rw [h_18]; decide) (by rw [h_18]; rfl) (by decide) ?_
      refine go_iload_n (pc' := 63) dX6_shelf_62 rfl rfl ?_
      refine go_cSi1 (pc' := 66) (M' := mX6_isSheet) (d' := 2) dX6_shelf_63 rfl csRX6_206 (by decide) rfl (Nat.le_of_ble_eq_true rfl) ?_
      refine tX6_isSheet ?_
      refine go_if_ne (pc' := 69) (tgt := 71) dX6_shelf_66 rfl (by decide) (fun h_66 => ?_) (fun h_66 => ?_)
      · have h_66 := pg_b1 h_66
        obtain ⟨t, ht, rfl⟩ := up_ex 3 rfl (by decide) h_66
        have et : pn (nI t) = t := nI_clamp (by omega)
        have ht4 : t < 4 := by omega
        refine go_aload (pc' := 73) dX6_shelf_71 rfl rfl ?_
        refine go_aload_n (pc' := 74) dX6_shelf_73 rfl rfl ?_
        refine go_getR (pc' := 77) dX6_shelf_74 rfl flRX6_49 rfl rfl ?_
        refine go_iload_n (pc' := 78) dX6_shelf_77 rfl rfl ?_
        refine go_aald (pc' := 79) t dX6_shelf_78 rfl rfl (by decide) rfl ht4 (by decide) (sheet_rs t ht4) ?_
        refine go_cVv1 (pc' := 82) (M' := mX3_holdRow) (d' := 1) dX6_shelf_79 rfl cvRX6_276 (shelf_sh s hs4) rfl (by decide) rfl (Nat.le_of_ble_eq_true rfl) ?_
        refine tX3_holdRow hs4 ht4 (fun g1 a1 a2 a3 f1 => ?_)
        refine go_iconst (pc' := 83) 1 dX6_shelf_82 rfl (by decide) ?_
        refine go_iret dX6_shelf_83 (pg_narI _) ?_
        subst h_18
        refine k2 ⟨h_4, Or.inr (Or.inl ⟨rfl, h_66⟩)⟩ _ ⟨?_, fun q => ?_, fun q => ?_⟩ f1
        · rw [a1, et]; unfold shH; by_cases e : g.1 (45 + 2 * t) 1 = -1
          · rw [if_pos e, if_pos ⟨rfl, e⟩]
          · rw [if_neg e, if_neg (fun q => e q.2)]
        · unfold shH at q; split at q <;> exact absurd q (by decide)
        · rw [a2, a3, et]; exact ⟨rfl, rfl⟩
      · have h_66 := pg_b0 h_66
        refine go_iconst (pc' := 70) (-1) dX6_shelf_69 rfl (by decide) ?_
        refine go_iret dX6_shelf_70 (pg_narI _) ?_
        exact k1 (fun q => by rcases q.2 with e | e | e; exact absurd (h_18.symm.trans e.1) (by decide); exact h_66 e.2; exact absurd (h_18.symm.trans e) (by decide))
    · refine go_tableIn (pc' := 84) dX6_shelf_18 (by rw [h_18]; decide) (by rw [h_18]; decide) (by rw [h_18]; rfl) (by decide) ?_
      refine go_aload (pc' := 86) dX6_shelf_84 rfl rfl ?_
      refine go_iconst (pc' := 87) 2 dX6_shelf_86 rfl (by decide) ?_
      refine go_putI (pc' := 90) dX6_shelf_87 rfl flRX6_280 (shelf_sh s hs4) rfl ft3_0 ?_
      refine go_iconst (pc' := 91) 1 dX6_shelf_90 rfl (by decide) ?_
      refine go_iret dX6_shelf_91 (pg_narI _) ?_
      subst h_18
      refine k2 ⟨h_4, Or.inr (Or.inr rfl)⟩ _ ⟨?_, fun q => absurd ((shH_2 _).symm.trans q) (by decide), fun q => absurd ((shH_2 _).symm.trans q) (by decide)⟩ (FR.ui (by omega))
      simp [pg_ui_at, shH]
    · refine go_tableOut (pc' := 92) dX6_shelf_18 h_18 (by decide) ?_
      refine go_iconst (pc' := 93) (-1) dX6_shelf_92 rfl (by decide) ?_
      refine go_iret dX6_shelf_93 (pg_narI _) ?_
      exact k1 (fun q => by rcases q.2 with e | e | e; exact pg_out h_18 0 (by decide) (by decide) e.1; exact pg_out h_18 1 (by decide) (by decide) e.1; exact pg_out h_18 2 (by decide) (by decide) e)
  · have h_4 := pg_b0 h_4
    refine go_iconst (pc' := 8) (-1) dX6_shelf_7 rfl (by decide) ?_
    refine go_iret dX6_shelf_8 (pg_narI _) ?_
    exact k1 (fun q => h_4 q.1)

set_option maxHeartbeats 4000000 in
set_option maxRecDepth 20000 in
theorem tX6_holdsSomebody {sc : pg_Sc} {g : pg_S} {K : Int32 → pg_S → Prop} {T : TW} {n : Nat} {s : Nat} {h0 a b : Int32} (h : CR g 1 T n) (hs4 : s < 4) (hc : CS g s h0 a b) (k : K (if h0 = 0 ∧ PP n a then 1 else 0) g) : pg_Cal sc 2 mX6_holdsSomebody [.ref 0, .ref (54 + s)] g (pg_ki K) := by
  refine pg_Cal.of rfl (Nat.le_of_ble_eq_true rfl) rfl ?_
  refine go_aload_n (pc' := 1) dX6_holdsSomebody_0 rfl rfl ?_
  refine go_getI (pc' := 4) dX6_holdsSomebody_1 rfl flRX6_280 (shelf_sh s hs4) rfl ?_
  rw [hc.1]
  refine go_if_ne (pc' := 7) (tgt := 22) dX6_holdsSomebody_4 rfl (by decide) (fun h_4 => ?_) (fun h_4 => ?_)
  · refine go_iconst (pc' := 23) 0 dX6_holdsSomebody_22 rfl (by decide) ?_
    refine go_iret dX6_holdsSomebody_23 (by first | exact pg_nar1 | exact pg_nar0 | exact pg_narB) ?_
    rw [if_neg (fun q => h_4 q.1)] at k
    exact k
  · refine go_aload_n (pc' := 8) dX6_holdsSomebody_7 rfl rfl ?_
    refine go_aload_n (pc' := 9) dX6_holdsSomebody_8 rfl rfl ?_
    refine go_getI (pc' := 12) dX6_holdsSomebody_9 rfl flRX6_290 (shelf_sh s hs4) rfl ?_
    rw [hc.2.1 h_4]
    refine go_cVi1 (pc' := 15) (M' := mX6_isPerson) (d' := 1) dX6_holdsSomebody_12 rfl cvRX6_111 rfl rfl (by decide) rfl (Nat.le_of_ble_eq_true rfl) ?_
    refine tX6_isPerson h ?_
    refine go_if_eq (pc' := 18) (tgt := 22) dX6_holdsSomebody_15 rfl (by decide) (fun h_15 => ?_) (fun h_15 => ?_)
    · have h_15 := pg_b0 h_15
      refine go_iconst (pc' := 23) 0 dX6_holdsSomebody_22 rfl (by decide) ?_
      refine go_iret dX6_holdsSomebody_23 (by first | exact pg_nar1 | exact pg_nar0 | exact pg_narB) ?_
      rw [if_neg (fun q => h_15 q.2)] at k
      exact k
    · have h_15 := pg_b1 h_15
      refine go_iconst (pc' := 19) 1 dX6_holdsSomebody_18 rfl (by decide) ?_
      refine go_goto (pc' := 23) dX6_holdsSomebody_19 (by decide) ?_
      refine go_iret dX6_holdsSomebody_23 (by first | exact pg_nar1 | exact pg_nar0 | exact pg_narB) ?_
      rw [if_pos ⟨h_4, h_15⟩] at k
      exact k

set_option maxHeartbeats 4000000 in
set_option maxRecDepth 20000 in
theorem lua {sc : pg_Sc} {K : Int32 → pg_S → Prop} {x u : Int32} {g : pg_S} : ∀ (m : Nat) (i : Nat) (v : Int32), i + m = 6 → K (if uaF m v u = true then 1 else 0) g → pg_Go sc 2 mX6_isUnder 4 [(0, .int x), (1, .int u), (2, .int v), (3, .int (nI i))] [] g (pg_ki K) := by
  intro m
  induction m with
  | zero =>
    intro i v hi k
    obtain rfl : i = 6 := by omega
    refine go_iload_n (pc' := 5) dX6_isUnder_4 rfl rfl ?_
    refine go_bipush (pc' := 7) 6 dX6_isUnder_5 rfl (by decide) ?_
    refine go_icmp_ge (pc' := 10) (tgt := 37) dX6_isUnder_7 rfl (by decide) (fun h_7 => ?_) (fun h_7 => absurd (Int32.le_refl _) h_7)
    refine go_iconst (pc' := 38) 0 dX6_isUnder_37 rfl (by decide) ?_
    refine go_iret dX6_isUnder_38 (by first | exact pg_nar1 | exact pg_nar0 | exact pg_narB) ?_
    exact k
  | succ m ih =>
    intro i v hi k
    have hin : i < 6 := by omega
    refine go_iload_n (pc' := 5) dX6_isUnder_4 rfl rfl ?_
    refine go_bipush (pc' := 7) 6 dX6_isUnder_5 rfl (by decide) ?_
    refine go_icmp_ge (pc' := 10) (tgt := 37) dX6_isUnder_7 rfl (by decide) (fun h_7 => absurd h_7 (nI_ge (b := 6) hin (by decide))) (fun h_7 => ?_)
    refine go_iload_n (pc' := 11) dX6_isUnder_10 rfl rfl ?_
    refine go_iconst (pc' := 12) 5 dX6_isUnder_11 rfl (by decide) ?_
    refine go_cSi2 (pc' := 15) (M' := mX6_upTo) (d' := 1) dX6_isUnder_12 rfl csRX6_97 (by decide) rfl (Nat.le_of_ble_eq_true rfl) ?_
    refine tX6_upTo ?_
    refine go_if_eq (pc' := 18) (tgt := 37) dX6_isUnder_15 rfl (by decide) (fun h_15 => ?_) (fun h_15 => ?_)
    · have h_15 := pg_b0 h_15
      refine go_iconst (pc' := 38) 0 dX6_isUnder_37 rfl (by decide) ?_
      refine go_iret dX6_isUnder_38 (by first | exact pg_nar1 | exact pg_nar0 | exact pg_narB) ?_
      rw [uaF_n h_15] at k
      exact k
    · have h_15 := pg_b1 h_15
      have h_16 := h_15
      obtain ⟨c, hc, rfl⟩ := up_ex 5 rfl (by decide) h_15
      have ec : pn (nI c) = c := nI_clamp (by omega)
      refine go_iload_n (pc' := 19) dX6_isUnder_18 rfl rfl ?_
      refine go_iload_n (pc' := 20) dX6_isUnder_19 rfl rfl ?_
      refine go_icmp_ne (pc' := 23) (tgt := 25) dX6_isUnder_20 rfl (by decide) (fun h_20 => ?_) (fun h_20 => ?_)
      · refine go_gs2 (pc' := 28) dX6_isUnder_25 rfl sfRX6_311 ?_
        refine go_iload_n (pc' := 29) dX6_isUnder_28 rfl rfl ?_
        refine go_ro2 (pc' := 30) c dX6_isUnder_29 rfl rfl (by omega) ?_
        refine go_istore_n (pc' := 31) dX6_isUnder_30 rfl (by decide) rfl ?_
        refine go_iinc (pc' := 34) _ dX6_isUnder_31 rfl rfl (pg_inc _) (by decide) rfl ?_
        refine go_goto (pc' := 4) dX6_isUnder_34 (by decide) ?_
        rw [uaF_s h_16 h_20, ec] at k
        exact ih (i + 1) _ (by omega) k
      · refine go_iconst (pc' := 24) 1 dX6_isUnder_23 rfl (by decide) ?_
        refine go_iret dX6_isUnder_24 (by first | exact pg_nar1 | exact pg_nar0 | exact pg_narB) ?_
        rw [uaF_e h_16 h_20] at k
        exact k

set_option maxHeartbeats 4000000 in
set_option maxRecDepth 20000 in
theorem tX6_isUnder {sc : pg_Sc} {g : pg_S} {K : Int32 → pg_S → Prop} {c u : Nat} (hc : c < 6) (hu : u < 6) (k : K (if UND (nI c) (nI u) then 1 else 0) g) : pg_Cal sc 2 mX6_isUnder [.int (nI c), .int (nI u)] g (pg_ki K) := by
  refine pg_Cal.of rfl (Nat.le_of_ble_eq_true rfl) rfl ?_
  refine go_iload_n (pc' := 1) dX6_isUnder_0 rfl rfl ?_
  refine go_istore_n (pc' := 2) dX6_isUnder_1 rfl (by decide) rfl ?_
  refine go_iconst (pc' := 3) 0 dX6_isUnder_2 rfl (by decide) ?_
  refine go_istore_n (pc' := 4) dX6_isUnder_3 rfl (by decide) rfl ?_
  refine lua 6 0 (nI c) (by omega) ?_
  by_cases e : UND (nI c) (nI u)
  · rw [if_pos e] at k; rw [if_pos ((uaF_und c hc u hu).mpr e)]; exact k
  · rw [if_neg e] at k; rw [if_neg (fun q => e ((uaF_und c hc u hu).mp q))]; exact k

set_option maxHeartbeats 4000000 in
set_option maxRecDepth 20000 in
theorem tX6_taken {sc : pg_Sc} {g : pg_S} {K : Int32 → pg_S → Prop} {T : TW} {n : Nat} {x y : Int32} {H A B : Nat → Int32} (hC : ∀ s, s < 4 → CS g s (H s) (A s) (B s)) (h : CR g 1 T n) (wf : WF T n) (k : K (takA n T (H (pn x)) (A (pn x)) (B (pn x)) x y) g) : pg_Cal sc 3 mX6_taken [.ref 0, .int x, .int y] g (pg_ki K) := by
  refine pg_Cal.of rfl (Nat.le_of_ble_eq_true rfl) rfl ?_
  have hn := wf.1
  refine go_iload_n (pc' := 1) dX6_taken_0 rfl rfl ?_
  refine go_iconst (pc' := 2) 5 dX6_taken_1 rfl (by decide) ?_
  refine go_cSi2 (pc' := 5) (M' := mX6_upTo) (d' := 1) dX6_taken_2 rfl csRX6_97 (by decide) rfl (Nat.le_of_ble_eq_true rfl) ?_
  refine tX6_upTo ?_
  refine go_istore_n (pc' := 6) dX6_taken_5 rfl (by decide) rfl ?_
  refine go_iload_n (pc' := 7) dX6_taken_6 rfl rfl ?_
  refine go_bipush (pc' := 9) 10 dX6_taken_7 rfl (by decide) ?_
  refine go_bipush (pc' := 11) 13 dX6_taken_9 rfl (by decide) ?_
  refine go_cSi3 (pc' := 14) (M' := mX6_between) (d' := 1) dX6_taken_11 rfl csRX6_65 (by decide) rfl (Nat.le_of_ble_eq_true rfl) ?_
  refine tX6_between ?_
  refine go_istore (pc' := 16) dX6_taken_14 rfl (by decide) rfl ?_
  refine go_iload_n (pc' := 17) dX6_taken_16 rfl rfl ?_
  refine go_cSi1 (pc' := 20) (M' := mX6_isShelf) (d' := 2) dX6_taken_17 rfl csRX6_270 (by decide) rfl (Nat.le_of_ble_eq_true rfl) ?_
  refine tX6_isShelf ?_
  refine go_if_eq (pc' := 23) (tgt := 32) dX6_taken_20 rfl (by decide) (fun h_20 => ?_) (fun h_20 => ?_)
  · have h_20 := pg_b0 h_20
    refine go_iconst (pc' := 33) (-1) dX6_taken_32 rfl (by decide) ?_
    refine go_iret dX6_taken_33 (pg_narI _) ?_
    rw [takA_1 (fun q => h_20 q.1)] at k
    exact k
  · have h_20 := pg_b1 h_20
    obtain ⟨s, hs, rfl⟩ := up_ex 3 rfl (by decide) h_20
    have es : pn (nI s) = s := nI_clamp (by omega)
    have hs4 : s < 4 := by omega
    rw [es] at k
    obtain ⟨c0, c1, c2⟩ := hC s hs4
    refine go_iload_n (pc' := 24) dX6_taken_23 rfl rfl ?_
    refine go_if_ne (pc' := 27) (tgt := 34) dX6_taken_24 rfl (by decide) (fun h_24 => ?_) (fun h_24 => ?_)
    · refine go_aload_n (pc' := 35) dX6_taken_34 rfl rfl ?_
      refine go_getR (pc' := 38) dX6_taken_35 rfl flRX6_55 rfl rfl ?_
      refine go_iload_n (pc' := 39) dX6_taken_38 rfl rfl ?_
      refine go_aald (pc' := 40) s dX6_taken_39 rfl rfl (by decide) rfl hs4 (by decide) (shelf_rs s hs4) ?_
      refine go_astore (pc' := 42) dX6_taken_40 rfl (by decide) rfl ?_
      refine go_aload (pc' := 44) dX6_taken_42 rfl rfl ?_
      refine go_getI (pc' := 47) dX6_taken_44 rfl flRX6_280 (shelf_sh s hs4) rfl ?_
      rw [c0]
      refine go_iconst (pc' := 48) 1 dX6_taken_47 rfl (by decide) ?_
      refine go_icmp_ne (pc' := 51) (tgt := 74) dX6_taken_48 rfl (by decide) (fun h_48 => ?_) (fun h_48 => ?_)
      · refine go_aload_n (pc' := 75) dX6_taken_74 rfl rfl ?_
        refine go_aload (pc' := 77) dX6_taken_75 rfl rfl ?_
        refine go_cVi1 (pc' := 80) (M' := mX6_holdsSomebody) (d' := 2) dX6_taken_77 rfl cvRX6_286 rfl rfl (by decide) rfl (Nat.le_of_ble_eq_true rfl) ?_
        refine tX6_holdsSomebody h hs4 (hC s hs4) ?_
        refine go_if_ne (pc' := 83) (tgt := 86) dX6_taken_80 rfl (by decide) (fun h_80 => ?_) (fun h_80 => ?_)
        · have h_80 := pg_b1 h_80
          obtain ⟨p, hp, ep⟩ := pp_ex h_80.2
          have epn : pn (A s) = p := by rw [ep]; exact nI_clamp (by omega)
          obtain ⟨kd, hkd, ekd⟩ := wf.kind hp
          refine go_iload_n (pc' := 87) dX6_taken_86 rfl rfl ?_
          refine go_if_eq (pc' := 90) (tgt := 118) dX6_taken_87 rfl (by decide) (fun h_87 => absurd h_87 h_24) (fun h_87 => ?_)
          refine go_aload_n (pc' := 91) dX6_taken_90 rfl rfl ?_
          refine go_getR (pc' := 94) dX6_taken_91 rfl flRX6_10 rfl rfl ?_
          refine go_getR (pc' := 97) dX6_taken_94 rfl flRX6_115 rfl rfl ?_
          refine go_aload (pc' := 99) dX6_taken_97 rfl rfl ?_
          refine go_getI (pc' := 102) dX6_taken_99 rfl flRX6_290 (shelf_sh s hs4) rfl ?_
          rw [c1 h_80.1]
          refine go_iald (pc' := 103) p dX6_taken_102 rfl rfl ep (by omega) (by decide) ?_
          rw [c1_kind h hp, ekd]
          refine go_iload_n (pc' := 104) dX6_taken_103 rfl rfl ?_
          refine go_cSi2 (pc' := 107) (M' := mX6_isUnder) (d' := 2) dX6_taken_104 rfl csRX6_293 (by decide) rfl (Nat.le_of_ble_eq_true rfl) ?_
          have h_25 := pg_b1 h_24
          obtain ⟨u, hu, rfl⟩ := up_ex 5 rfl (by decide) h_25
          refine tX6_isUnder hkd (by omega) ?_
          refine go_if_eq (pc' := 110) (tgt := 118) dX6_taken_107 rfl (by decide) (fun h_107 => ?_) (fun h_107 => ?_)
          · have h_107 := pg_b0 h_107
            refine go_bipush (pc' := 120) (-13) dX6_taken_118 rfl (by decide) ?_
            refine go_iret dX6_taken_120 (pg_narI _) ?_
            have ok : UP (nI s) 3 ∧ (UP (nI u) 5 ∨ IN (nI u) 10 13) := ⟨h_20, Or.inl (pg_b1 h_24)⟩
            rw [takA_p ok h_48 h_80, epn, ekd, if_neg (fun q => h_107 q.2)] at k
            exact k
          · have h_107 := pg_b1 h_107
            refine go_aload (pc' := 112) dX6_taken_110 rfl rfl ?_
            refine go_getI (pc' := 115) dX6_taken_112 rfl flRX6_290 (shelf_sh s hs4) rfl ?_
            rw [c1 h_80.1]
            refine go_goto (pc' := 120) dX6_taken_115 (by decide) ?_
            refine go_iret dX6_taken_120 (pg_narI _) ?_
            have ok : UP (nI s) 3 ∧ (UP (nI u) 5 ∨ IN (nI u) 10 13) := ⟨h_20, Or.inl (pg_b1 h_24)⟩
            rw [takA_p ok h_48 h_80, epn, ekd, if_pos ⟨pg_b1 h_24, h_107⟩] at k
            exact k
        · have h_80 := pg_b0 h_80
          refine go_bipush (pc' := 85) (-11) dX6_taken_83 rfl (by decide) ?_
          refine go_iret dX6_taken_85 (pg_narI _) ?_
          have ok : UP (nI s) 3 ∧ (UP y 5 ∨ IN y 10 13) := ⟨h_20, Or.inl (pg_b1 h_24)⟩
          rw [takA_n ok h_48 h_80] at k
          exact k
      · refine go_aload (pc' := 53) dX6_taken_51 rfl rfl ?_
        refine go_getI (pc' := 56) dX6_taken_53 rfl flRX6_283 (shelf_sh s hs4) rfl ?_
        rw [(c2 h_48).1]
        refine go_iload_n (pc' := 57) dX6_taken_56 rfl rfl ?_
        refine go_bipush (pc' := 59) 10 dX6_taken_57 rfl (by decide) ?_
        refine go_isub (pc' := 60) dX6_taken_59 rfl ?_
        refine go_icmp_ne (pc' := 63) (tgt := 71) dX6_taken_60 rfl (by decide) (fun h_60 => ?_) (fun h_60 => ?_)
        · refine go_bipush (pc' := 73) (-13) dX6_taken_71 rfl (by decide) ?_
          refine go_iret dX6_taken_73 (pg_narI _) ?_
          have ok : UP (nI s) 3 ∧ (UP y 5 ∨ IN y 10 13) := ⟨h_20, Or.inl (pg_b1 h_24)⟩
          rw [takA_r ok h_48, if_neg h_60] at k
          exact k
        · refine go_aload (pc' := 65) dX6_taken_63 rfl rfl ?_
          refine go_getI (pc' := 68) dX6_taken_65 rfl flRX6_284 (shelf_sh s hs4) rfl ?_
          rw [(c2 h_48).2]
          refine go_goto (pc' := 73) dX6_taken_68 (by decide) ?_
          refine go_iret dX6_taken_73 (pg_narI _) ?_
          have ok : UP (nI s) 3 ∧ (UP y 5 ∨ IN y 10 13) := ⟨h_20, Or.inl (pg_b1 h_24)⟩
          rw [takA_r ok h_48, if_pos h_60] at k
          exact k
    · refine go_iload (pc' := 29) dX6_taken_27 rfl rfl ?_
      refine go_if_ne (pc' := 32) (tgt := 34) dX6_taken_29 rfl (by decide) (fun h_29 => ?_) (fun h_29 => ?_)
      · refine go_aload_n (pc' := 35) dX6_taken_34 rfl rfl ?_
        refine go_getR (pc' := 38) dX6_taken_35 rfl flRX6_55 rfl rfl ?_
        refine go_iload_n (pc' := 39) dX6_taken_38 rfl rfl ?_
        refine go_aald (pc' := 40) s dX6_taken_39 rfl rfl (by decide) rfl hs4 (by decide) (shelf_rs s hs4) ?_
        refine go_astore (pc' := 42) dX6_taken_40 rfl (by decide) rfl ?_
        refine go_aload (pc' := 44) dX6_taken_42 rfl rfl ?_
        refine go_getI (pc' := 47) dX6_taken_44 rfl flRX6_280 (shelf_sh s hs4) rfl ?_
        rw [c0]
        refine go_iconst (pc' := 48) 1 dX6_taken_47 rfl (by decide) ?_
        refine go_icmp_ne (pc' := 51) (tgt := 74) dX6_taken_48 rfl (by decide) (fun h_48 => ?_) (fun h_48 => ?_)
        · refine go_aload_n (pc' := 75) dX6_taken_74 rfl rfl ?_
          refine go_aload (pc' := 77) dX6_taken_75 rfl rfl ?_
          refine go_cVi1 (pc' := 80) (M' := mX6_holdsSomebody) (d' := 2) dX6_taken_77 rfl cvRX6_286 rfl rfl (by decide) rfl (Nat.le_of_ble_eq_true rfl) ?_
          refine tX6_holdsSomebody h hs4 (hC s hs4) ?_
          refine go_if_ne (pc' := 83) (tgt := 86) dX6_taken_80 rfl (by decide) (fun h_80 => ?_) (fun h_80 => ?_)
          · have h_80 := pg_b1 h_80
            obtain ⟨p, hp, ep⟩ := pp_ex h_80.2
            have epn : pn (A s) = p := by rw [ep]; exact nI_clamp (by omega)
            obtain ⟨kd, hkd, ekd⟩ := wf.kind hp
            refine go_iload_n (pc' := 87) dX6_taken_86 rfl rfl ?_
            refine go_if_eq (pc' := 90) (tgt := 118) dX6_taken_87 rfl (by decide) (fun h_87 => ?_) (fun h_87 => absurd h_24 h_87)
            refine go_bipush (pc' := 120) (-13) dX6_taken_118 rfl (by decide) ?_
            refine go_iret dX6_taken_120 (pg_narI _) ?_
            have ok : UP (nI s) 3 ∧ (UP y 5 ∨ IN y 10 13) := ⟨h_20, Or.inr (pg_b1 h_29)⟩
            rw [takA_p ok h_48 h_80, if_neg (fun q => pg_b0 h_24 q.1)] at k
            exact k
          · have h_80 := pg_b0 h_80
            refine go_bipush (pc' := 85) (-11) dX6_taken_83 rfl (by decide) ?_
            refine go_iret dX6_taken_85 (pg_narI _) ?_
            have ok : UP (nI s) 3 ∧ (UP y 5 ∨ IN y 10 13) := ⟨h_20, Or.inr (pg_b1 h_29)⟩
            rw [takA_n ok h_48 h_80] at k
            exact k
        · refine go_aload (pc' := 53) dX6_taken_51 rfl rfl ?_
          refine go_getI (pc' := 56) dX6_taken_53 rfl flRX6_283 (shelf_sh s hs4) rfl ?_
          rw [(c2 h_48).1]
          refine go_iload_n (pc' := 57) dX6_taken_56 rfl rfl ?_
          refine go_bipush (pc' := 59) 10 dX6_taken_57 rfl (by decide) ?_
          refine go_isub (pc' := 60) dX6_taken_59 rfl ?_
          refine go_icmp_ne (pc' := 63) (tgt := 71) dX6_taken_60 rfl (by decide) (fun h_60 => ?_) (fun h_60 => ?_)
          · refine go_bipush (pc' := 73) (-13) dX6_taken_71 rfl (by decide) ?_
            refine go_iret dX6_taken_73 (pg_narI _) ?_
            have ok : UP (nI s) 3 ∧ (UP y 5 ∨ IN y 10 13) := ⟨h_20, Or.inr (pg_b1 h_29)⟩
            rw [takA_r ok h_48, if_neg h_60] at k
            exact k
          · refine go_aload (pc' := 65) dX6_taken_63 rfl rfl ?_
            refine go_getI (pc' := 68) dX6_taken_65 rfl flRX6_284 (shelf_sh s hs4) rfl ?_
            rw [(c2 h_48).2]
            refine go_goto (pc' := 73) dX6_taken_68 (by decide) ?_
            refine go_iret dX6_taken_73 (pg_narI _) ?_
            have ok : UP (nI s) 3 ∧ (UP y 5 ∨ IN y 10 13) := ⟨h_20, Or.inr (pg_b1 h_29)⟩
            rw [takA_r ok h_48, if_pos h_60] at k
            exact k
      · refine go_iconst (pc' := 33) (-1) dX6_taken_32 rfl (by decide) ?_
        refine go_iret dX6_taken_33 (pg_narI _) ?_
        rw [takA_1 (fun q => q.2.elim (pg_b0 h_24) (pg_b0 h_29))] at k
        exact k

set_option maxHeartbeats 4000000 in
set_option maxRecDepth 20000 in
theorem tX7_isHeld {sc : pg_Sc} {g : pg_S} {K : Int32 → pg_S → Prop} {T : TW} {n : Nat} {y z : Int32} (h : MR g 60 T n) (wf : WF T n) (k : K (if (y = 0 ∧ PP n z) ∨ (y = 1 ∧ UP z 3) ∨ y = 2 then 1 else 0) g) : pg_Cal sc 3 mX7_isHeld [.ref 59, .int y, .int z] g (pg_ki K) := by
  refine pg_Cal.of rfl (Nat.le_of_ble_eq_true rfl) rfl ?_
  refine go_iload_n (pc' := 1) dX7_isHeld_0 rfl rfl ?_
  refine go_if_ne (pc' := 4) (tgt := 12) dX7_isHeld_1 rfl (by decide) (fun h_1 => ?_) (fun h_1 => ?_)
  · refine go_iload_n (pc' := 13) dX7_isHeld_12 rfl rfl ?_
    refine go_iconst (pc' := 14) 1 dX7_isHeld_13 rfl (by decide) ?_
    refine go_icmp_ne (pc' := 17) (tgt := 24) dX7_isHeld_14 rfl (by decide) (fun h_14 => ?_) (fun h_14 => ?_)
    · refine go_iload_n (pc' := 25) dX7_isHeld_24 rfl rfl ?_
      refine go_iconst (pc' := 26) 2 dX7_isHeld_25 rfl (by decide) ?_
      refine go_icmp_ne (pc' := 29) (tgt := 33) dX7_isHeld_26 rfl (by decide) (fun h_26 => ?_) (fun h_26 => ?_)
      · refine go_iconst (pc' := 34) 0 dX7_isHeld_33 rfl (by decide) ?_
        refine go_iret dX7_isHeld_34 (by first | exact pg_nar1 | exact pg_nar0 | exact pg_narB) ?_
        rw [if_neg (fun q => by rcases q with q | q | q; exact h_1 q.1; exact h_14 q.1; exact h_26 q)] at k
        exact k
      · refine go_iconst (pc' := 30) 1 dX7_isHeld_29 rfl (by decide) ?_
        refine go_goto (pc' := 34) dX7_isHeld_30 (by decide) ?_
        refine go_iret dX7_isHeld_34 (by first | exact pg_nar1 | exact pg_nar0 | exact pg_narB) ?_
        rw [if_pos (Or.inr (Or.inr h_26))] at k
        exact k
    · refine go_iload_n (pc' := 18) dX7_isHeld_17 rfl rfl ?_
      refine go_cSi1 (pc' := 21) (M' := mX7_isShelf) (d' := 2) dX7_isHeld_18 rfl csRX7_293 (by decide) rfl (Nat.le_of_ble_eq_true rfl) ?_
      refine tX7_isShelf ?_
      refine go_goto (pc' := 34) dX7_isHeld_21 (by decide) ?_
      refine go_iret dX7_isHeld_34 (by first | exact pg_nar1 | exact pg_nar0 | exact pg_narB) ?_
      by_cases e : UP z 3
      · rw [if_pos e]; rw [if_pos (Or.inr (Or.inl ⟨h_14, e⟩))] at k; exact k
      · rw [if_neg e]; rw [if_neg (fun q => by rcases q with q | q | q; exact h_1 q.1; exact e q.2; exact absurd (h_14.symm.trans q) (by decide))] at k; exact k
  · refine go_aload_n (pc' := 5) dX7_isHeld_4 rfl rfl ?_
    refine go_iload_n (pc' := 6) dX7_isHeld_5 rfl rfl ?_
    refine go_cVi1 (pc' := 9) (M' := mX7_isOne) (d' := 2) dX7_isHeld_6 rfl cvRX7_220 rfl rfl (by decide) rfl (Nat.le_of_ble_eq_true rfl) ?_
    refine tX7_isOne h wf ?_
    refine go_goto (pc' := 34) dX7_isHeld_9 (by decide) ?_
    refine go_iret dX7_isHeld_34 (by first | exact pg_nar1 | exact pg_nar0 | exact pg_narB) ?_
    by_cases e : PP n z
    · rw [if_pos e]; rw [if_pos (Or.inl ⟨h_1, e⟩)] at k; exact k
    · rw [if_neg e]; rw [if_neg (fun q => by rcases q with q | q | q; exact e q.2; exact absurd (h_1.symm.trans q.1) (by decide); exact absurd (h_1.symm.trans q) (by decide))] at k; exact k

set_option maxHeartbeats 4000000 in
set_option maxRecDepth 20000 in
theorem tX7_shelf {sc : pg_Sc} {g : pg_S} {K : Int32 → pg_S → Prop} {T : TW} {n : Nat} {x y z : Int32} (hS : ∀ s, s < 4 → (∃ c, c ≤ 40 ∧ g.1 69 s = nI c) ∧ ∃ k, k ≤ 4 ∧ g.1 68 s = nI k - 1) (h : MR g 60 T n) (wf : WF T n) (k1 : ¬ OKS n x y z → K (-1) g) (k2 : OKS n x y z → ∀ g', MS g' (pn x) (shH y (g.1 68 (pn z))) (shN y (g.1 68 (pn z)) z) (g.1 69 (pn z)) → (∀ j, j ≠ pn x → g'.1 71 j = g.1 71 j ∧ g'.1 72 j = g.1 72 j ∧ g'.1 73 j = g.1 73 j) → FL [71, 72, 73] g g' → K 1 g') : pg_Cal sc 4 mX7_shelf [.ref 59, .int x, .int y, .int z] g (pg_ki K) := by
  refine pg_Cal.of rfl (Nat.le_of_ble_eq_true rfl) rfl ?_
  have hn := wf.1
  refine go_iload_n (pc' := 1) dX7_shelf_0 rfl rfl ?_
  refine go_cSi1 (pc' := 4) (M' := mX7_isShelf) (d' := 2) dX7_shelf_1 rfl csRX7_293 (by decide) rfl (Nat.le_of_ble_eq_true rfl) ?_
  refine tX7_isShelf ?_
  refine go_if_eq (pc' := 7) (tgt := 16) dX7_shelf_4 rfl (by decide) (fun h_4 => ?_) (fun h_4 => ?_)
  · have h_4 := pg_b0 h_4
    refine go_iconst (pc' := 17) (-1) dX7_shelf_16 rfl (by decide) ?_
    refine go_iret dX7_shelf_17 (pg_narI _) ?_
    exact k1 (fun q => h_4 q.1)
  · have h_4 := pg_b1 h_4
    obtain ⟨s, hs, rfl⟩ := up_ex 3 rfl (by decide) h_4
    have es : pn (nI s) = s := nI_clamp (by omega)
    have hs4 : s < 4 := by omega
    rw [es] at k2
    refine go_aload_n (pc' := 8) dX7_shelf_7 rfl rfl ?_
    refine go_iload_n (pc' := 9) dX7_shelf_8 rfl rfl ?_
    refine go_iload_n (pc' := 10) dX7_shelf_9 rfl rfl ?_
    refine go_cVi2 (pc' := 13) (M' := mX7_isHeld) (d' := 3) dX7_shelf_10 rfl cvRX7_322 rfl rfl (by decide) rfl (Nat.le_of_ble_eq_true rfl) ?_
    refine tX7_isHeld h wf ?_
    refine go_if_ne (pc' := 16) (tgt := 18) dX7_shelf_13 rfl (by decide) (fun h_13 => ?_) (fun h_13 => ?_)
    · have h_13 := pg_b1 h_13
      refine go_aload_n (pc' := 19) dX7_shelf_18 rfl rfl ?_
      refine go_getR (pc' := 22) dX7_shelf_19 rfl flRX7_44 rfl rfl ?_
      refine go_iload_n (pc' := 23) dX7_shelf_22 rfl rfl ?_
      refine go_iload_n (pc' := 24) dX7_shelf_23 rfl rfl ?_
      refine go_iconst (pc' := 25) 2 dX7_shelf_24 rfl (by decide) ?_
      refine go_icmp_eq (pc' := 28) (tgt := 42) dX7_shelf_25 rfl (by decide) (fun h_25 => ?_) (fun h_25 => ?_)
      · refine go_iconst (pc' := 43) (-1) dX7_shelf_42 rfl (by decide) ?_
        refine go_goto (pc' := 47) dX7_shelf_43 (by decide) ?_
        refine go_iast (pc' := 48) s dX7_shelf_47 rfl rfl rfl hs4 (by decide) ?_
        refine go_gen (fun g1 e1 => ?_)
        refine go_aload_n (pc' := 49) dX7_shelf_48 rfl rfl ?_
        refine go_getR (pc' := 52) dX7_shelf_49 rfl flRX7_47 rfl rfl ?_
        refine go_iload_n (pc' := 53) dX7_shelf_52 rfl rfl ?_
        refine go_iload_n (pc' := 54) dX7_shelf_53 rfl rfl ?_
        refine go_iconst (pc' := 55) 1 dX7_shelf_54 rfl (by decide) ?_
        refine go_icmp_ne (pc' := 58) (tgt := 67) dX7_shelf_55 rfl (by decide) (fun h_55 => ?_) (fun h_55 => absurd (h_25.symm.trans h_55) (by decide))
        refine go_iload_n (pc' := 68) dX7_shelf_67 rfl rfl ?_
        refine go_iast (pc' := 69) s dX7_shelf_68 rfl rfl rfl hs4 (by decide) ?_
        refine go_gen (fun g2 e2 => ?_)
        refine go_aload_n (pc' := 70) dX7_shelf_69 rfl rfl ?_
        refine go_getR (pc' := 73) dX7_shelf_70 rfl flRX7_50 rfl rfl ?_
        refine go_iload_n (pc' := 74) dX7_shelf_73 rfl rfl ?_
        refine go_iload_n (pc' := 75) dX7_shelf_74 rfl rfl ?_
        refine go_iconst (pc' := 76) 1 dX7_shelf_75 rfl (by decide) ?_
        refine go_icmp_ne (pc' := 79) (tgt := 88) dX7_shelf_76 rfl (by decide) (fun h_76 => ?_) (fun h_76 => absurd (h_25.symm.trans h_76) (by decide))
        refine go_iconst (pc' := 89) 0 dX7_shelf_88 rfl (by decide) ?_
        refine go_iast (pc' := 90) s dX7_shelf_89 rfl rfl rfl hs4 (by decide) ?_
        refine go_gen (fun g3 e3 => ?_)
        refine go_iconst (pc' := 91) 1 dX7_shelf_90 rfl (by decide) ?_
        refine go_iret dX7_shelf_91 (pg_narI _) ?_
        have hfl : FL [71, 72, 73] g g3 := by rw [e3, e2, e1]; exact FL.tr (FL.tr (FL.ui (by decide)) (FL.ui (by decide))) (FL.ui (by decide))
        subst h_25
        refine k2 ⟨h_4, h_13⟩ g3 ⟨?_, fun q => absurd ((shH_2 _).symm.trans q) (by decide), fun q => absurd ((shH_2 _).symm.trans q) (by decide)⟩ ?_ hfl
        · rw [e3, e2, e1]; simp [pg_ui_at, shH]
        · intro j hj
          rw [e3, e2, e1]; simp [pg_ui_at, hj]
      · refine go_iload_n (pc' := 29) dX7_shelf_28 rfl rfl ?_
        refine go_iconst (pc' := 30) 1 dX7_shelf_29 rfl (by decide) ?_
        refine go_icmp_ne (pc' := 33) (tgt := 46) dX7_shelf_30 rfl (by decide) (fun h_30 => ?_) (fun h_30 => ?_)
        · refine go_iload_n (pc' := 47) dX7_shelf_46 rfl rfl ?_
          refine go_iast (pc' := 48) s dX7_shelf_47 rfl rfl rfl hs4 (by decide) ?_
          refine go_gen (fun g1 e1 => ?_)
          refine go_aload_n (pc' := 49) dX7_shelf_48 rfl rfl ?_
          refine go_getR (pc' := 52) dX7_shelf_49 rfl flRX7_47 rfl rfl ?_
          refine go_iload_n (pc' := 53) dX7_shelf_52 rfl rfl ?_
          refine go_iload_n (pc' := 54) dX7_shelf_53 rfl rfl ?_
          refine go_iconst (pc' := 55) 1 dX7_shelf_54 rfl (by decide) ?_
          refine go_icmp_ne (pc' := 58) (tgt := 67) dX7_shelf_55 rfl (by decide) (fun h_55 => ?_) (fun h_55 => absurd h_55 h_30)
          refine go_iload_n (pc' := 68) dX7_shelf_67 rfl rfl ?_
          refine go_iast (pc' := 69) s dX7_shelf_68 rfl rfl rfl hs4 (by decide) ?_
          refine go_gen (fun g2 e2 => ?_)
          refine go_aload_n (pc' := 70) dX7_shelf_69 rfl rfl ?_
          refine go_getR (pc' := 73) dX7_shelf_70 rfl flRX7_50 rfl rfl ?_
          refine go_iload_n (pc' := 74) dX7_shelf_73 rfl rfl ?_
          refine go_iload_n (pc' := 75) dX7_shelf_74 rfl rfl ?_
          refine go_iconst (pc' := 76) 1 dX7_shelf_75 rfl (by decide) ?_
          refine go_icmp_ne (pc' := 79) (tgt := 88) dX7_shelf_76 rfl (by decide) (fun h_76 => ?_) (fun h_76 => absurd h_76 h_30)
          refine go_iconst (pc' := 89) 0 dX7_shelf_88 rfl (by decide) ?_
          refine go_iast (pc' := 90) s dX7_shelf_89 rfl rfl rfl hs4 (by decide) ?_
          refine go_gen (fun g3 e3 => ?_)
          refine go_iconst (pc' := 91) 1 dX7_shelf_90 rfl (by decide) ?_
          refine go_iret dX7_shelf_91 (pg_narI _) ?_
          have hfl : FL [71, 72, 73] g g3 := by rw [e3, e2, e1]; exact FL.tr (FL.tr (FL.ui (by decide)) (FL.ui (by decide))) (FL.ui (by decide))
          have y0 : y = 0 := by rcases h_13 with q | q | q; exact q.1; exact absurd q.1 h_30; exact absurd q h_25
          subst y0
          refine k2 ⟨h_4, h_13⟩ g3 ⟨?_, fun _ => ?_, fun q => absurd ((shH_0 _).symm.trans q) (by decide)⟩ ?_ hfl
          · rw [e3, e2, e1]; simp [pg_ui_at, shH]
          · rw [e3, e2, e1]; simp [pg_ui_at, shN]
          · intro j hj
            rw [e3, e2, e1]; simp [pg_ui_at, hj]
        · have h_31 : UP z 3 := by rcases h_13 with q | q | q; exact absurd (h_30.symm.trans q.1) (by decide); exact q.2; exact absurd q h_25
          obtain ⟨t, ht, rfl⟩ := up_ex 3 rfl (by decide) h_31
          have et : pn (nI t) = t := nI_clamp (by omega)
          have ht4 : t < 4 := by omega
          obtain ⟨⟨ct, hct, ect⟩, hk⟩ := hS t ht4
          refine go_aload_n (pc' := 34) dX7_shelf_33 rfl rfl ?_
          refine go_getR (pc' := 37) dX7_shelf_34 rfl flRX7_34 rfl rfl ?_
          refine go_iload_n (pc' := 38) dX7_shelf_37 rfl rfl ?_
          refine go_iald (pc' := 39) t dX7_shelf_38 rfl rfl rfl ht4 (by decide) ?_
          refine go_if_ge (pc' := 42) (tgt := 46) dX7_shelf_39 rfl (by decide) (fun h_39 => ?_) (fun h_39 => ?_)
          · refine go_iload_n (pc' := 47) dX7_shelf_46 rfl rfl ?_
            refine go_iast (pc' := 48) s dX7_shelf_47 rfl rfl rfl hs4 (by decide) ?_
            refine go_gen (fun g1 e1 => ?_)
            refine go_aload_n (pc' := 49) dX7_shelf_48 rfl rfl ?_
            refine go_getR (pc' := 52) dX7_shelf_49 rfl flRX7_47 rfl rfl ?_
            refine go_iload_n (pc' := 53) dX7_shelf_52 rfl rfl ?_
            refine go_iload_n (pc' := 54) dX7_shelf_53 rfl rfl ?_
            refine go_iconst (pc' := 55) 1 dX7_shelf_54 rfl (by decide) ?_
            refine go_icmp_ne (pc' := 58) (tgt := 67) dX7_shelf_55 rfl (by decide) (fun h_55 => absurd h_30 h_55) (fun h_55 => ?_)
            refine go_aload_n (pc' := 59) dX7_shelf_58 rfl rfl ?_
            refine go_getR (pc' := 62) dX7_shelf_59 rfl flRX7_34 rfl rfl ?_
            refine go_iload_n (pc' := 63) dX7_shelf_62 rfl rfl ?_
            refine go_iald (pc' := 64) t dX7_shelf_63 rfl rfl rfl ht4 (by decide) ?_
            rw [show g1.1 68 t = g.1 68 t by rw [e1]; exact rd_ui (by omega)]
            refine go_goto (pc' := 68) dX7_shelf_64 (by decide) ?_
            refine go_iast (pc' := 69) s dX7_shelf_68 rfl rfl rfl hs4 (by decide) ?_
            refine go_gen (fun g2 e2 => ?_)
            refine go_aload_n (pc' := 70) dX7_shelf_69 rfl rfl ?_
            refine go_getR (pc' := 73) dX7_shelf_70 rfl flRX7_50 rfl rfl ?_
            refine go_iload_n (pc' := 74) dX7_shelf_73 rfl rfl ?_
            refine go_iload_n (pc' := 75) dX7_shelf_74 rfl rfl ?_
            refine go_iconst (pc' := 76) 1 dX7_shelf_75 rfl (by decide) ?_
            refine go_icmp_ne (pc' := 79) (tgt := 88) dX7_shelf_76 rfl (by decide) (fun h_76 => absurd h_30 h_76) (fun h_76 => ?_)
            refine go_aload_n (pc' := 80) dX7_shelf_79 rfl rfl ?_
            refine go_getR (pc' := 83) dX7_shelf_80 rfl flRX7_37 rfl rfl ?_
            refine go_iload_n (pc' := 84) dX7_shelf_83 rfl rfl ?_
            refine go_iald (pc' := 85) t dX7_shelf_84 rfl rfl rfl ht4 (by decide) ?_
            rw [show g2.1 69 t = g.1 69 t by rw [e2, e1]; exact (rd_ui (by omega)).trans (rd_ui (by omega))]
            refine go_goto (pc' := 89) dX7_shelf_85 (by decide) ?_
            refine go_iast (pc' := 90) s dX7_shelf_89 rfl rfl rfl hs4 (by decide) ?_
            refine go_gen (fun g3 e3 => ?_)
            refine go_iconst (pc' := 91) 1 dX7_shelf_90 rfl (by decide) ?_
            refine go_iret dX7_shelf_91 (pg_narI _) ?_
            have hfl : FL [71, 72, 73] g g3 := by rw [e3, e2, e1]; exact FL.tr (FL.tr (FL.ui (by decide)) (FL.ui (by decide))) (FL.ui (by decide))
            have hso : ¬ g.1 68 t = -1 := fun q => pg_lt_nle ((sort_lt hk).mpr q) h_39
            subst h_30
            refine k2 ⟨h_4, h_13⟩ g3 ⟨?_, fun q => ?_, fun q => ?_⟩ ?_ hfl
            · rw [e3, e2, e1, et, shH_1 hso]; simp [pg_ui_at]
            · rw [et, shH_1 hso] at q; exact absurd q (by decide)
            · rw [e3, e2, e1, et]; simp [pg_ui_at, shN]
            · intro j hj
              rw [e3, e2, e1]; simp [pg_ui_at, hj]
          · refine go_iconst (pc' := 43) (-1) dX7_shelf_42 rfl (by decide) ?_
            refine go_goto (pc' := 47) dX7_shelf_43 (by decide) ?_
            refine go_iast (pc' := 48) s dX7_shelf_47 rfl rfl rfl hs4 (by decide) ?_
            refine go_gen (fun g1 e1 => ?_)
            refine go_aload_n (pc' := 49) dX7_shelf_48 rfl rfl ?_
            refine go_getR (pc' := 52) dX7_shelf_49 rfl flRX7_47 rfl rfl ?_
            refine go_iload_n (pc' := 53) dX7_shelf_52 rfl rfl ?_
            refine go_iload_n (pc' := 54) dX7_shelf_53 rfl rfl ?_
            refine go_iconst (pc' := 55) 1 dX7_shelf_54 rfl (by decide) ?_
            refine go_icmp_ne (pc' := 58) (tgt := 67) dX7_shelf_55 rfl (by decide) (fun h_55 => absurd h_30 h_55) (fun h_55 => ?_)
            refine go_aload_n (pc' := 59) dX7_shelf_58 rfl rfl ?_
            refine go_getR (pc' := 62) dX7_shelf_59 rfl flRX7_34 rfl rfl ?_
            refine go_iload_n (pc' := 63) dX7_shelf_62 rfl rfl ?_
            refine go_iald (pc' := 64) t dX7_shelf_63 rfl rfl rfl ht4 (by decide) ?_
            rw [show g1.1 68 t = g.1 68 t by rw [e1]; exact rd_ui (by omega)]
            refine go_goto (pc' := 68) dX7_shelf_64 (by decide) ?_
            refine go_iast (pc' := 69) s dX7_shelf_68 rfl rfl rfl hs4 (by decide) ?_
            refine go_gen (fun g2 e2 => ?_)
            refine go_aload_n (pc' := 70) dX7_shelf_69 rfl rfl ?_
            refine go_getR (pc' := 73) dX7_shelf_70 rfl flRX7_50 rfl rfl ?_
            refine go_iload_n (pc' := 74) dX7_shelf_73 rfl rfl ?_
            refine go_iload_n (pc' := 75) dX7_shelf_74 rfl rfl ?_
            refine go_iconst (pc' := 76) 1 dX7_shelf_75 rfl (by decide) ?_
            refine go_icmp_ne (pc' := 79) (tgt := 88) dX7_shelf_76 rfl (by decide) (fun h_76 => absurd h_30 h_76) (fun h_76 => ?_)
            refine go_aload_n (pc' := 80) dX7_shelf_79 rfl rfl ?_
            refine go_getR (pc' := 83) dX7_shelf_80 rfl flRX7_37 rfl rfl ?_
            refine go_iload_n (pc' := 84) dX7_shelf_83 rfl rfl ?_
            refine go_iald (pc' := 85) t dX7_shelf_84 rfl rfl rfl ht4 (by decide) ?_
            rw [show g2.1 69 t = g.1 69 t by rw [e2, e1]; exact (rd_ui (by omega)).trans (rd_ui (by omega))]
            refine go_goto (pc' := 89) dX7_shelf_85 (by decide) ?_
            refine go_iast (pc' := 90) s dX7_shelf_89 rfl rfl rfl hs4 (by decide) ?_
            refine go_gen (fun g3 e3 => ?_)
            refine go_iconst (pc' := 91) 1 dX7_shelf_90 rfl (by decide) ?_
            refine go_iret dX7_shelf_91 (pg_narI _) ?_
            have hfl : FL [71, 72, 73] g g3 := by rw [e3, e2, e1]; exact FL.tr (FL.tr (FL.ui (by decide)) (FL.ui (by decide))) (FL.ui (by decide))
            have hso : g.1 68 t = -1 := (sort_lt hk).mp (pg_nle_lt h_39)
            subst h_30
            refine k2 ⟨h_4, h_13⟩ g3 ⟨?_, fun q => ?_, fun q => ?_⟩ ?_ hfl
            · rw [e3, e2, e1, et, shH_m hso]; simp [pg_ui_at]
            · rw [et, shH_m hso] at q; exact absurd q (by decide)
            · rw [et, shH_m hso] at q; exact absurd q (by decide)
            · intro j hj
              rw [e3, e2, e1]; simp [pg_ui_at, hj]
    · have h_13 := pg_b0 h_13
      refine go_iconst (pc' := 17) (-1) dX7_shelf_16 rfl (by decide) ?_
      refine go_iret dX7_shelf_17 (pg_narI _) ?_
      exact k1 (fun q => h_13 q.2)

set_option maxHeartbeats 4000000 in
set_option maxRecDepth 20000 in
theorem tX7_kindOn_0 {sc : pg_Sc} {g : pg_S} {K : Int32 → pg_S → Prop} {T : TW} {n : Nat} {s : Nat} {a : Int32} (h : MR g 60 T n) (wf : WF T n) (hs4 : s < 4) (c0 : g.1 71 s = 0) (c1 : g.1 72 s = a) (k : K (koF T n 0 a) g) : pg_Cal sc 3 mX7_kindOn [.ref 59, .int (nI s)] g (pg_ki K) := by
  refine pg_Cal.of rfl (Nat.le_of_ble_eq_true rfl) rfl ?_
  have hn := wf.1
  refine go_aload_n (pc' := 1) dX7_kindOn_0 rfl rfl ?_
  refine go_getR (pc' := 4) dX7_kindOn_1 rfl flRX7_44 rfl rfl ?_
  refine go_iload_n (pc' := 5) dX7_kindOn_4 rfl rfl ?_
  refine go_iald (pc' := 6) s dX7_kindOn_5 rfl rfl rfl hs4 (by decide) ?_
  rw [c0]
  refine go_if_eq (pc' := 9) (tgt := 25) dX7_kindOn_6 rfl (by decide) (fun h_6 => ?_) (fun h_6 => absurd (rfl) h_6)
  refine go_aload_n (pc' := 26) dX7_kindOn_25 rfl rfl ?_
  refine go_aload_n (pc' := 27) dX7_kindOn_26 rfl rfl ?_
  refine go_getR (pc' := 30) dX7_kindOn_27 rfl flRX7_47 rfl rfl ?_
  refine go_iload_n (pc' := 31) dX7_kindOn_30 rfl rfl ?_
  refine go_iald (pc' := 32) s dX7_kindOn_31 rfl rfl rfl hs4 (by decide) ?_
  rw [c1]
  refine go_cVi1 (pc' := 35) (M' := mX7_isOne) (d' := 2) dX7_kindOn_32 rfl cvRX7_220 rfl rfl (by decide) rfl (Nat.le_of_ble_eq_true rfl) ?_
  refine tX7_isOne h wf ?_
  refine go_if_eq (pc' := 38) (tgt := 52) dX7_kindOn_35 rfl (by decide) (fun h_35 => ?_) (fun h_35 => ?_)
  · have h_35 := pg_b0 h_35
    refine go_iconst (pc' := 53) (-1) dX7_kindOn_52 rfl (by decide) ?_
    refine go_iret dX7_kindOn_53 (pg_narI _) ?_
    unfold koF at k
    rw [if_pos rfl, if_neg h_35] at k
    exact k
  · have h_35 := pg_b1 h_35
    have h_36 := h_35
    obtain ⟨p, hp, rfl⟩ := pp_ex h_35
    have ep : pn (nI p) = p := nI_clamp (by omega)
    refine go_aload_n (pc' := 39) dX7_kindOn_38 rfl rfl ?_
    refine go_aload_n (pc' := 40) dX7_kindOn_39 rfl rfl ?_
    refine go_getR (pc' := 43) dX7_kindOn_40 rfl flRX7_47 rfl rfl ?_
    refine go_iload_n (pc' := 44) dX7_kindOn_43 rfl rfl ?_
    refine go_iald (pc' := 45) s dX7_kindOn_44 rfl rfl rfl hs4 (by decide) ?_
    rw [c1]
    refine go_iconst (pc' := 46) 0 dX7_kindOn_45 rfl (by decide) ?_
    refine go_cVi2 (pc' := 49) (M' := mX7_its) (d' := 1) dX7_kindOn_46 rfl cvRX7_217 rfl rfl (by decide) rfl (Nat.le_of_ble_eq_true rfl) ?_
    refine tX7_its0 h wf hp ?_
    refine go_goto (pc' := 53) dX7_kindOn_49 (by decide) ?_
    refine go_iret dX7_kindOn_53 (pg_narI _) ?_
    unfold koF at k
    rw [if_pos rfl, if_pos h_36, ep] at k
    exact k

set_option maxHeartbeats 4000000 in
set_option maxRecDepth 20000 in
theorem tX7_kindOn_1 {sc : pg_Sc} {g : pg_S} {K : Int32 → pg_S → Prop} {T : TW} {n : Nat} {s : Nat} {a : Int32} (h : MR g 60 T n) (wf : WF T n) (hs4 : s < 4) (c0 : g.1 71 s = 1) (k : K (koF T n 1 a) g) : pg_Cal sc 3 mX7_kindOn [.ref 59, .int (nI s)] g (pg_ki K) := by
  refine pg_Cal.of rfl (Nat.le_of_ble_eq_true rfl) rfl ?_
  have hn := wf.1
  refine go_aload_n (pc' := 1) dX7_kindOn_0 rfl rfl ?_
  refine go_getR (pc' := 4) dX7_kindOn_1 rfl flRX7_44 rfl rfl ?_
  refine go_iload_n (pc' := 5) dX7_kindOn_4 rfl rfl ?_
  refine go_iald (pc' := 6) s dX7_kindOn_5 rfl rfl rfl hs4 (by decide) ?_
  rw [c0]
  refine go_if_eq (pc' := 9) (tgt := 25) dX7_kindOn_6 rfl (by decide) (fun h_6 => absurd h_6 (by decide)) (fun h_6 => ?_)
  refine go_aload_n (pc' := 10) dX7_kindOn_9 rfl rfl ?_
  refine go_getR (pc' := 13) dX7_kindOn_10 rfl flRX7_44 rfl rfl ?_
  refine go_iload_n (pc' := 14) dX7_kindOn_13 rfl rfl ?_
  refine go_iald (pc' := 15) s dX7_kindOn_14 rfl rfl rfl hs4 (by decide) ?_
  rw [c0]
  refine go_if_ge (pc' := 18) (tgt := 22) dX7_kindOn_15 rfl (by decide) (fun h_15 => ?_) (fun h_15 => absurd (by decide) h_15)
  refine go_bipush (pc' := 24) 9 dX7_kindOn_22 rfl (by decide) ?_
  refine go_iret dX7_kindOn_24 (pg_narI _) ?_
  exact k

set_option maxHeartbeats 4000000 in
set_option maxRecDepth 20000 in
theorem tX7_kindOn_2 {sc : pg_Sc} {g : pg_S} {K : Int32 → pg_S → Prop} {T : TW} {n : Nat} {s : Nat} {a : Int32} (h : MR g 60 T n) (wf : WF T n) (hs4 : s < 4) (c0 : g.1 71 s = (-1)) (k : K (koF T n 2 a) g) : pg_Cal sc 3 mX7_kindOn [.ref 59, .int (nI s)] g (pg_ki K) := by
  refine pg_Cal.of rfl (Nat.le_of_ble_eq_true rfl) rfl ?_
  have hn := wf.1
  refine go_aload_n (pc' := 1) dX7_kindOn_0 rfl rfl ?_
  refine go_getR (pc' := 4) dX7_kindOn_1 rfl flRX7_44 rfl rfl ?_
  refine go_iload_n (pc' := 5) dX7_kindOn_4 rfl rfl ?_
  refine go_iald (pc' := 6) s dX7_kindOn_5 rfl rfl rfl hs4 (by decide) ?_
  rw [c0]
  refine go_if_eq (pc' := 9) (tgt := 25) dX7_kindOn_6 rfl (by decide) (fun h_6 => absurd h_6 (by decide)) (fun h_6 => ?_)
  refine go_aload_n (pc' := 10) dX7_kindOn_9 rfl rfl ?_
  refine go_getR (pc' := 13) dX7_kindOn_10 rfl flRX7_44 rfl rfl ?_
  refine go_iload_n (pc' := 14) dX7_kindOn_13 rfl rfl ?_
  refine go_iald (pc' := 15) s dX7_kindOn_14 rfl rfl rfl hs4 (by decide) ?_
  rw [c0]
  refine go_if_ge (pc' := 18) (tgt := 22) dX7_kindOn_15 rfl (by decide) (fun h_15 => absurd h_15 (by decide)) (fun h_15 => ?_)
  refine go_iconst (pc' := 19) (-1) dX7_kindOn_18 rfl (by decide) ?_
  refine go_goto (pc' := 24) dX7_kindOn_19 (by decide) ?_
  refine go_iret dX7_kindOn_24 (pg_narI _) ?_
  exact k

theorem tX7_kindOn {sc : pg_Sc} {g : pg_S} {K : Int32 → pg_S → Prop} {T : TW} {n : Nat} {s : Nat} {h0 a b : Int32} (h : MR g 60 T n) (wf : WF T n) (hs4 : s < 4) (hm : MS g s h0 a b) (hv : h0 = 0 ∨ h0 = 1 ∨ h0 = 2) (k : K (koF T n h0 a) g) : pg_Cal sc 3 mX7_kindOn [.ref 59, .int (nI s)] g (pg_ki K) := by
  obtain ⟨c0, c1, c2⟩ := hm
  rcases hv with rfl | rfl | rfl
  · exact tX7_kindOn_0 h wf hs4 c0 (c1 rfl) k
  · exact tX7_kindOn_1 (a := a) h wf hs4 c0 k
  · exact tX7_kindOn_2 (a := a) h wf hs4 c0 k
set_option maxHeartbeats 4000000 in
set_option maxRecDepth 20000 in
theorem tX7_isUnder {sc : pg_Sc} {g : pg_S} {K : Int32 → pg_S → Prop} {v u : Int32}  (k : K (if UND v u then 1 else 0) g) : pg_Cal sc 1 mX7_isUnder [.int v, .int u] g (pg_ki K) := by
  refine pg_Cal.of rfl (Nat.le_of_ble_eq_true rfl) rfl ?_
  refine go_iload_n (pc' := 1) dX7_isUnder_0 rfl rfl ?_
  refine go_if_eq (pc' := 4) (tgt := 29) dX7_isUnder_1 rfl (by decide) (fun h_1 => ?_) (fun h_1 => ?_)
  · refine go_iconst (pc' := 30) 1 dX7_isUnder_29 rfl (by decide) ?_
    refine go_goto (pc' := 34) dX7_isUnder_30 (by decide) ?_
    refine go_iret dX7_isUnder_34 (by first | exact pg_nar1 | exact pg_nar0 | exact pg_narB) ?_
    rw [if_pos (Or.inl h_1)] at k
    exact k
  · refine go_iload_n (pc' := 5) dX7_isUnder_4 rfl rfl ?_
    refine go_iload_n (pc' := 6) dX7_isUnder_5 rfl rfl ?_
    refine go_icmp_eq (pc' := 9) (tgt := 29) dX7_isUnder_6 rfl (by decide) (fun h_6 => ?_) (fun h_6 => ?_)
    · refine go_iconst (pc' := 30) 1 dX7_isUnder_29 rfl (by decide) ?_
      refine go_goto (pc' := 34) dX7_isUnder_30 (by decide) ?_
      refine go_iret dX7_isUnder_34 (by first | exact pg_nar1 | exact pg_nar0 | exact pg_narB) ?_
      rw [if_pos (Or.inr (Or.inl h_6))] at k
      exact k
    · refine go_iload_n (pc' := 10) dX7_isUnder_9 rfl rfl ?_
      refine go_iconst (pc' := 11) 1 dX7_isUnder_10 rfl (by decide) ?_
      refine go_icmp_ne (pc' := 14) (tgt := 19) dX7_isUnder_11 rfl (by decide) (fun h_11 => ?_) (fun h_11 => ?_)
      · refine go_iload_n (pc' := 20) dX7_isUnder_19 rfl rfl ?_
        refine go_iconst (pc' := 21) 2 dX7_isUnder_20 rfl (by decide) ?_
        refine go_icmp_ne (pc' := 24) (tgt := 33) dX7_isUnder_21 rfl (by decide) (fun h_21 => ?_) (fun h_21 => ?_)
        · refine go_iconst (pc' := 34) 0 dX7_isUnder_33 rfl (by decide) ?_
          refine go_iret dX7_isUnder_34 (by first | exact pg_nar1 | exact pg_nar0 | exact pg_narB) ?_
          rw [if_neg (fun q => by rcases q with q | q | q | q; exact h_1 q; exact h_6 q; exact h_11 q.1; exact h_21 q.1)] at k
          exact k
        · refine go_iload_n (pc' := 25) dX7_isUnder_24 rfl rfl ?_
          refine go_iconst (pc' := 26) 4 dX7_isUnder_25 rfl (by decide) ?_
          refine go_icmp_ne (pc' := 29) (tgt := 33) dX7_isUnder_26 rfl (by decide) (fun h_26 => ?_) (fun h_26 => ?_)
          · refine go_iconst (pc' := 34) 0 dX7_isUnder_33 rfl (by decide) ?_
            refine go_iret dX7_isUnder_34 (by first | exact pg_nar1 | exact pg_nar0 | exact pg_narB) ?_
            rw [if_neg (fun q => by rcases q with q | q | q | q; exact h_1 q; exact h_6 q; exact h_11 q.1; exact h_26 q.2)] at k
            exact k
          · refine go_iconst (pc' := 30) 1 dX7_isUnder_29 rfl (by decide) ?_
            refine go_goto (pc' := 34) dX7_isUnder_30 (by decide) ?_
            refine go_iret dX7_isUnder_34 (by first | exact pg_nar1 | exact pg_nar0 | exact pg_narB) ?_
            rw [if_pos (Or.inr (Or.inr (Or.inr ⟨h_21, h_26⟩)))] at k
            exact k
      · refine go_iload_n (pc' := 15) dX7_isUnder_14 rfl rfl ?_
        refine go_iconst (pc' := 16) 3 dX7_isUnder_15 rfl (by decide) ?_
        refine go_icmp_eq (pc' := 19) (tgt := 29) dX7_isUnder_16 rfl (by decide) (fun h_16 => ?_) (fun h_16 => ?_)
        · refine go_iconst (pc' := 30) 1 dX7_isUnder_29 rfl (by decide) ?_
          refine go_goto (pc' := 34) dX7_isUnder_30 (by decide) ?_
          refine go_iret dX7_isUnder_34 (by first | exact pg_nar1 | exact pg_nar0 | exact pg_narB) ?_
          rw [if_pos (Or.inr (Or.inr (Or.inl ⟨h_11, h_16⟩)))] at k
          exact k
        · refine go_iload_n (pc' := 20) dX7_isUnder_19 rfl rfl ?_
          refine go_iconst (pc' := 21) 2 dX7_isUnder_20 rfl (by decide) ?_
          refine go_icmp_ne (pc' := 24) (tgt := 33) dX7_isUnder_21 rfl (by decide) (fun h_21 => ?_) (fun h_21 => ?_)
          · refine go_iconst (pc' := 34) 0 dX7_isUnder_33 rfl (by decide) ?_
            refine go_iret dX7_isUnder_34 (by first | exact pg_nar1 | exact pg_nar0 | exact pg_narB) ?_
            rw [if_neg (fun q => by rcases q with q | q | q | q; exact h_1 q; exact h_6 q; exact h_16 q.2; exact h_21 q.1)] at k
            exact k
          · refine go_iload_n (pc' := 25) dX7_isUnder_24 rfl rfl ?_
            refine go_iconst (pc' := 26) 4 dX7_isUnder_25 rfl (by decide) ?_
            refine go_icmp_ne (pc' := 29) (tgt := 33) dX7_isUnder_26 rfl (by decide) (fun h_26 => ?_) (fun h_26 => ?_)
            · refine go_iconst (pc' := 34) 0 dX7_isUnder_33 rfl (by decide) ?_
              refine go_iret dX7_isUnder_34 (by first | exact pg_nar1 | exact pg_nar0 | exact pg_narB) ?_
              rw [if_neg (fun q => by rcases q with q | q | q | q; exact h_1 q; exact h_6 q; exact h_16 q.2; exact h_26 q.2)] at k
              exact k
            · refine go_iconst (pc' := 30) 1 dX7_isUnder_29 rfl (by decide) ?_
              refine go_goto (pc' := 34) dX7_isUnder_30 (by decide) ?_
              refine go_iret dX7_isUnder_34 (by first | exact pg_nar1 | exact pg_nar0 | exact pg_narB) ?_
              rw [if_pos (Or.inr (Or.inr (Or.inr ⟨h_21, h_26⟩)))] at k
              exact k

set_option maxHeartbeats 4000000 in
set_option maxRecDepth 20000 in
theorem tX7_taken_n {sc : pg_Sc} {g : pg_S} {K : Int32 → pg_S → Prop} {T : TW} {n : Nat} {x y : Int32} {H A B : Nat → Int32} (hC : ∀ s, s < 4 → MS g s (H s) (A s) (B s)) (hv : ∀ s, s < 4 → H s = 0 ∨ H s = 1 ∨ H s = 2) (h : MR g 60 T n) (wf : WF T n) (hn1 : ¬ H (pn x) = 1) (hn0 : ¬ (H (pn x) = 0 ∧ PP n (A (pn x)))) (k : K (takA n T (H (pn x)) (A (pn x)) (B (pn x)) x y) g) : pg_Cal sc 4 mX7_taken [.ref 59, .int x, .int y] g (pg_ki K) := by
  refine pg_Cal.of rfl (Nat.le_of_ble_eq_true rfl) rfl ?_
  have hn := wf.1
  refine go_iload_n (pc' := 1) dX7_taken_0 rfl rfl ?_
  refine go_cSi1 (pc' := 4) (M' := mX7_isShelf) (d' := 2) dX7_taken_1 rfl csRX7_293 (by decide) rfl (Nat.le_of_ble_eq_true rfl) ?_
  refine tX7_isShelf ?_
  refine go_if_eq (pc' := 7) (tgt := 27) dX7_taken_4 rfl (by decide) (fun h_4 => ?_) (fun h_4 => ?_)
  · have h_4 := pg_b0 h_4
    refine go_iconst (pc' := 28) (-1) dX7_taken_27 rfl (by decide) ?_
    refine go_iret dX7_taken_28 (pg_narI _) ?_
    rw [takA_1 (fun q => h_4 q.1)] at k
    exact k
  · have h_4 := pg_b1 h_4
    obtain ⟨s, hs, rfl⟩ := up_ex 3 rfl (by decide) h_4
    have es : pn (nI s) = s := nI_clamp (by omega)
    have hs4 : s < 4 := by omega
    rw [es] at k hn1 hn0
    obtain ⟨c0, c1, c2⟩ := hC s hs4
    refine go_iload_n (pc' := 8) dX7_taken_7 rfl rfl ?_
    refine go_iconst (pc' := 9) 0 dX7_taken_8 rfl (by decide) ?_
    refine go_iconst (pc' := 10) 5 dX7_taken_9 rfl (by decide) ?_
    refine go_cSi3 (pc' := 13) (M' := mX7_in) (d' := 1) dX7_taken_10 rfl csRX7_60 (by decide) rfl (Nat.le_of_ble_eq_true rfl) ?_
    refine tX7_in ?_
    refine go_if_ne (pc' := 16) (tgt := 29) dX7_taken_13 rfl (by decide) (fun h_13 => ?_) (fun h_13 => ?_)
    · have h_13 := pg_b1 h_13
      refine go_aload_n (pc' := 30) dX7_taken_29 rfl rfl ?_
      refine go_iload_n (pc' := 31) dX7_taken_30 rfl rfl ?_
      refine go_cVi1 (pc' := 34) (M' := mX7_kindOn) (d' := 3) dX7_taken_31 rfl cvRX7_325 rfl rfl (by decide) rfl (Nat.le_of_ble_eq_true rfl) ?_
      refine tX7_kindOn h wf hs4 (hC s hs4) (hv s hs4) ?_
      rw [show koF T n (H s) (A s) = -1 by unfold koF; by_cases e : H s = 0; rw [if_pos e, if_neg (fun q => hn0 ⟨e, q⟩)]; rw [if_neg e, if_neg hn1]]
      refine go_istore_n (pc' := 35) dX7_taken_34 rfl (by decide) rfl ?_
      refine go_iload_n (pc' := 36) dX7_taken_35 rfl rfl ?_
      refine go_if_ge (pc' := 39) (tgt := 42) dX7_taken_36 rfl (by decide) (fun h_36 => absurd h_36 (by decide)) (fun h_36 => ?_)
      refine go_bipush (pc' := 41) (-11) dX7_taken_39 rfl (by decide) ?_
      refine go_iret dX7_taken_41 (pg_narI _) ?_
      have ok : UP (nI s) 3 ∧ (UP y 5 ∨ IN y 10 13) := ⟨h_4, Or.inl h_13⟩
      rw [takA_n ok hn1 hn0] at k
      exact k
    · have h_13 := pg_b0 h_13
      refine go_iload_n (pc' := 17) dX7_taken_16 rfl rfl ?_
      refine go_bipush (pc' := 19) 10 dX7_taken_17 rfl (by decide) ?_
      refine go_bipush (pc' := 21) 13 dX7_taken_19 rfl (by decide) ?_
      refine go_cSi3 (pc' := 24) (M' := mX7_in) (d' := 1) dX7_taken_21 rfl csRX7_60 (by decide) rfl (Nat.le_of_ble_eq_true rfl) ?_
      refine tX7_in ?_
      refine go_if_ne (pc' := 27) (tgt := 29) dX7_taken_24 rfl (by decide) (fun h_24 => ?_) (fun h_24 => ?_)
      · have h_24 := pg_b1 h_24
        refine go_aload_n (pc' := 30) dX7_taken_29 rfl rfl ?_
        refine go_iload_n (pc' := 31) dX7_taken_30 rfl rfl ?_
        refine go_cVi1 (pc' := 34) (M' := mX7_kindOn) (d' := 3) dX7_taken_31 rfl cvRX7_325 rfl rfl (by decide) rfl (Nat.le_of_ble_eq_true rfl) ?_
        refine tX7_kindOn h wf hs4 (hC s hs4) (hv s hs4) ?_
        rw [show koF T n (H s) (A s) = -1 by unfold koF; by_cases e : H s = 0; rw [if_pos e, if_neg (fun q => hn0 ⟨e, q⟩)]; rw [if_neg e, if_neg hn1]]
        refine go_istore_n (pc' := 35) dX7_taken_34 rfl (by decide) rfl ?_
        refine go_iload_n (pc' := 36) dX7_taken_35 rfl rfl ?_
        refine go_if_ge (pc' := 39) (tgt := 42) dX7_taken_36 rfl (by decide) (fun h_36 => absurd h_36 (by decide)) (fun h_36 => ?_)
        refine go_bipush (pc' := 41) (-11) dX7_taken_39 rfl (by decide) ?_
        refine go_iret dX7_taken_41 (pg_narI _) ?_
        have ok : UP (nI s) 3 ∧ (UP y 5 ∨ IN y 10 13) := ⟨h_4, Or.inr h_24⟩
        rw [takA_n ok hn1 hn0] at k
        exact k
      · have h_24 := pg_b0 h_24
        refine go_iconst (pc' := 28) (-1) dX7_taken_27 rfl (by decide) ?_
        refine go_iret dX7_taken_28 (pg_narI _) ?_
        rw [takA_1 (fun q => q.2.elim h_13 h_24)] at k
        exact k

set_option maxHeartbeats 4000000 in
set_option maxRecDepth 20000 in
theorem tX7_taken_r {sc : pg_Sc} {g : pg_S} {K : Int32 → pg_S → Prop} {T : TW} {n : Nat} {x y : Int32} {H A B : Nat → Int32} (hC : ∀ s, s < 4 → MS g s (H s) (A s) (B s)) (hv : ∀ s, s < 4 → H s = 0 ∨ H s = 1 ∨ H s = 2) (h : MR g 60 T n) (wf : WF T n) (e1 : H (pn x) = 1) (k : K (takA n T (H (pn x)) (A (pn x)) (B (pn x)) x y) g) : pg_Cal sc 4 mX7_taken [.ref 59, .int x, .int y] g (pg_ki K) := by
  refine pg_Cal.of rfl (Nat.le_of_ble_eq_true rfl) rfl ?_
  have hn := wf.1
  refine go_iload_n (pc' := 1) dX7_taken_0 rfl rfl ?_
  refine go_cSi1 (pc' := 4) (M' := mX7_isShelf) (d' := 2) dX7_taken_1 rfl csRX7_293 (by decide) rfl (Nat.le_of_ble_eq_true rfl) ?_
  refine tX7_isShelf ?_
  refine go_if_eq (pc' := 7) (tgt := 27) dX7_taken_4 rfl (by decide) (fun h_4 => ?_) (fun h_4 => ?_)
  · have h_4 := pg_b0 h_4
    refine go_iconst (pc' := 28) (-1) dX7_taken_27 rfl (by decide) ?_
    refine go_iret dX7_taken_28 (pg_narI _) ?_
    rw [takA_1 (fun q => h_4 q.1)] at k
    exact k
  · have h_4 := pg_b1 h_4
    obtain ⟨s, hs, rfl⟩ := up_ex 3 rfl (by decide) h_4
    have es : pn (nI s) = s := nI_clamp (by omega)
    have hs4 : s < 4 := by omega
    rw [es] at k e1
    obtain ⟨c0, c1, c2⟩ := hC s hs4
    refine go_iload_n (pc' := 8) dX7_taken_7 rfl rfl ?_
    refine go_iconst (pc' := 9) 0 dX7_taken_8 rfl (by decide) ?_
    refine go_iconst (pc' := 10) 5 dX7_taken_9 rfl (by decide) ?_
    refine go_cSi3 (pc' := 13) (M' := mX7_in) (d' := 1) dX7_taken_10 rfl csRX7_60 (by decide) rfl (Nat.le_of_ble_eq_true rfl) ?_
    refine tX7_in ?_
    refine go_if_ne (pc' := 16) (tgt := 29) dX7_taken_13 rfl (by decide) (fun h_13 => ?_) (fun h_13 => ?_)
    · have h_13 := pg_b1 h_13
      refine go_aload_n (pc' := 30) dX7_taken_29 rfl rfl ?_
      refine go_iload_n (pc' := 31) dX7_taken_30 rfl rfl ?_
      refine go_cVi1 (pc' := 34) (M' := mX7_kindOn) (d' := 3) dX7_taken_31 rfl cvRX7_325 rfl rfl (by decide) rfl (Nat.le_of_ble_eq_true rfl) ?_
      refine tX7_kindOn h wf hs4 (hC s hs4) (hv s hs4) ?_
      rw [show koF T n (H s) (A s) = 9 by rw [e1]; rfl]
      refine go_istore_n (pc' := 35) dX7_taken_34 rfl (by decide) rfl ?_
      refine go_iload_n (pc' := 36) dX7_taken_35 rfl rfl ?_
      refine go_if_ge (pc' := 39) (tgt := 42) dX7_taken_36 rfl (by decide) (fun h_36 => ?_) (fun h_36 => absurd (by decide) h_36)
      refine go_iload_n (pc' := 43) dX7_taken_42 rfl rfl ?_
      refine go_bipush (pc' := 45) 9 dX7_taken_43 rfl (by decide) ?_
      refine go_icmp_ne (pc' := 48) (tgt := 73) dX7_taken_45 rfl (by decide) (fun h_45 => absurd rfl h_45) (fun h_45 => ?_)
      refine go_iload_n (pc' := 49) dX7_taken_48 rfl rfl ?_
      refine go_bipush (pc' := 51) 10 dX7_taken_49 rfl (by decide) ?_
      refine go_aload_n (pc' := 52) dX7_taken_51 rfl rfl ?_
      refine go_getR (pc' := 55) dX7_taken_52 rfl flRX7_47 rfl rfl ?_
      refine go_iload_n (pc' := 56) dX7_taken_55 rfl rfl ?_
      refine go_iald (pc' := 57) s dX7_taken_56 rfl rfl rfl hs4 (by decide) ?_
      rw [(c2 e1).1]
      refine go_iadd (pc' := 58) dX7_taken_57 rfl ?_
      refine go_icmp_ne (pc' := 61) (tgt := 70) dX7_taken_58 rfl (by decide) (fun h_58 => ?_) (fun h_58 => ?_)
      · refine go_bipush (pc' := 72) (-13) dX7_taken_70 rfl (by decide) ?_
        refine go_iret dX7_taken_72 (pg_narI _) ?_
        have ok : UP (nI s) 3 ∧ (UP y 5 ∨ IN y 10 13) := ⟨h_4, Or.inl h_13⟩
        rw [takA_r ok e1, if_neg (fun q => h_58 (sub10.mpr q))] at k
        exact k
      · refine go_aload_n (pc' := 62) dX7_taken_61 rfl rfl ?_
        refine go_getR (pc' := 65) dX7_taken_62 rfl flRX7_50 rfl rfl ?_
        refine go_iload_n (pc' := 66) dX7_taken_65 rfl rfl ?_
        refine go_iald (pc' := 67) s dX7_taken_66 rfl rfl rfl hs4 (by decide) ?_
        rw [(c2 e1).2]
        refine go_goto (pc' := 72) dX7_taken_67 (by decide) ?_
        refine go_iret dX7_taken_72 (pg_narI _) ?_
        have ok : UP (nI s) 3 ∧ (UP y 5 ∨ IN y 10 13) := ⟨h_4, Or.inl h_13⟩
        rw [takA_r ok e1, if_pos (sub10.mp h_58)] at k
        exact k
    · have h_13 := pg_b0 h_13
      refine go_iload_n (pc' := 17) dX7_taken_16 rfl rfl ?_
      refine go_bipush (pc' := 19) 10 dX7_taken_17 rfl (by decide) ?_
      refine go_bipush (pc' := 21) 13 dX7_taken_19 rfl (by decide) ?_
      refine go_cSi3 (pc' := 24) (M' := mX7_in) (d' := 1) dX7_taken_21 rfl csRX7_60 (by decide) rfl (Nat.le_of_ble_eq_true rfl) ?_
      refine tX7_in ?_
      refine go_if_ne (pc' := 27) (tgt := 29) dX7_taken_24 rfl (by decide) (fun h_24 => ?_) (fun h_24 => ?_)
      · have h_24 := pg_b1 h_24
        refine go_aload_n (pc' := 30) dX7_taken_29 rfl rfl ?_
        refine go_iload_n (pc' := 31) dX7_taken_30 rfl rfl ?_
        refine go_cVi1 (pc' := 34) (M' := mX7_kindOn) (d' := 3) dX7_taken_31 rfl cvRX7_325 rfl rfl (by decide) rfl (Nat.le_of_ble_eq_true rfl) ?_
        refine tX7_kindOn h wf hs4 (hC s hs4) (hv s hs4) ?_
        rw [show koF T n (H s) (A s) = 9 by rw [e1]; rfl]
        refine go_istore_n (pc' := 35) dX7_taken_34 rfl (by decide) rfl ?_
        refine go_iload_n (pc' := 36) dX7_taken_35 rfl rfl ?_
        refine go_if_ge (pc' := 39) (tgt := 42) dX7_taken_36 rfl (by decide) (fun h_36 => ?_) (fun h_36 => absurd (by decide) h_36)
        refine go_iload_n (pc' := 43) dX7_taken_42 rfl rfl ?_
        refine go_bipush (pc' := 45) 9 dX7_taken_43 rfl (by decide) ?_
        refine go_icmp_ne (pc' := 48) (tgt := 73) dX7_taken_45 rfl (by decide) (fun h_45 => absurd rfl h_45) (fun h_45 => ?_)
        refine go_iload_n (pc' := 49) dX7_taken_48 rfl rfl ?_
        refine go_bipush (pc' := 51) 10 dX7_taken_49 rfl (by decide) ?_
        refine go_aload_n (pc' := 52) dX7_taken_51 rfl rfl ?_
        refine go_getR (pc' := 55) dX7_taken_52 rfl flRX7_47 rfl rfl ?_
        refine go_iload_n (pc' := 56) dX7_taken_55 rfl rfl ?_
        refine go_iald (pc' := 57) s dX7_taken_56 rfl rfl rfl hs4 (by decide) ?_
        rw [(c2 e1).1]
        refine go_iadd (pc' := 58) dX7_taken_57 rfl ?_
        refine go_icmp_ne (pc' := 61) (tgt := 70) dX7_taken_58 rfl (by decide) (fun h_58 => ?_) (fun h_58 => ?_)
        · refine go_bipush (pc' := 72) (-13) dX7_taken_70 rfl (by decide) ?_
          refine go_iret dX7_taken_72 (pg_narI _) ?_
          have ok : UP (nI s) 3 ∧ (UP y 5 ∨ IN y 10 13) := ⟨h_4, Or.inr h_24⟩
          rw [takA_r ok e1, if_neg (fun q => h_58 (sub10.mpr q))] at k
          exact k
        · refine go_aload_n (pc' := 62) dX7_taken_61 rfl rfl ?_
          refine go_getR (pc' := 65) dX7_taken_62 rfl flRX7_50 rfl rfl ?_
          refine go_iload_n (pc' := 66) dX7_taken_65 rfl rfl ?_
          refine go_iald (pc' := 67) s dX7_taken_66 rfl rfl rfl hs4 (by decide) ?_
          rw [(c2 e1).2]
          refine go_goto (pc' := 72) dX7_taken_67 (by decide) ?_
          refine go_iret dX7_taken_72 (pg_narI _) ?_
          have ok : UP (nI s) 3 ∧ (UP y 5 ∨ IN y 10 13) := ⟨h_4, Or.inr h_24⟩
          rw [takA_r ok e1, if_pos (sub10.mp h_58)] at k
          exact k
      · have h_24 := pg_b0 h_24
        refine go_iconst (pc' := 28) (-1) dX7_taken_27 rfl (by decide) ?_
        refine go_iret dX7_taken_28 (pg_narI _) ?_
        rw [takA_1 (fun q => q.2.elim h_13 h_24)] at k
        exact k

set_option maxHeartbeats 4000000 in
set_option maxRecDepth 20000 in
theorem tX7_taken_p {sc : pg_Sc} {g : pg_S} {K : Int32 → pg_S → Prop} {T : TW} {n : Nat} {x y : Int32} {H A B : Nat → Int32} (hC : ∀ s, s < 4 → MS g s (H s) (A s) (B s)) (hv : ∀ s, s < 4 → H s = 0 ∨ H s = 1 ∨ H s = 2) (h : MR g 60 T n) (wf : WF T n) (e0 : H (pn x) = 0 ∧ PP n (A (pn x))) (k : K (takA n T (H (pn x)) (A (pn x)) (B (pn x)) x y) g) : pg_Cal sc 4 mX7_taken [.ref 59, .int x, .int y] g (pg_ki K) := by
  refine pg_Cal.of rfl (Nat.le_of_ble_eq_true rfl) rfl ?_
  have hn := wf.1
  refine go_iload_n (pc' := 1) dX7_taken_0 rfl rfl ?_
  refine go_cSi1 (pc' := 4) (M' := mX7_isShelf) (d' := 2) dX7_taken_1 rfl csRX7_293 (by decide) rfl (Nat.le_of_ble_eq_true rfl) ?_
  refine tX7_isShelf ?_
  refine go_if_eq (pc' := 7) (tgt := 27) dX7_taken_4 rfl (by decide) (fun h_4 => ?_) (fun h_4 => ?_)
  · have h_4 := pg_b0 h_4
    refine go_iconst (pc' := 28) (-1) dX7_taken_27 rfl (by decide) ?_
    refine go_iret dX7_taken_28 (pg_narI _) ?_
    rw [takA_1 (fun q => h_4 q.1)] at k
    exact k
  · have h_4 := pg_b1 h_4
    obtain ⟨s, hs, rfl⟩ := up_ex 3 rfl (by decide) h_4
    have es : pn (nI s) = s := nI_clamp (by omega)
    have hs4 : s < 4 := by omega
    rw [es] at k e0
    obtain ⟨c0, c1, c2⟩ := hC s hs4
    refine go_iload_n (pc' := 8) dX7_taken_7 rfl rfl ?_
    refine go_iconst (pc' := 9) 0 dX7_taken_8 rfl (by decide) ?_
    refine go_iconst (pc' := 10) 5 dX7_taken_9 rfl (by decide) ?_
    refine go_cSi3 (pc' := 13) (M' := mX7_in) (d' := 1) dX7_taken_10 rfl csRX7_60 (by decide) rfl (Nat.le_of_ble_eq_true rfl) ?_
    refine tX7_in ?_
    refine go_if_ne (pc' := 16) (tgt := 29) dX7_taken_13 rfl (by decide) (fun h_13 => ?_) (fun h_13 => ?_)
    · have h_13 := pg_b1 h_13
      refine go_aload_n (pc' := 30) dX7_taken_29 rfl rfl ?_
      refine go_iload_n (pc' := 31) dX7_taken_30 rfl rfl ?_
      refine go_cVi1 (pc' := 34) (M' := mX7_kindOn) (d' := 3) dX7_taken_31 rfl cvRX7_325 rfl rfl (by decide) rfl (Nat.le_of_ble_eq_true rfl) ?_
      refine tX7_kindOn h wf hs4 (hC s hs4) (hv s hs4) ?_
      obtain ⟨p, hp, ep⟩ := pp_ex e0.2
      have epn : pn (A s) = p := by rw [ep]; exact nI_clamp (by omega)
      obtain ⟨kd, hkd, ekd⟩ := wf.kind hp
      rw [show koF T n (H s) (A s) = nI kd by unfold koF; rw [if_pos e0.1, if_pos e0.2, epn, ekd]]
      refine go_istore_n (pc' := 35) dX7_taken_34 rfl (by decide) rfl ?_
      refine go_iload_n (pc' := 36) dX7_taken_35 rfl rfl ?_
      refine go_if_ge (pc' := 39) (tgt := 42) dX7_taken_36 rfl (by decide) (fun h_36 => ?_) (fun h_36 => absurd (nI_le0 (by omega)) h_36)
      refine go_iload_n (pc' := 43) dX7_taken_42 rfl rfl ?_
      refine go_bipush (pc' := 45) 9 dX7_taken_43 rfl (by decide) ?_
      refine go_icmp_ne (pc' := 48) (tgt := 73) dX7_taken_45 rfl (by decide) (fun h_45 => ?_) (fun h_45 => absurd ((nI_eq (b := 9) (by omega) (by decide)).mp h_45) (by omega))
      refine go_iload_n (pc' := 74) dX7_taken_73 rfl rfl ?_
      refine go_bipush (pc' := 76) 10 dX7_taken_74 rfl (by decide) ?_
      refine go_icmp_ge (pc' := 79) (tgt := 96) dX7_taken_76 rfl (by decide) (fun h_76 => ?_) (fun h_76 => ?_)
      · refine go_bipush (pc' := 98) (-13) dX7_taken_96 rfl (by decide) ?_
        refine go_iret dX7_taken_98 (pg_narI _) ?_
        have ok : UP (nI s) 3 ∧ (UP y 5 ∨ IN y 10 13) := ⟨h_4, Or.inl h_13⟩
        rw [takA_p ok (by rw [e0.1]; decide) e0, if_neg (fun q => absurd (Int32.le_trans h_76 q.1.2) (by decide))] at k
        exact k
      · refine go_iload_n (pc' := 80) dX7_taken_79 rfl rfl ?_
        refine go_iload_n (pc' := 81) dX7_taken_80 rfl rfl ?_
        refine go_cSi2 (pc' := 84) (M' := mX7_isUnder) (d' := 1) dX7_taken_81 rfl csRX7_328 (by decide) rfl (Nat.le_of_ble_eq_true rfl) ?_
        refine tX7_isUnder ?_
        refine go_if_eq (pc' := 87) (tgt := 96) dX7_taken_84 rfl (by decide) (fun h_84 => ?_) (fun h_84 => ?_)
        · have h_84 := pg_b0 h_84
          refine go_bipush (pc' := 98) (-13) dX7_taken_96 rfl (by decide) ?_
          refine go_iret dX7_taken_98 (pg_narI _) ?_
          have ok : UP (nI s) 3 ∧ (UP y 5 ∨ IN y 10 13) := ⟨h_4, Or.inl h_13⟩
          have UP5 : UP y 5 := h_13
          rw [takA_p ok (by rw [e0.1]; decide) e0, epn, ekd, if_neg (fun q => h_84 q.2)] at k
          exact k
        · have h_84 := pg_b1 h_84
          refine go_aload_n (pc' := 88) dX7_taken_87 rfl rfl ?_
          refine go_getR (pc' := 91) dX7_taken_88 rfl flRX7_47 rfl rfl ?_
          refine go_iload_n (pc' := 92) dX7_taken_91 rfl rfl ?_
          refine go_iald (pc' := 93) s dX7_taken_92 rfl rfl rfl hs4 (by decide) ?_
          rw [c1 e0.1]
          refine go_goto (pc' := 98) dX7_taken_93 (by decide) ?_
          refine go_iret dX7_taken_98 (pg_narI _) ?_
          have ok : UP (nI s) 3 ∧ (UP y 5 ∨ IN y 10 13) := ⟨h_4, Or.inl h_13⟩
          have UP5 : UP y 5 := h_13
          rw [takA_p ok (by rw [e0.1]; decide) e0, epn, ekd, if_pos ⟨UP5, h_84⟩] at k
          exact k
    · have h_13 := pg_b0 h_13
      refine go_iload_n (pc' := 17) dX7_taken_16 rfl rfl ?_
      refine go_bipush (pc' := 19) 10 dX7_taken_17 rfl (by decide) ?_
      refine go_bipush (pc' := 21) 13 dX7_taken_19 rfl (by decide) ?_
      refine go_cSi3 (pc' := 24) (M' := mX7_in) (d' := 1) dX7_taken_21 rfl csRX7_60 (by decide) rfl (Nat.le_of_ble_eq_true rfl) ?_
      refine tX7_in ?_
      refine go_if_ne (pc' := 27) (tgt := 29) dX7_taken_24 rfl (by decide) (fun h_24 => ?_) (fun h_24 => ?_)
      · have h_24 := pg_b1 h_24
        refine go_aload_n (pc' := 30) dX7_taken_29 rfl rfl ?_
        refine go_iload_n (pc' := 31) dX7_taken_30 rfl rfl ?_
        refine go_cVi1 (pc' := 34) (M' := mX7_kindOn) (d' := 3) dX7_taken_31 rfl cvRX7_325 rfl rfl (by decide) rfl (Nat.le_of_ble_eq_true rfl) ?_
        refine tX7_kindOn h wf hs4 (hC s hs4) (hv s hs4) ?_
        obtain ⟨p, hp, ep⟩ := pp_ex e0.2
        have epn : pn (A s) = p := by rw [ep]; exact nI_clamp (by omega)
        obtain ⟨kd, hkd, ekd⟩ := wf.kind hp
        rw [show koF T n (H s) (A s) = nI kd by unfold koF; rw [if_pos e0.1, if_pos e0.2, epn, ekd]]
        refine go_istore_n (pc' := 35) dX7_taken_34 rfl (by decide) rfl ?_
        refine go_iload_n (pc' := 36) dX7_taken_35 rfl rfl ?_
        refine go_if_ge (pc' := 39) (tgt := 42) dX7_taken_36 rfl (by decide) (fun h_36 => ?_) (fun h_36 => absurd (nI_le0 (by omega)) h_36)
        refine go_iload_n (pc' := 43) dX7_taken_42 rfl rfl ?_
        refine go_bipush (pc' := 45) 9 dX7_taken_43 rfl (by decide) ?_
        refine go_icmp_ne (pc' := 48) (tgt := 73) dX7_taken_45 rfl (by decide) (fun h_45 => ?_) (fun h_45 => absurd ((nI_eq (b := 9) (by omega) (by decide)).mp h_45) (by omega))
        refine go_iload_n (pc' := 74) dX7_taken_73 rfl rfl ?_
        refine go_bipush (pc' := 76) 10 dX7_taken_74 rfl (by decide) ?_
        refine go_icmp_ge (pc' := 79) (tgt := 96) dX7_taken_76 rfl (by decide) (fun h_76 => ?_) (fun h_76 => ?_)
        · refine go_bipush (pc' := 98) (-13) dX7_taken_96 rfl (by decide) ?_
          refine go_iret dX7_taken_98 (pg_narI _) ?_
          have ok : UP (nI s) 3 ∧ (UP y 5 ∨ IN y 10 13) := ⟨h_4, Or.inr h_24⟩
          rw [takA_p ok (by rw [e0.1]; decide) e0, if_neg (fun q => absurd (Int32.le_trans h_76 q.1.2) (by decide))] at k
          exact k
        · refine go_iload_n (pc' := 80) dX7_taken_79 rfl rfl ?_
          refine go_iload_n (pc' := 81) dX7_taken_80 rfl rfl ?_
          refine go_cSi2 (pc' := 84) (M' := mX7_isUnder) (d' := 1) dX7_taken_81 rfl csRX7_328 (by decide) rfl (Nat.le_of_ble_eq_true rfl) ?_
          refine tX7_isUnder ?_
          refine go_if_eq (pc' := 87) (tgt := 96) dX7_taken_84 rfl (by decide) (fun h_84 => ?_) (fun h_84 => ?_)
          · have h_84 := pg_b0 h_84
            refine go_bipush (pc' := 98) (-13) dX7_taken_96 rfl (by decide) ?_
            refine go_iret dX7_taken_98 (pg_narI _) ?_
            have ok : UP (nI s) 3 ∧ (UP y 5 ∨ IN y 10 13) := ⟨h_4, Or.inr h_24⟩
            have UP5 : UP y 5 := absurd h_24.1 h_76
            rw [takA_p ok (by rw [e0.1]; decide) e0, epn, ekd, if_neg (fun q => h_84 q.2)] at k
            exact k
          · have h_84 := pg_b1 h_84
            refine go_aload_n (pc' := 88) dX7_taken_87 rfl rfl ?_
            refine go_getR (pc' := 91) dX7_taken_88 rfl flRX7_47 rfl rfl ?_
            refine go_iload_n (pc' := 92) dX7_taken_91 rfl rfl ?_
            refine go_iald (pc' := 93) s dX7_taken_92 rfl rfl rfl hs4 (by decide) ?_
            rw [c1 e0.1]
            refine go_goto (pc' := 98) dX7_taken_93 (by decide) ?_
            refine go_iret dX7_taken_98 (pg_narI _) ?_
            have ok : UP (nI s) 3 ∧ (UP y 5 ∨ IN y 10 13) := ⟨h_4, Or.inr h_24⟩
            have UP5 : UP y 5 := absurd h_24.1 h_76
            rw [takA_p ok (by rw [e0.1]; decide) e0, epn, ekd, if_pos ⟨UP5, h_84⟩] at k
            exact k
      · have h_24 := pg_b0 h_24
        refine go_iconst (pc' := 28) (-1) dX7_taken_27 rfl (by decide) ?_
        refine go_iret dX7_taken_28 (pg_narI _) ?_
        rw [takA_1 (fun q => q.2.elim h_13 h_24)] at k
        exact k

theorem tX7_taken {sc : pg_Sc} {g : pg_S} {K : Int32 → pg_S → Prop} {T : TW} {n : Nat} {x y : Int32} {H A B : Nat → Int32} (hC : ∀ s, s < 4 → MS g s (H s) (A s) (B s)) (hv : ∀ s, s < 4 → H s = 0 ∨ H s = 1 ∨ H s = 2) (h : MR g 60 T n) (wf : WF T n) (k : K (takA n T (H (pn x)) (A (pn x)) (B (pn x)) x y) g) : pg_Cal sc 4 mX7_taken [.ref 59, .int x, .int y] g (pg_ki K) := by
  by_cases e1 : H (pn x) = 1
  · exact tX7_taken_r hC hv h wf e1 k
  · by_cases e0 : H (pn x) = 0 ∧ PP n (A (pn x))
    · exact tX7_taken_p hC hv h wf e0 k
    · exact tX7_taken_n hC hv h wf e1 e0 k
set_option maxHeartbeats 4000000 in
set_option maxRecDepth 20000 in
theorem tX6_trace {sc : pg_Sc} {g : pg_S} {K : Int32 → pg_S → Prop} {x : Int32} (hr : ∃ r, r ≤ 30 ∧ g.1 42 1 = nI r) (k : K (if 0 ≤ x ∧ x < g.1 42 1 then g.1 43 (pn x) else -3) g) : pg_Cal sc 1 mX6_trace [.ref 0, .int x] g (pg_ki K) := by
  refine pg_Cal.of rfl (Nat.le_of_ble_eq_true rfl) rfl ?_
  refine go_iload_n (pc' := 1) dX6_trace_0 rfl rfl ?_
  refine go_if_lt (pc' := 4) (tgt := 27) dX6_trace_1 rfl (by decide) (fun h_1 => ?_) (fun h_1 => ?_)
  · refine go_bipush (pc' := 29) (-3) dX6_trace_27 rfl (by decide) ?_
    refine go_iret dX6_trace_29 (pg_narI _) ?_
    rw [if_neg (fun q => pg_lt_nle h_1 q.1)] at k
    exact k
  · refine go_iload_n (pc' := 5) dX6_trace_4 rfl rfl ?_
    refine go_aload_n (pc' := 6) dX6_trace_5 rfl rfl ?_
    refine go_getR (pc' := 9) dX6_trace_6 rfl flRX6_43 rfl rfl ?_
    refine go_getI (pc' := 12) dX6_trace_9 rfl flRX6_296 rfl rfl ?_
    refine go_icmp_ge (pc' := 15) (tgt := 27) dX6_trace_12 rfl (by decide) (fun h_12 => ?_) (fun h_12 => ?_)
    · refine go_bipush (pc' := 29) (-3) dX6_trace_27 rfl (by decide) ?_
      refine go_iret dX6_trace_29 (pg_narI _) ?_
      rw [if_neg (fun q => pg_lt_nle q.2 h_12)] at k
      exact k
    · obtain ⟨r, hr30, er⟩ := hr
      have h_13 : PP r x := ⟨pg_nlt_le h_1, by rw [← er]; exact pg_nle_lt h_12⟩
      obtain ⟨p, hp, rfl⟩ := pp_ex h_13
      have ep : pn (nI p) = p := nI_clamp (by omega)
      rw [ep] at k
      refine go_aload_n (pc' := 16) dX6_trace_15 rfl rfl ?_
      refine go_getR (pc' := 19) dX6_trace_16 rfl flRX6_43 rfl rfl ?_
      refine go_getR (pc' := 22) dX6_trace_19 rfl flRX6_305 rfl rfl ?_
      refine go_iload_n (pc' := 23) dX6_trace_22 rfl rfl ?_
      refine go_iald (pc' := 24) p dX6_trace_23 rfl rfl rfl (by omega) (by decide) ?_
      refine go_goto (pc' := 29) dX6_trace_24 (by decide) ?_
      refine go_iret dX6_trace_29 (pg_narI _) ?_
      rw [if_pos ⟨pg_nlt_le h_1, pg_nle_lt h_12⟩] at k
      exact k

set_option maxHeartbeats 4000000 in
set_option maxRecDepth 20000 in
theorem tX7_trace {sc : pg_Sc} {g : pg_S} {K : Int32 → pg_S → Prop} {x : Int32} (hr : ∃ r, r ≤ 30 ∧ g.1 59 27 = nI r) (k : K (if 0 ≤ x ∧ x < g.1 59 27 then g.1 74 (pn x) else -3) g) : pg_Cal sc 2 mX7_trace [.ref 59, .int x] g (pg_ki K) := by
  refine pg_Cal.of rfl (Nat.le_of_ble_eq_true rfl) rfl ?_
  obtain ⟨r, hr30, er⟩ := hr
  have hio := one_iff' (n := r) (by omega) x
  refine go_iload_n (pc' := 1) dX7_trace_0 rfl rfl ?_
  refine go_iconst (pc' := 2) 0 dX7_trace_1 rfl (by decide) ?_
  refine go_aload_n (pc' := 3) dX7_trace_2 rfl rfl ?_
  refine go_getI (pc' := 6) dX7_trace_3 rfl flRX7_331 rfl rfl ?_
  rw [er]
  refine go_iconst (pc' := 7) 1 dX7_trace_6 rfl (by decide) ?_
  refine go_isub (pc' := 8) dX7_trace_7 rfl ?_
  refine go_cSi3 (pc' := 11) (M' := mX7_in) (d' := 1) dX7_trace_8 rfl csRX7_60 (by decide) rfl (Nat.le_of_ble_eq_true rfl) ?_
  refine tX7_in ?_
  refine go_if_eq (pc' := 14) (tgt := 23) dX7_trace_11 rfl (by decide) (fun h_11 => ?_) (fun h_11 => ?_)
  · have h_11 := pg_b0 h_11
    refine go_bipush (pc' := 25) (-3) dX7_trace_23 rfl (by decide) ?_
    refine go_iret dX7_trace_25 (pg_narI _) ?_
    rw [er, if_neg (fun q => h_11 (hio.mpr q))] at k
    exact k
  · have h_11 := pg_b1 h_11
    have h_13 := hio.mp h_11
    obtain ⟨p, hp, rfl⟩ := pp_ex h_13
    have ep : pn (nI p) = p := nI_clamp (by omega)
    rw [ep] at k
    refine go_aload_n (pc' := 15) dX7_trace_14 rfl rfl ?_
    refine go_getR (pc' := 18) dX7_trace_15 rfl flRX7_53 rfl rfl ?_
    refine go_iload_n (pc' := 19) dX7_trace_18 rfl rfl ?_
    refine go_iald (pc' := 20) p dX7_trace_19 rfl rfl rfl (by omega) (by decide) ?_
    refine go_goto (pc' := 25) dX7_trace_20 (by decide) ?_
    refine go_iret dX7_trace_25 (pg_narI _) ?_
    rw [er, if_pos h_13] at k
    exact k

