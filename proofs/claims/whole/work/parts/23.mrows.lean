def FL (l : List Nat) (g g' : pg_S) : Prop := (∀ a, a ∉ l → g'.1 a = g.1 a) ∧ g'.2 = g.2
theorem FL.rf {l : List Nat} {g : pg_S} : FL l g g := ⟨fun _ _ => rfl, rfl⟩
theorem FL.tr {l : List Nat} {g g' g'' : pg_S} (h : FL l g g') (h' : FL l g' g'') : FL l g g'' := ⟨fun x q => (h'.1 x q).trans (h.1 x q), h'.2.trans h.2⟩
theorem FL.wd {l l' : List Nat} {g g' : pg_S} (h : FL l g g') (hs : ∀ a, a ∈ l → a ∈ l') : FL l' g g' := ⟨fun x q => h.1 x (fun z => q (hs x z)), h.2⟩
theorem FL.of {l : List Nat} {k : Nat} {g g' : pg_S} (h : FR k (k + 1) g g') (hk : k ∈ l) : FL l g g' := ⟨fun x q => h.1 x (by
  have : x ≠ k := fun z => q (by rw [z]; exact hk)
  omega), h.2⟩
theorem FL.ui {l : List Nat} {k j : Nat} {v : Int32} {g : pg_S} (h : k ∈ l) : FL l g (pg_ui g.1 k j v, g.2) := ⟨fun a q => pg_ui_ne g.1 k j v a (fun z => q (by rw [z]; exact h)), rfl⟩
theorem FM.fl {g g' : pg_S} (h : FM g g') : FL [60, 63] g g' := ⟨fun a q => h.1 a (fun z => q (by rw [z]; decide)) (fun z => q (by rw [z]; decide)), h.2⟩
theorem ix3 (i : Nat) : (3 : Int32) * nI i = nI (3 * i + 0) := by rw [show (3 : Int32) = nI 3 from rfl, pk_mul]; rfl
theorem ix3k (i : Nat) (c : Int32) (q : Nat) (hc : c = nI q) : (3 : Int32) * nI i + c = nI (3 * i + q) := by rw [show (3 : Int32) = nI 3 from rfl, pk_mul, hc, nI_add]
set_option maxHeartbeats 4000000 in
set_option maxRecDepth 20000 in
theorem lfr {sc : pg_Sc} {K : pg_S → Prop} {T : TW} {n p c : Nat} (wf : WF T n) (hp : p < n) (hc : c ≤ 10) : ∀ (m : Nat) (i : Nat) (g : pg_S), i + m = c → MR g 60 (hoursF n i T) n → MR g 63 T n → (∀ j, j < i → ∀ v, v < 3 → g.1 67 (3 * j + v) = rowV n p T j v) → (∀ g', MR g' 60 T n → (∀ j, j < c → ∀ v, v < 3 → g'.1 67 (3 * j + v) = rowV n p T j v) → FL [60, 63, 67] g g' → K g') → pg_Go sc 5 mX7_findRows 13 [(0, .ref 59), (1, .int (nI p)), (2, .int (nI c)), (3, .int (nI i))] [] g (pg_kv K) := by
  intro m
  induction m with
  | zero =>
    intro i g hi h h0 hr k
    have hn := wf.1
    obtain rfl : i = c := by omega
    refine go_iload_n (pc' := 14) dX7_findRows_13 rfl rfl ?_
    refine go_iload_n (pc' := 15) dX7_findRows_14 rfl rfl ?_
    refine go_icmp_ge (pc' := 18) (tgt := 83) dX7_findRows_15 rfl (by decide) (fun h_15 => ?_) (fun h_15 => absurd (Int32.le_refl _) h_15)
    refine go_aload_n (pc' := 84) dX7_findRows_83 rfl rfl ?_
    refine go_getR (pc' := 87) dX7_findRows_84 rfl flRX7_19 rfl rfl ?_
    refine go_aload_n (pc' := 88) dX7_findRows_87 rfl rfl ?_
    refine go_getR (pc' := 91) dX7_findRows_88 rfl flRX7_7 rfl rfl ?_
    refine go_cSv2 (pc' := 94) (M' := mX7_moveAll) (d' := 1) dX7_findRows_91 rfl csRX7_193 (by decide) rfl (Nat.le_of_ble_eq_true rfl) ?_
    refine tX7_mv_63_60 h0 hn (fun g1 h1 f1 => ?_)
    refine go_vret dX7_findRows_94 rfl ?_
    exact k _ h1 (fun j hj v hv => by rw [f1.1 67 (by omega)]; exact hr j hj v hv) (FL.of f1 (by decide))
  | succ m ih =>
    intro i g hi h h0 hr k
    have hn := wf.1
    have hin : i < c := by omega
    have wfi := WF.hours i wf
    refine go_iload_n (pc' := 14) dX7_findRows_13 rfl rfl ?_
    refine go_iload_n (pc' := 15) dX7_findRows_14 rfl rfl ?_
    refine go_icmp_ge (pc' := 18) (tgt := 83) dX7_findRows_15 rfl (by decide) (fun h_15 => absurd h_15 (nI_ge hin (by omega))) (fun h_15 => ?_)
    refine go_aload_n (pc' := 19) dX7_findRows_18 rfl rfl ?_
    refine go_iload_n (pc' := 20) dX7_findRows_19 rfl rfl ?_
    refine go_aload_n (pc' := 21) dX7_findRows_20 rfl rfl ?_
    refine go_getR (pc' := 24) dX7_findRows_21 rfl flRX7_7 rfl rfl ?_
    refine go_iconst (pc' := 25) 4 dX7_findRows_24 rfl (by decide) ?_
    refine go_iald (pc' := 26) 4 dX7_findRows_25 rfl rfl rfl (by decide) (by decide) ?_
    rw [m60_hour h]
    refine go_cVi2 (pc' := 29) (M' := mX7_leaning) (d' := 2) dX7_findRows_26 rfl cvRX7_226 rfl rfl (by decide) rfl (Nat.le_of_ble_eq_true rfl) ?_
    refine tX7_leaning h wfi hp ?_
    refine go_istore (pc' := 31) dX7_findRows_29 rfl (by decide) rfl ?_
    refine go_aload_n (pc' := 32) dX7_findRows_31 rfl rfl ?_
    refine go_cVv0 (pc' := 35) (M' := mX7_hourGoes) (d' := 4) dX7_findRows_32 rfl cvRX7_251 rfl rfl (by decide) rfl (Nat.le_of_ble_eq_true rfl) ?_
    refine tX7_hourGoes h wfi (fun g1 h1 f1 => ?_)
    have wf1 := wfi.hour
    refine go_aload_n (pc' := 36) dX7_findRows_35 rfl rfl ?_
    refine go_getR (pc' := 39) dX7_findRows_36 rfl flRX7_31 rfl rfl ?_
    refine go_iconst (pc' := 40) 3 dX7_findRows_39 rfl (by decide) ?_
    refine go_iload_n (pc' := 41) dX7_findRows_40 rfl rfl ?_
    refine go_imul (pc' := 42) dX7_findRows_41 rfl ?_
    refine go_aload_n (pc' := 43) dX7_findRows_42 rfl rfl ?_
    refine go_iload_n (pc' := 44) dX7_findRows_43 rfl rfl ?_
    refine go_iconst (pc' := 45) 3 dX7_findRows_44 rfl (by decide) ?_
    refine go_cVi2 (pc' := 48) (M' := mX7_its) (d' := 1) dX7_findRows_45 rfl cvRX7_217 rfl rfl (by decide) rfl (Nat.le_of_ble_eq_true rfl) ?_
    refine tX7_its3 h1 wf1 hp ?_
    refine go_iast (pc' := 49) (3 * i + 0) dX7_findRows_48 rfl rfl (ix3 i) (by omega) (by decide) ?_
    refine go_gen (fun g2 e2 => ?_)
    have f2 : FR 67 68 g1 g2 := by rw [e2]; exact FR.ui (by decide)
    have h2 := h1.fr f2 (by decide)
    refine go_aload_n (pc' := 50) dX7_findRows_49 rfl rfl ?_
    refine go_getR (pc' := 53) dX7_findRows_50 rfl flRX7_31 rfl rfl ?_
    refine go_iconst (pc' := 54) 3 dX7_findRows_53 rfl (by decide) ?_
    refine go_iload_n (pc' := 55) dX7_findRows_54 rfl rfl ?_
    refine go_imul (pc' := 56) dX7_findRows_55 rfl ?_
    refine go_iconst (pc' := 57) 1 dX7_findRows_56 rfl (by decide) ?_
    refine go_iadd (pc' := 58) dX7_findRows_57 rfl ?_
    refine go_aload_n (pc' := 59) dX7_findRows_58 rfl rfl ?_
    refine go_iload_n (pc' := 60) dX7_findRows_59 rfl rfl ?_
    refine go_iconst (pc' := 61) 4 dX7_findRows_60 rfl (by decide) ?_
    refine go_cVi2 (pc' := 64) (M' := mX7_its) (d' := 1) dX7_findRows_61 rfl cvRX7_217 rfl rfl (by decide) rfl (Nat.le_of_ble_eq_true rfl) ?_
    refine tX7_its4 h2 wf1 hp ?_
    refine go_iast (pc' := 65) (3 * i + 1) dX7_findRows_64 rfl rfl (ix3k i 1 1 rfl) (by omega) (by decide) ?_
    refine go_gen (fun g3 e3 => ?_)
    have f3 : FR 67 68 g2 g3 := by rw [e3]; exact FR.ui (by decide)
    refine go_aload_n (pc' := 66) dX7_findRows_65 rfl rfl ?_
    refine go_getR (pc' := 69) dX7_findRows_66 rfl flRX7_31 rfl rfl ?_
    refine go_iconst (pc' := 70) 3 dX7_findRows_69 rfl (by decide) ?_
    refine go_iload_n (pc' := 71) dX7_findRows_70 rfl rfl ?_
    refine go_imul (pc' := 72) dX7_findRows_71 rfl ?_
    refine go_iconst (pc' := 73) 2 dX7_findRows_72 rfl (by decide) ?_
    refine go_iadd (pc' := 74) dX7_findRows_73 rfl ?_
    refine go_iload (pc' := 76) dX7_findRows_74 rfl rfl ?_
    refine go_iast (pc' := 77) (3 * i + 2) dX7_findRows_76 rfl rfl (ix3k i 2 2 rfl) (by omega) (by decide) ?_
    refine go_gen (fun g4 e4 => ?_)
    have f4 : FR 67 68 g3 g4 := by rw [e4]; exact FR.ui (by decide)
    refine go_iinc (pc' := 80) _ dX7_findRows_77 rfl rfl (pg_inc _) (by decide) rfl ?_
    refine go_goto (pc' := 13) dX7_findRows_80 (by decide) ?_
    have fa : FR 67 68 g1 g4 := FR.tr (FR.tr f2 f3) f4
    have h1s := h1
    rw [← hoursF_s] at h1s
    refine go_sub [0, 1, 2, 3] rfl ?_
    refine ih (i + 1) _ (by omega) (h1s.fr fa (by decide)) ((h0.fr f1 (by decide)).fr fa (by decide)) (fun j hj v hv => ?_) (fun g' z1 z2 z3 => k g' z1 z2 (FL.tr (FL.tr (FL.of f1 (by decide)) (FL.of fa (by decide))) z3))
    rw [e4, e3, e2]
    show pg_ui (pg_ui (pg_ui g1.1 67 (3 * i + 0) (hourF n (hoursF n i T) 5 p)) 67 (3 * i + 1) (hourF n (hoursF n i T) 6 p)) 67 (3 * i + 2) (leanF (hoursF n i T) p (hoursF n i T 8 1)) 67 (3 * j + v) = _
    rw [pg_ui_at, pg_ui_at, pg_ui_at]
    by_cases e : j = i
    · subst e
      unfold rowV
      rw [hoursF_s]
      rcases (show v = 0 ∨ v = 1 ∨ v = 2 by omega) with rfl | rfl | rfl
      · rw [if_neg (by omega), if_neg (by omega), if_pos ⟨rfl, rfl⟩, if_pos rfl]
      · rw [if_neg (by omega), if_pos ⟨rfl, rfl⟩, if_neg (by decide), if_pos rfl]
      · rw [if_pos ⟨rfl, rfl⟩, if_neg (by decide), if_neg (by decide)]
    · rw [if_neg (by omega), if_neg (by omega), if_neg (by omega), f1.1 67 (by omega)]; exact hr j (by omega) v hv

set_option maxHeartbeats 4000000 in
set_option maxRecDepth 20000 in
theorem tX7_findRows {sc : pg_Sc} {g : pg_S} {K : pg_S → Prop} {T : TW} {n p c : Nat} (h : MR g 60 T n) (wf : WF T n) (hp : p < n) (hc : c ≤ 10) (k : ∀ g', MR g' 60 T n → (∀ j, j < c → ∀ v, v < 3 → g'.1 67 (3 * j + v) = rowV n p T j v) → FL [60, 63, 67] g g' → K g') : pg_Cal sc 5 mX7_findRows [.ref 59, .int (nI p), .int (nI c)] g (pg_kv K) := by
  refine pg_Cal.of rfl (Nat.le_of_ble_eq_true rfl) rfl ?_
  refine go_aload_n (pc' := 1) dX7_findRows_0 rfl rfl ?_
  refine go_getR (pc' := 4) dX7_findRows_1 rfl flRX7_7 rfl rfl ?_
  refine go_aload_n (pc' := 5) dX7_findRows_4 rfl rfl ?_
  refine go_getR (pc' := 8) dX7_findRows_5 rfl flRX7_19 rfl rfl ?_
  refine go_cSv2 (pc' := 11) (M' := mX7_moveAll) (d' := 1) dX7_findRows_8 rfl csRX7_193 (by decide) rfl (Nat.le_of_ble_eq_true rfl) ?_
  have hn := wf.1
  refine tX7_mv_60_63 h hn (fun g1 h1 f1 => ?_)
  have h11 := h.fr f1 (by decide)
  refine go_iconst (pc' := 12) 0 dX7_findRows_11 rfl (by decide) ?_
  refine go_istore_n (pc' := 13) dX7_findRows_12 rfl (by decide) rfl ?_
  exact lfr wf hp hc c 0 g1 (by omega) h11 h1 (fun j hj => absurd hj (by omega)) (fun g' a b z => k g' a b (FL.tr (FL.of f1 (by decide)) z))

set_option maxHeartbeats 4000000 in
set_option maxRecDepth 20000 in
theorem lmpr {sc : pg_Sc} {K : Int32 → pg_S → Prop} {c : Nat} {y : Int32} (hc : c ≤ 10) : ∀ (m : Nat) (i : Nat) (g : pg_S), i + m = 3 * c → (∀ j, j < i → g.1 66 j = g.1 67 j) → (∀ g', (∀ j, j < 3 * c → g'.1 66 j = g.1 67 j) → FR 66 67 g g' → K (nI c) g') → pg_Go sc 6 mX7_prove 33 [(0, .ref 59), (1, .int y), (2, .int (nI c)), (3, .int (nI i))] [] g (pg_ki K) := by
  intro m
  induction m with
  | zero =>
    intro i g hi hr k
    obtain rfl : i = 3 * c := by omega
    refine go_iload_n (pc' := 34) dX7_prove_33 rfl rfl ?_
    refine go_iconst (pc' := 35) 3 dX7_prove_34 rfl (by decide) ?_
    refine go_iload_n (pc' := 36) dX7_prove_35 rfl rfl ?_
    refine go_imul (pc' := 37) dX7_prove_36 rfl ?_
    refine go_icmp_ge (pc' := 40) (tgt := 58) dX7_prove_37 rfl (by decide) (fun h_37 => ?_) (fun h_37 => absurd (by rw [ix3]; exact Int32.le_refl _) h_37)
    refine go_iload_n (pc' := 59) dX7_prove_58 rfl rfl ?_
    refine go_iret dX7_prove_59 (pg_narI _) ?_
    exact k _ hr FR.rf
  | succ m ih =>
    intro i g hi hr k
    have hin : i < 3 * c := by omega
    refine go_iload_n (pc' := 34) dX7_prove_33 rfl rfl ?_
    refine go_iconst (pc' := 35) 3 dX7_prove_34 rfl (by decide) ?_
    refine go_iload_n (pc' := 36) dX7_prove_35 rfl rfl ?_
    refine go_imul (pc' := 37) dX7_prove_36 rfl ?_
    refine go_icmp_ge (pc' := 40) (tgt := 58) dX7_prove_37 rfl (by decide) (fun h_37 => absurd h_37 (by rw [ix3]; exact nI_ge hin (by omega))) (fun h_37 => ?_)
    refine go_aload_n (pc' := 41) dX7_prove_40 rfl rfl ?_
    refine go_getR (pc' := 44) dX7_prove_41 rfl flRX7_28 rfl rfl ?_
    refine go_iload_n (pc' := 45) dX7_prove_44 rfl rfl ?_
    refine go_aload_n (pc' := 46) dX7_prove_45 rfl rfl ?_
    refine go_getR (pc' := 49) dX7_prove_46 rfl flRX7_31 rfl rfl ?_
    refine go_iload_n (pc' := 50) dX7_prove_49 rfl rfl ?_
    refine go_iald (pc' := 51) i dX7_prove_50 rfl rfl rfl (by omega) (by decide) ?_
    refine go_iast (pc' := 52) i dX7_prove_51 rfl rfl rfl (by omega) (by decide) ?_
    refine go_iinc (pc' := 55) _ dX7_prove_52 rfl rfl (pg_inc _) (by decide) rfl ?_
    refine go_goto (pc' := 33) dX7_prove_55 (by decide) ?_
    refine ih (i + 1) _ (by omega) (fun j hj => ?_) (fun g' z1 z2 => k g' (fun j hj => (z1 j hj).trans (rd_ui (by omega))) (FR.tr (FR.ui (by decide)) z2))
    show pg_ui g.1 66 i (g.1 67 i) 66 j = pg_ui g.1 66 i (g.1 67 i) 67 j
    rw [pg_ui_at, pg_ui_at]
    by_cases e : j = i
    · subst e; rw [if_pos ⟨rfl, rfl⟩, if_neg (by omega)]
    · rw [if_neg (fun q => e q.2), if_neg (by omega)]; exact hr j (by omega)

set_option maxHeartbeats 4000000 in
set_option maxRecDepth 20000 in
theorem tX7_prove {sc : pg_Sc} {g : pg_S} {K : Int32 → pg_S → Prop} {T : TW} {n : Nat} {y x : Int32} (h : MR g 60 T n) (wf : WF T n) (k1 : ¬ (PP n y ∧ IN x 1 10) → K (-1) g) (k2 : PP n y → IN x 1 10 → ∀ g', MR g' 60 T n → (∀ j, j < pn x → ∀ v, v < 3 → g'.1 66 (3 * j + v) = rowV n (pn y) T j v) → g'.1 59 = upd (g.1 59) 16 x → FL [59, 60, 63, 66, 67] g g' → K x g') : pg_Cal sc 6 mX7_prove [.ref 59, .int y, .int x] g (pg_ki K) := by
  refine pg_Cal.of rfl (Nat.le_of_ble_eq_true rfl) rfl ?_
  have hn := wf.1
  refine go_aload_n (pc' := 1) dX7_prove_0 rfl rfl ?_
  refine go_iload_n (pc' := 2) dX7_prove_1 rfl rfl ?_
  refine go_cVi1 (pc' := 5) (M' := mX7_isOne) (d' := 2) dX7_prove_2 rfl cvRX7_220 rfl rfl (by decide) rfl (Nat.le_of_ble_eq_true rfl) ?_
  refine tX7_isOne h wf ?_
  refine go_if_eq (pc' := 8) (tgt := 18) dX7_prove_5 rfl (by decide) (fun h_5 => ?_) (fun h_5 => ?_)
  · have h_5 := pg_b0 h_5
    refine go_iconst (pc' := 19) (-1) dX7_prove_18 rfl (by decide) ?_
    refine go_iret dX7_prove_19 (pg_narI _) ?_
    exact k1 (fun q => h_5 q.1)
  · have h_5 := pg_b1 h_5
    obtain ⟨p, hp, rfl⟩ := pp_ex h_5
    have ep : pn (nI p) = p := nI_clamp (by omega)
    rw [ep] at k2
    refine go_iload_n (pc' := 9) dX7_prove_8 rfl rfl ?_
    refine go_iconst (pc' := 10) 1 dX7_prove_9 rfl (by decide) ?_
    refine go_bipush (pc' := 12) 10 dX7_prove_10 rfl (by decide) ?_
    refine go_cSi3 (pc' := 15) (M' := mX7_in) (d' := 1) dX7_prove_12 rfl csRX7_60 (by decide) rfl (Nat.le_of_ble_eq_true rfl) ?_
    refine tX7_in ?_
    refine go_if_ne (pc' := 18) (tgt := 20) dX7_prove_15 rfl (by decide) (fun h_15 => ?_) (fun h_15 => ?_)
    · have h_15 := pg_b1 h_15
      obtain ⟨c, hca, hc, rfl⟩ := in_ex 1 10 rfl rfl (by decide) (by decide) h_15
      have ec : pn (nI c) = c := nI_clamp (by omega)
      rw [ec] at k2
      refine go_aload_n (pc' := 21) dX7_prove_20 rfl rfl ?_
      refine go_iload_n (pc' := 22) dX7_prove_21 rfl rfl ?_
      refine go_iload_n (pc' := 23) dX7_prove_22 rfl rfl ?_
      refine go_cVv2 (pc' := 26) (M' := mX7_findRows) (d' := 5) dX7_prove_23 rfl cvRX7_309 rfl rfl (by decide) rfl (Nat.le_of_ble_eq_true rfl) ?_
      refine tX7_findRows h wf hp hc (fun g1 h1 r1 f1 => ?_)
      refine go_aload_n (pc' := 27) dX7_prove_26 rfl rfl ?_
      refine go_iload_n (pc' := 28) dX7_prove_27 rfl rfl ?_
      refine go_putI (pc' := 31) dX7_prove_28 rfl flRX7_197 rfl rfl ft7_16 ?_
      refine go_gen (fun g2 e2 => ?_)
      have f2 : FR 59 60 g1 g2 := by rw [e2]; exact FR.ui (by decide)
      refine go_iconst (pc' := 32) 0 dX7_prove_31 rfl (by decide) ?_
      refine go_istore_n (pc' := 33) dX7_prove_32 rfl (by decide) rfl ?_
      refine lmpr hc (3 * c) 0 g2 (by omega) (fun j hj => absurd hj (by omega)) (fun g3 a f3 => ?_)
      refine k2 h_5 h_15 g3 ((h1.fr f2 (by decide)).fr f3 (by decide)) (fun j hj v hv => ?_) ?_ (FL.tr (FL.tr (f1.wd (by decide)) (FL.of f2 (by decide))) (FL.of f3 (by decide)))
      · rw [a (3 * j + v) (by omega), f2.1 67 (by omega)]; exact r1 j hj v hv
      · rw [f3.1 59 (by omega), e2]
        show pg_ui g1.1 59 16 (nI c) 59 = _
        rw [pg_ui_eq, f1.1 59 (by decide)]
    · have h_15 := pg_b0 h_15
      refine go_iconst (pc' := 19) (-1) dX7_prove_18 rfl (by decide) ?_
      refine go_iret dX7_prove_19 (pg_narI _) ?_
      exact k1 (fun q => h_15 q.2)

theorem one_iff' {n : Nat} (hn : n ≤ 40) (x : Int32) : (0 ≤ x ∧ x ≤ nI n - 1) ↔ PP n x := by
  have d : ∀ n, n ≤ 40 → (nI n - 1).toInt = (n : Int) - 1 := by decide +kernel
  unfold PP
  simp only [Int32.le_iff_toInt_le, Int32.lt_iff_toInt_lt, d n hn, nI_toInt (show n < 2 ^ 31 by omega)]
  omega
set_option maxHeartbeats 4000000 in
set_option maxRecDepth 20000 in
theorem tX7_isRow {sc : pg_Sc} {g : pg_S} {K : Int32 → pg_S → Prop} {x y : Int32} (hr : ∃ R, R ≤ 10 ∧ g.1 59 16 = nI R) (k : K (if (0 ≤ x ∧ x < g.1 59 16) ∧ UP y 2 then 1 else 0) g) : pg_Cal sc 2 mX7_isRow [.ref 59, .int x, .int y] g (pg_ki K) := by
  refine pg_Cal.of rfl (Nat.le_of_ble_eq_true rfl) rfl ?_
  obtain ⟨R, hR, eR⟩ := hr
  rw [eR] at k
  have hio := one_iff' (n := R) (by omega) x
  refine go_iload_n (pc' := 1) dX7_isRow_0 rfl rfl ?_
  refine go_iconst (pc' := 2) 0 dX7_isRow_1 rfl (by decide) ?_
  refine go_aload_n (pc' := 3) dX7_isRow_2 rfl rfl ?_
  refine go_getI (pc' := 6) dX7_isRow_3 rfl flRX7_197 rfl rfl ?_
  rw [eR]
  refine go_iconst (pc' := 7) 1 dX7_isRow_6 rfl (by decide) ?_
  refine go_isub (pc' := 8) dX7_isRow_7 rfl ?_
  refine go_cSi3 (pc' := 11) (M' := mX7_in) (d' := 1) dX7_isRow_8 rfl csRX7_60 (by decide) rfl (Nat.le_of_ble_eq_true rfl) ?_
  refine tX7_in ?_
  refine go_if_eq (pc' := 14) (tgt := 27) dX7_isRow_11 rfl (by decide) (fun h_11 => ?_) (fun h_11 => ?_)
  · have h_11 := pg_b0 h_11
    refine go_iconst (pc' := 28) 0 dX7_isRow_27 rfl (by decide) ?_
    refine go_iret dX7_isRow_28 (by first | exact pg_nar1 | exact pg_nar0 | exact pg_narB) ?_
    rw [if_neg (fun q => h_11 (hio.mpr q.1))] at k
    exact k
  · have h_11 := pg_b1 h_11
    refine go_iload_n (pc' := 15) dX7_isRow_14 rfl rfl ?_
    refine go_iconst (pc' := 16) 0 dX7_isRow_15 rfl (by decide) ?_
    refine go_iconst (pc' := 17) 2 dX7_isRow_16 rfl (by decide) ?_
    refine go_cSi3 (pc' := 20) (M' := mX7_in) (d' := 1) dX7_isRow_17 rfl csRX7_60 (by decide) rfl (Nat.le_of_ble_eq_true rfl) ?_
    refine tX7_in ?_
    refine go_if_eq (pc' := 23) (tgt := 27) dX7_isRow_20 rfl (by decide) (fun h_20 => ?_) (fun h_20 => ?_)
    · have h_20 := pg_b0 h_20
      refine go_iconst (pc' := 28) 0 dX7_isRow_27 rfl (by decide) ?_
      refine go_iret dX7_isRow_28 (by first | exact pg_nar1 | exact pg_nar0 | exact pg_narB) ?_
      rw [if_neg (fun q => h_20 q.2)] at k
      exact k
    · have h_20 := pg_b1 h_20
      refine go_iconst (pc' := 24) 1 dX7_isRow_23 rfl (by decide) ?_
      refine go_goto (pc' := 28) dX7_isRow_24 (by decide) ?_
      refine go_iret dX7_isRow_28 (by first | exact pg_nar1 | exact pg_nar0 | exact pg_narB) ?_
      rw [if_pos ⟨hio.mp h_11, h_20⟩] at k
      exact k

set_option maxHeartbeats 4000000 in
set_option maxRecDepth 20000 in
theorem tX7_row {sc : pg_Sc} {g : pg_S} {K : Int32 → pg_S → Prop} {x y : Int32} (hr : ∃ R, R ≤ 10 ∧ g.1 59 16 = nI R) (k1 : ¬ ((0 ≤ x ∧ x < g.1 59 16) ∧ UP y 2) → K (-999) g) (k : (0 ≤ x ∧ x < g.1 59 16) ∧ UP y 2 → K (g.1 66 (3 * pn x + pn y)) g) : pg_Cal sc 3 mX7_row [.ref 59, .int x, .int y] g (pg_ki K) := by
  refine pg_Cal.of rfl (Nat.le_of_ble_eq_true rfl) rfl ?_
  refine go_aload_n (pc' := 1) dX7_row_0 rfl rfl ?_
  refine go_iload_n (pc' := 2) dX7_row_1 rfl rfl ?_
  refine go_iload_n (pc' := 3) dX7_row_2 rfl rfl ?_
  refine go_cVi2 (pc' := 6) (M' := mX7_isRow) (d' := 2) dX7_row_3 rfl cvRX7_313 rfl rfl (by decide) rfl (Nat.le_of_ble_eq_true rfl) ?_
  refine tX7_isRow hr ?_
  refine go_if_eq (pc' := 9) (tgt := 22) dX7_row_6 rfl (by decide) (fun h_6 => ?_) (fun h_6 => ?_)
  · have h_6 := pg_b0 h_6
    refine go_sipush (pc' := 25) (-999) dX7_row_22 rfl (by decide) ?_
    refine go_iret dX7_row_25 (pg_narI _) ?_
    exact k1 (fun q => h_6 q)
  · have h_6 := pg_b1 h_6
    have h_0 := h_6
    obtain ⟨R, hR, eR⟩ := hr
    rw [eR] at h_6
    obtain ⟨i, hi, rfl⟩ := pp_ex h_6.1
    obtain ⟨v, hv, rfl⟩ := up_ex 2 rfl (by decide) h_6.2
    have ei : pn (nI i) = i := nI_clamp (by omega)
    have ev : pn (nI v) = v := nI_clamp (by omega)
    rw [ei, ev] at k
    refine go_aload_n (pc' := 10) dX7_row_9 rfl rfl ?_
    refine go_getR (pc' := 13) dX7_row_10 rfl flRX7_28 rfl rfl ?_
    refine go_iconst (pc' := 14) 3 dX7_row_13 rfl (by decide) ?_
    refine go_iload_n (pc' := 15) dX7_row_14 rfl rfl ?_
    refine go_imul (pc' := 16) dX7_row_15 rfl ?_
    refine go_iload_n (pc' := 17) dX7_row_16 rfl rfl ?_
    refine go_iadd (pc' := 18) dX7_row_17 rfl ?_
    refine go_iald (pc' := 19) (3 * i + v) dX7_row_18 rfl rfl (ix3k i _ v rfl) (by omega) (by decide) ?_
    refine go_goto (pc' := 25) dX7_row_19 (by decide) ?_
    refine go_iret dX7_row_25 (pg_narI _) ?_
    exact k h_0

set_option maxHeartbeats 4000000 in
set_option maxRecDepth 20000 in
theorem tX7_alterRow {sc : pg_Sc} {g : pg_S} {K : Int32 → pg_S → Prop} {x y z : Int32} (hr : ∃ R, R ≤ 10 ∧ g.1 59 16 = nI R) (k1 : ¬ ((0 ≤ x ∧ x < g.1 59 16) ∧ UP y 2) → K (-999) g) (k : (0 ≤ x ∧ x < g.1 59 16) ∧ UP y 2 → K (g.1 66 (3 * pn x + pn y)) (pg_ui g.1 66 (3 * pn x + pn y) z, g.2)) : pg_Cal sc 3 mX7_alterRow [.ref 59, .int x, .int y, .int z] g (pg_ki K) := by
  refine pg_Cal.of rfl (Nat.le_of_ble_eq_true rfl) rfl ?_
  refine go_aload_n (pc' := 1) dX7_alterRow_0 rfl rfl ?_
  refine go_iload_n (pc' := 2) dX7_alterRow_1 rfl rfl ?_
  refine go_iload_n (pc' := 3) dX7_alterRow_2 rfl rfl ?_
  refine go_cVi2 (pc' := 6) (M' := mX7_isRow) (d' := 2) dX7_alterRow_3 rfl cvRX7_313 rfl rfl (by decide) rfl (Nat.le_of_ble_eq_true rfl) ?_
  refine tX7_isRow hr ?_
  refine go_if_ne (pc' := 9) (tgt := 13) dX7_alterRow_6 rfl (by decide) (fun h_6 => ?_) (fun h_6 => ?_)
  · have h_6 := pg_b1 h_6
    have h_0 := h_6
    obtain ⟨R, hR, eR⟩ := hr
    rw [eR] at h_6
    obtain ⟨i, hi, rfl⟩ := pp_ex h_6.1
    obtain ⟨v, hv, rfl⟩ := up_ex 2 rfl (by decide) h_6.2
    have ei : pn (nI i) = i := nI_clamp (by omega)
    have ev : pn (nI v) = v := nI_clamp (by omega)
    rw [ei, ev] at k
    refine go_aload_n (pc' := 14) dX7_alterRow_13 rfl rfl ?_
    refine go_getR (pc' := 17) dX7_alterRow_14 rfl flRX7_28 rfl rfl ?_
    refine go_iconst (pc' := 18) 3 dX7_alterRow_17 rfl (by decide) ?_
    refine go_iload_n (pc' := 19) dX7_alterRow_18 rfl rfl ?_
    refine go_imul (pc' := 20) dX7_alterRow_19 rfl ?_
    refine go_iload_n (pc' := 21) dX7_alterRow_20 rfl rfl ?_
    refine go_iadd (pc' := 22) dX7_alterRow_21 rfl ?_
    refine go_iald (pc' := 23) (3 * i + v) dX7_alterRow_22 rfl rfl (ix3k i _ v rfl) (by omega) (by decide) ?_
    refine go_istore (pc' := 25) dX7_alterRow_23 rfl (by decide) rfl ?_
    refine go_aload_n (pc' := 26) dX7_alterRow_25 rfl rfl ?_
    refine go_getR (pc' := 29) dX7_alterRow_26 rfl flRX7_28 rfl rfl ?_
    refine go_iconst (pc' := 30) 3 dX7_alterRow_29 rfl (by decide) ?_
    refine go_iload_n (pc' := 31) dX7_alterRow_30 rfl rfl ?_
    refine go_imul (pc' := 32) dX7_alterRow_31 rfl ?_
    refine go_iload_n (pc' := 33) dX7_alterRow_32 rfl rfl ?_
    refine go_iadd (pc' := 34) dX7_alterRow_33 rfl ?_
    refine go_iload_n (pc' := 35) dX7_alterRow_34 rfl rfl ?_
    refine go_iast (pc' := 36) (3 * i + v) dX7_alterRow_35 rfl rfl (ix3k i _ v rfl) (by omega) (by decide) ?_
    refine go_iload (pc' := 38) dX7_alterRow_36 rfl rfl ?_
    refine go_iret dX7_alterRow_38 (pg_narI _) ?_
    exact k h_0
  · have h_6 := pg_b0 h_6
    refine go_sipush (pc' := 12) (-999) dX7_alterRow_9 rfl (by decide) ?_
    refine go_iret dX7_alterRow_12 (pg_narI _) ?_
    exact k1 (fun q => h_6 q)

def jkF (c : Nat → Bool) : Nat → Nat → Int32
  | 0, _ => 0
  | m + 1, k => if c k = true then jkF c m (k + 1) else nI (k / 3 + 1)
theorem jk_eq (r : Nat → Nat → Int32) (n p : Nat) (T : TW) (c : Nat → Bool) (hc : ∀ i v, v < 3 → (c (3 * i + v) = true ↔ r i v = rowV n p T i v)) : ∀ m i, jkF c (3 * m) (3 * i) = jdgF r n p T m i
  | 0, _ => rfl
  | m + 1, i => by
    have ih := jk_eq r n p T c hc m (i + 1)
    have h0 := hc i 0 (by omega)
    have h1 := hc i 1 (by omega)
    have h2 := hc i 2 (by omega)
    rw [show 3 * (m + 1) = 3 * m + 1 + 1 + 1 by omega]
    unfold jdgF
    simp only [jkF]
    rw [show 3 * i + 1 + 1 + 1 = 3 * (i + 1) by omega, ih, show 3 * i + 1 + 1 = 3 * i + 2 by omega, show 3 * i = 3 * i + 0 by omega, show (3 * i + 0) / 3 = i by omega, show (3 * i + 0 + 1) / 3 = i by omega, show (3 * i + 2) / 3 = i by omega]
    rw [show 3 * i + 0 + 1 = 3 * i + 1 by omega]
    by_cases e0 : r i 0 = rowV n p T i 0
    · rw [if_pos (h0.mpr e0)]
      by_cases e1 : r i 1 = rowV n p T i 1
      · rw [if_pos (h1.mpr e1)]
        by_cases e2 : r i 2 = rowV n p T i 2
        · rw [if_pos (h2.mpr e2), if_pos ⟨e0, e1, e2⟩]
        · rw [if_neg (fun q => e2 (h2.mp q)), if_neg (fun q => e2 q.2.2)]
      · rw [if_neg (fun q => e1 (h1.mp q)), if_neg (fun q => e1 q.2.1)]
    · rw [if_neg (fun q => e0 (h0.mp q)), if_neg (fun q => e0 q.1)]
set_option maxHeartbeats 4000000 in
set_option maxRecDepth 20000 in
theorem lmj {sc : pg_Sc} {K : Int32 → pg_S → Prop} {R : Nat} {y : Int32} {g : pg_S} {c : Nat → Bool} (hR : g.1 59 16 = nI R) (hR10 : R ≤ 10) (hc : ∀ k, k < 3 * R → (c k = true ↔ g.1 66 k = g.1 67 k)) : ∀ (m : Nat) (i : Nat), i + m = 3 * R → K (jkF c m i) g → pg_Go sc 6 mX7_judge 21 [(0, .ref 59), (1, .int y), (2, .int (nI i))] [] g (pg_ki K) := by
  intro m
  induction m with
  | zero =>
    intro i hi k
    obtain rfl : i = 3 * R := by omega
    refine go_iload_n (pc' := 22) dX7_judge_21 rfl rfl ?_
    refine go_iconst (pc' := 23) 3 dX7_judge_22 rfl (by decide) ?_
    refine go_aload_n (pc' := 24) dX7_judge_23 rfl rfl ?_
    refine go_getI (pc' := 27) dX7_judge_24 rfl flRX7_197 rfl rfl ?_
    rw [hR]
    refine go_imul (pc' := 28) dX7_judge_27 rfl ?_
    refine go_icmp_ge (pc' := 31) (tgt := 58) dX7_judge_28 rfl (by decide) (fun h_28 => ?_) (fun h_28 => absurd (by rw [ix3]; exact Int32.le_refl _) h_28)
    refine go_iconst (pc' := 59) 0 dX7_judge_58 rfl (by decide) ?_
    refine go_iret dX7_judge_59 (pg_narI _) ?_
    exact k
  | succ m ih =>
    intro i hi k
    have hin : i < 3 * R := by omega
    simp only [jkF] at k
    refine go_iload_n (pc' := 22) dX7_judge_21 rfl rfl ?_
    refine go_iconst (pc' := 23) 3 dX7_judge_22 rfl (by decide) ?_
    refine go_aload_n (pc' := 24) dX7_judge_23 rfl rfl ?_
    refine go_getI (pc' := 27) dX7_judge_24 rfl flRX7_197 rfl rfl ?_
    rw [hR]
    refine go_imul (pc' := 28) dX7_judge_27 rfl ?_
    refine go_icmp_ge (pc' := 31) (tgt := 58) dX7_judge_28 rfl (by decide) (fun h_28 => absurd h_28 (by rw [ix3]; exact nI_ge hin (by omega))) (fun h_28 => ?_)
    refine go_aload_n (pc' := 32) dX7_judge_31 rfl rfl ?_
    refine go_getR (pc' := 35) dX7_judge_32 rfl flRX7_28 rfl rfl ?_
    refine go_iload_n (pc' := 36) dX7_judge_35 rfl rfl ?_
    refine go_iald (pc' := 37) i dX7_judge_36 rfl rfl rfl (by omega) (by decide) ?_
    refine go_aload_n (pc' := 38) dX7_judge_37 rfl rfl ?_
    refine go_getR (pc' := 41) dX7_judge_38 rfl flRX7_31 rfl rfl ?_
    refine go_iload_n (pc' := 42) dX7_judge_41 rfl rfl ?_
    refine go_iald (pc' := 43) i dX7_judge_42 rfl rfl rfl (by omega) (by decide) ?_
    refine go_icmp_eq (pc' := 46) (tgt := 52) dX7_judge_43 rfl (by decide) (fun h_43 => ?_) (fun h_43 => ?_)
    · refine go_iinc (pc' := 55) _ dX7_judge_52 rfl rfl (pg_inc _) (by decide) rfl ?_
      refine go_goto (pc' := 21) dX7_judge_55 (by decide) ?_
      rw [if_pos ((hc i (by omega)).mpr h_43)] at k
      exact ih (i + 1) (by omega) k
    · refine go_iload_n (pc' := 47) dX7_judge_46 rfl rfl ?_
      refine go_iconst (pc' := 48) 3 dX7_judge_47 rfl (by decide) ?_
      refine go_idiv (pc' := 49) dX7_judge_48 rfl (by decide) ?_
      rw [show nI i / 3 = nI (i / 3) from pk_div (d := 3) (by omega) (by decide) (by decide)]
      refine go_iconst (pc' := 50) 1 dX7_judge_49 rfl (by decide) ?_
      refine go_iadd (pc' := 51) dX7_judge_50 rfl ?_
      rw [nI_1]
      refine go_iret dX7_judge_51 (pg_narI _) ?_
      rw [if_neg (fun q => h_43 ((hc i (by omega)).mp q))] at k
      exact k

set_option maxHeartbeats 4000000 in
set_option maxRecDepth 20000 in
theorem tX7_judge {sc : pg_Sc} {g : pg_S} {K : Int32 → pg_S → Prop} {T : TW} {n : Nat} {y : Int32} {R : Nat} (h : MR g 60 T n) (wf : WF T n) (hR : g.1 59 16 = nI R) (hR10 : R ≤ 10) (k1 : ¬ PP n y → K (-1) g) (k2 : PP n y → ∀ g', MR g' 60 T n → FL [60, 63, 67] g g' → K (jdgF (fun j v => g.1 66 (3 * j + v)) n (pn y) T R 0) g') : pg_Cal sc 6 mX7_judge [.ref 59, .int y] g (pg_ki K) := by
  refine pg_Cal.of rfl (Nat.le_of_ble_eq_true rfl) rfl ?_
  have hn := wf.1
  refine go_aload_n (pc' := 1) dX7_judge_0 rfl rfl ?_
  refine go_iload_n (pc' := 2) dX7_judge_1 rfl rfl ?_
  refine go_cVi1 (pc' := 5) (M' := mX7_isOne) (d' := 2) dX7_judge_2 rfl cvRX7_220 rfl rfl (by decide) rfl (Nat.le_of_ble_eq_true rfl) ?_
  refine tX7_isOne h wf ?_
  refine go_if_ne (pc' := 8) (tgt := 10) dX7_judge_5 rfl (by decide) (fun h_5 => ?_) (fun h_5 => ?_)
  · have h_5 := pg_b1 h_5
    obtain ⟨p, hp, rfl⟩ := pp_ex h_5
    have ep : pn (nI p) = p := nI_clamp (by omega)
    rw [ep] at k2
    refine go_aload_n (pc' := 11) dX7_judge_10 rfl rfl ?_
    refine go_iload_n (pc' := 12) dX7_judge_11 rfl rfl ?_
    refine go_aload_n (pc' := 13) dX7_judge_12 rfl rfl ?_
    refine go_getI (pc' := 16) dX7_judge_13 rfl flRX7_197 rfl rfl ?_
    rw [hR]
    refine go_cVv2 (pc' := 19) (M' := mX7_findRows) (d' := 5) dX7_judge_16 rfl cvRX7_309 rfl rfl (by decide) rfl (Nat.le_of_ble_eq_true rfl) ?_
    refine tX7_findRows h wf hp hR10 (fun g1 h1 r1 f1 => ?_)
    refine go_iconst (pc' := 20) 0 dX7_judge_19 rfl (by decide) ?_
    refine go_istore_n (pc' := 21) dX7_judge_20 rfl (by decide) rfl ?_
    have e59 := f1.1 59 (by decide)
    have e66 := f1.1 66 (by decide)
    have key := jk_eq (fun j v => g.1 66 (3 * j + v)) n p T (fun k => decide (g.1 66 k = rowV n p T (k / 3) (k % 3))) (fun i v hv => by
      rw [decide_eq_true_iff, show (3 * i + v) / 3 = i by omega, show (3 * i + v) % 3 = v by omega]) R 0
    refine lmj (R := R) (c := fun k => decide (g.1 66 k = rowV n p T (k / 3) (k % 3))) (by rw [e59]; exact hR) hR10 (fun k hk => ?_) (3 * R) 0 (by omega) ?_
    · have e := r1 (k / 3) (by omega) (k % 3) (by omega)
      rw [show 3 * (k / 3) + k % 3 = k by omega] at e
      rw [decide_eq_true_iff, e66, e]
    · rw [show (0 : Nat) = 3 * 0 by omega, key]
      exact k2 h_5 _ h1 f1
  · have h_5 := pg_b0 h_5
    refine go_iconst (pc' := 9) (-1) dX7_judge_8 rfl (by decide) ?_
    refine go_iret dX7_judge_9 (pg_narI _) ?_
    exact k1 (fun q => h_5 q)

