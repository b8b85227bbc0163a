def bgF (i j : Nat) : Int32 := if j = 0 then 4 else if j = 1 then 1 else if j = 2 then 2 else if j = 3 then 20 else if 7 ≤ j ∧ j < 7 + i then 30 else 0
theorem bg_s (i j : Nat) (hi : i < 5) : bgF (i + 1) j = if j = 7 + i then 30 else bgF i j := by
  unfold bgF
  by_cases h : j = 7 + i
  · subst h
    rw [if_pos rfl, if_neg (by omega), if_neg (by omega), if_neg (by omega), if_neg (by omega), if_pos (by omega)]
  · rw [if_neg h]
    by_cases h2 : 7 ≤ j ∧ j < 7 + i
    · rw [if_pos h2, if_pos (show 7 ≤ j ∧ j < 7 + (i + 1) by omega)]
    · rw [if_neg h2, if_neg (show ¬ (7 ≤ j ∧ j < 7 + (i + 1)) by omega)]
theorem bg_0 {f : Nat → Int32} (j : Nat) (h : ∀ j, j < 53 → f j = 0) (hj : j < 53) : upd (upd (upd (upd f 0 4) 1 1) 2 2) 3 20 j = bgF 0 j := by
  have := h j hj
  unfold upd bgF
  by_cases h0 : j = 0
  · subst h0; simp
  · by_cases h1 : j = 1
    · subst h1; simp
    · by_cases h2 : j = 2
      · subst h2; simp
      · by_cases h3 : j = 3
        · subst h3; simp
        · rw [if_neg h3, if_neg h2, if_neg h1, if_neg h0, if_neg h0, if_neg h1, if_neg h2, if_neg h3, if_neg (by omega)]
          exact this
set_option maxHeartbeats 4000000 in
set_option maxRecDepth 20000 in
theorem lbg1 {sc : pg_Sc} {Q : pg_Q} : ∀ (m : Nat) (i : Nat) (g : pg_S), i + m = 53 → (∀ j, j < i → g.1 61 j = 0) → (∀ g', (∀ j, j < 53 → g'.1 61 j = 0) → FR 61 62 g g' → pg_Go sc 1 mX7_begins 18 [(0, .ref 61), (1, .int (nI 53))] [] g' Q) → pg_Go sc 1 mX7_begins 2 [(0, .ref 61), (1, .int (nI i))] [] g Q := by
  intro m
  induction m with
  | zero =>
    intro i g hi h k
    obtain rfl : i = 53 := by omega
    refine go_iload_n (pc' := 3) dX7_begins_2 rfl rfl ?_
    refine go_bipush (pc' := 5) 53 dX7_begins_3 rfl (by decide) ?_
    refine go_icmp_ge (pc' := 8) (tgt := 18) dX7_begins_5 rfl (by decide) (fun h_5 => ?_) (fun h_5 => absurd (Int32.le_refl _) h_5)
    exact k g h FR.rf
  | succ m ih =>
    intro i g hi h k
    have hin : i < 53 := by omega
    refine go_iload_n (pc' := 3) dX7_begins_2 rfl rfl ?_
    refine go_bipush (pc' := 5) 53 dX7_begins_3 rfl (by decide) ?_
    refine go_icmp_ge (pc' := 8) (tgt := 18) dX7_begins_5 rfl (by decide) (fun h_5 => absurd h_5 (nI_ge (b := 53) hin (by decide))) (fun h_5 => ?_)
    refine go_aload_n (pc' := 9) dX7_begins_8 rfl rfl ?_
    refine go_iload_n (pc' := 10) dX7_begins_9 rfl rfl ?_
    refine go_iconst (pc' := 11) 0 dX7_begins_10 rfl (by decide) ?_
    refine go_iast (pc' := 12) i dX7_begins_11 rfl rfl rfl hin (by decide) ?_
    refine go_iinc (pc' := 15) _ dX7_begins_12 rfl rfl (pg_inc _) (by decide) rfl ?_
    refine go_goto (pc' := 2) dX7_begins_15 (by decide) ?_
    refine ih (i + 1) _ (by omega) (fun j hj => ?_) (fun g' a b => k g' a (FR.tr (FR.ui (by decide)) b))
    refine (pg_ui_at g.1 61 i 0 61 j).trans ?_
    by_cases e : j = i
    · subst e; rw [if_pos ⟨rfl, rfl⟩]
    · rw [if_neg (fun q => e q.2)]; exact h j (by omega)

set_option maxHeartbeats 4000000 in
set_option maxRecDepth 20000 in
theorem lbg2 {sc : pg_Sc} {Q : pg_Q} : ∀ (m : Nat) (i : Nat) (g : pg_S), i + m = 5 → (∀ j, j < 53 → g.1 61 j = bgF i j) → (∀ g', (∀ j, j < 53 → g'.1 61 j = bgF 5 j) → FR 61 62 g g' → pg_Go sc 1 mX7_begins 56 [(0, .ref 61), (1, .int (nI 5))] [] g' Q) → pg_Go sc 1 mX7_begins 37 [(0, .ref 61), (1, .int (nI i))] [] g Q := by
  intro m
  induction m with
  | zero =>
    intro i g hi h k
    obtain rfl : i = 5 := by omega
    refine go_iload_n (pc' := 38) dX7_begins_37 rfl rfl ?_
    refine go_iconst (pc' := 39) 5 dX7_begins_38 rfl (by decide) ?_
    refine go_icmp_ge (pc' := 42) (tgt := 56) dX7_begins_39 rfl (by decide) (fun h_39 => ?_) (fun h_39 => absurd (Int32.le_refl _) h_39)
    exact k g h FR.rf
  | succ m ih =>
    intro i g hi h k
    have hin : i < 5 := by omega
    refine go_iload_n (pc' := 38) dX7_begins_37 rfl rfl ?_
    refine go_iconst (pc' := 39) 5 dX7_begins_38 rfl (by decide) ?_
    refine go_icmp_ge (pc' := 42) (tgt := 56) dX7_begins_39 rfl (by decide) (fun h_39 => absurd h_39 (nI_ge (b := 5) hin (by decide))) (fun h_39 => ?_)
    refine go_aload_n (pc' := 43) dX7_begins_42 rfl rfl ?_
    refine go_bipush (pc' := 45) 7 dX7_begins_43 rfl (by decide) ?_
    refine go_iload_n (pc' := 46) dX7_begins_45 rfl rfl ?_
    refine go_iadd (pc' := 47) dX7_begins_46 rfl ?_
    refine go_bipush (pc' := 49) 30 dX7_begins_47 rfl (by decide) ?_
    refine go_iast (pc' := 50) (7 + i) dX7_begins_49 rfl rfl (by rw [show (7 : Int32) = nI 7 from rfl, nI_add]) (by omega) (by decide) ?_
    refine go_iinc (pc' := 53) _ dX7_begins_50 rfl rfl (pg_inc _) (by decide) rfl ?_
    refine go_goto (pc' := 37) dX7_begins_53 (by decide) ?_
    refine ih (i + 1) _ (by omega) (fun j hj => ?_) (fun g' a b => k g' a (FR.tr (FR.ui (by decide)) b))
    refine (pg_ui_at g.1 61 (7 + i) 30 61 j).trans ?_
    rw [bg_s i j hin]
    by_cases e : j = 7 + i
    · subst e; rw [if_pos ⟨rfl, rfl⟩, if_pos rfl]
    · rw [if_neg (fun q => e q.2), if_neg e]; exact h j hj

theorem bg_mr {g : pg_S} {r : Nat} (e : ∀ j, j < 53 → g.1 r j = bgF 5 j) : MR g r (T0F 0) 0 := by
  refine ⟨rfl, ⟨(e 5 (by decide)).trans rfl, (e 4 (by decide)).trans rfl, (e 6 (by decide)).trans rfl⟩, fun i hi => ?_, fun i hi => ?_, fun a _ i hi => absurd hi (by omega)⟩
  · exact (e i (by omega)).trans ((by decide : ∀ i, i < 4 → bgF 5 i = pg_t0.getD i 0) i hi)
  · exact (e (7 + i) (by omega)).trans ((by decide : ∀ i, i < 6 → bgF 5 (7 + i) = if i = 5 then 0 else 30) i hi)
set_option maxHeartbeats 4000000 in
set_option maxRecDepth 20000 in
theorem tX7_begins61 {sc : pg_Sc} {g : pg_S} {K : pg_S → Prop}   (k : ∀ g', MR g' 61 (T0F 0) 0 → FR 61 62 g g' → K g') : pg_Cal sc 1 mX7_begins [.ref 61] g (pg_kv K) := by
  refine pg_Cal.of rfl (Nat.le_of_ble_eq_true rfl) rfl ?_
  refine go_iconst (pc' := 1) 0 dX7_begins_0 rfl (by decide) ?_
  refine go_istore_n (pc' := 2) dX7_begins_1 rfl (by decide) rfl ?_
  refine lbg1 53 0 g (by omega) (fun j hj => absurd hj (by omega)) (fun g1 h1 f1 => ?_)
  refine go_aload_n (pc' := 19) dX7_begins_18 rfl rfl ?_
  refine go_iconst (pc' := 20) 0 dX7_begins_19 rfl (by decide) ?_
  refine go_iconst (pc' := 21) 4 dX7_begins_20 rfl (by decide) ?_
  refine go_iast (pc' := 22) 0 dX7_begins_21 rfl rfl rfl (by decide) (by decide) ?_
  refine go_gen (fun ga ea => ?_)
  refine go_aload_n (pc' := 23) dX7_begins_22 rfl rfl ?_
  refine go_iconst (pc' := 24) 1 dX7_begins_23 rfl (by decide) ?_
  refine go_iconst (pc' := 25) 1 dX7_begins_24 rfl (by decide) ?_
  refine go_iast (pc' := 26) 1 dX7_begins_25 rfl rfl rfl (by decide) (by decide) ?_
  refine go_gen (fun gb eb => ?_)
  refine go_aload_n (pc' := 27) dX7_begins_26 rfl rfl ?_
  refine go_iconst (pc' := 28) 2 dX7_begins_27 rfl (by decide) ?_
  refine go_iconst (pc' := 29) 2 dX7_begins_28 rfl (by decide) ?_
  refine go_iast (pc' := 30) 2 dX7_begins_29 rfl rfl rfl (by decide) (by decide) ?_
  refine go_gen (fun gc ec => ?_)
  refine go_aload_n (pc' := 31) dX7_begins_30 rfl rfl ?_
  refine go_iconst (pc' := 32) 3 dX7_begins_31 rfl (by decide) ?_
  refine go_bipush (pc' := 34) 20 dX7_begins_32 rfl (by decide) ?_
  refine go_iast (pc' := 35) 3 dX7_begins_34 rfl rfl rfl (by decide) (by decide) ?_
  refine go_gen (fun gd ed => ?_)
  refine go_iconst (pc' := 36) 0 dX7_begins_35 rfl (by decide) ?_
  refine go_istore_n (pc' := 37) dX7_begins_36 rfl (by decide) rfl ?_
  have fd : FR 61 62 g1 gd := by
    rw [ed, ec, eb, ea]
    exact FR.tr (FR.tr (FR.tr (FR.ui (by decide)) (FR.ui (by decide))) (FR.ui (by decide))) (FR.ui (by decide))
  refine lbg2 5 0 gd (by omega) (fun j hj => ?_) (fun g2 h2 f2 => ?_)
  · rw [ed, ec, eb, ea]
    simp only [pg_ui_eq]
    exact bg_0 j h1 hj
  refine go_vret dX7_begins_56 rfl ?_
  exact k g2 (bg_mr h2) (FR.tr f1 (FR.tr fd f2))

def PRz (z : Int32) : PR → PR
  | .inl q => .inl q
  | .inr (q, T, n) => .inr (q, tu T 8 2 z, n)
theorem tuz (T : TW) {a i : Nat} (v z : Int32) (h : ¬ (a = 8 ∧ i = 2)) : tu (tu T 8 2 z) a i v = tu (tu T a i v) 8 2 z := by
  funext b j
  unfold tu
  by_cases h1 : b = a ∧ j = i
  · rw [if_pos h1, if_neg (fun q => h ⟨h1.1.symm.trans q.1, h1.2.symm.trans q.2⟩), if_pos h1]
  · rw [if_neg h1]
    by_cases h2 : b = 8 ∧ j = 2
    · rw [if_pos h2, if_pos h2]
    · rw [if_neg h2, if_neg h2, if_neg h1]
theorem fin_z {s : Sg} {T : TW} {n : Nat} {z : Int32} : finF s (tu T 8 2 z) n = PRz z (finF s T n) := by
  unfold finF
  split <;> rfl
theorem adm_z (T : TW) (n : Nat) (a b c d z : Int32) : admF (tu T 8 2 z) n a b c d = tu (admF T n a b c d) 8 2 z := by
  unfold admF
  rw [tuz _ _ _ (by omega), tuz _ _ _ (by omega), tuz _ _ _ (by omega), tuz _ _ _ (by omega), tuz _ _ _ (by omega), tuz _ _ _ (by omega)]
theorem clau_z {B : Nat → Nat} {L : Nat} {T : TW} {n p : Nat} {z : Int32} : clauF B L (tu T 8 2 z) n p = PRz z (clauF B L T n p) := by
  unfold clauF
  split
  · unfold perF
    rw [adm_z, fin_z]
  · split
    · unfold weiF
      rw [tuz _ _ _ (by omega), fin_z]
    · split
      · unfold lawF
        rw [tuz _ _ _ (by omega), fin_z]
      · rfl
theorem tel_z {B : Nat → Nat} {L : Nat} {z : Int32} : ∀ (m p : Nat) (T : TW) (n : Nat), telF B L m p (tu T 8 2 z) n = PRz z (telF B L m p T n) := by
  intro m
  induction m with
  | zero => intro p T n; rfl
  | succ m ih =>
    intro p T n
    show (if soF B L p = 0 then _ else telN (telF B L m) (clauF B L (tu T 8 2 z) n p)) = PRz z (if soF B L p = 0 then _ else telN (telF B L m) (clauF B L T n p))
    by_cases h : soF B L p = 0
    · rw [if_pos h, if_pos h]; rfl
    · rw [if_neg h, if_neg h, clau_z]
      generalize clauF B L T n p = r
      match r with
      | .inl q => rfl
      | .inr (q, T', n') => exact ih q T' n'
theorem T0_z (y z : Int32) : tu (T0F y) 8 2 z = T0F z := by
  funext a i
  match a with
  | 0 => rfl
  | 1 => rfl
  | 2 => rfl
  | 3 => rfl
  | 4 => rfl
  | 5 => rfl
  | 6 => rfl
  | 7 => rfl
  | 8 =>
    unfold tu
    by_cases h : i = 2
    · subst h; rfl
    · rw [if_neg (fun q => h q.2)]
      show (if i = 2 then y else (0 : Int32)) = if i = 2 then z else 0
      rw [if_neg h, if_neg h]
  | a + 9 => exact if_neg (by omega)
theorem nI_m1 {n : Nat} (h : n < 2 ^ 31) : ¬ nI n = -1 := fun q => nI_n0 h (by rw [q]; decide)
theorem tel_wf {B : Nat → Nat} {L : Nat} : ∀ (m p : Nat) (T : TW) (n : Nat), WF T n → PRW (telF B L m p T n) := by
  intro m
  induction m with
  | zero => intro p T n h; exact h
  | succ m ih =>
    intro p T n h
    show PRW (if soF B L p = 0 then _ else telN (telF B L m) (clauF B L T n p))
    by_cases q : soF B L p = 0
    · rw [if_pos q]; exact h
    · rw [if_neg q]
      have hw := clau_wf (B := B) (L := L) (p := p) h
      generalize clauF B L T n p = r at hw
      match r, hw with
      | .inl q, _ => trivial
      | .inr (q, T', n'), hw => exact ih q T' n' hw
theorem tel_le {B : Nat → Nat} {L : Nat} (hL : L ≤ 200) (q : Nat) (hq : q ≤ L) : skF B L q ≤ 200 := Nat.le_trans (sk_le hq) hL
def schF (B : Nat → Nat) (L : Nat) (z : Int32) : PR := telF B L 200 0 (T0F z) 0
theorem sch_z (B : Nat → Nat) (L : Nat) (y z : Int32) : schF B L z = PRz z (schF B L y) := by
  unfold schF
  rw [← T0_z y z]
  exact tel_z 200 0 (T0F y) 0
theorem sch_wf {B : Nat → Nat} {L q n : Nat} {z : Int32} {T : TW} (h : schF B L z = .inr (q, T, n)) : WF T n := by
  have := tel_wf (B := B) (L := L) 200 0 (T0F z) 0 (T0F_wf z)
  unfold schF at h
  rw [h] at this
  exact this
def PRp (L : Nat) : PR → Prop
  | .inl q => q ≤ L
  | .inr (q, _, _) => q ≤ L
theorem fin_p {L : Nat} {s : Sg} {T : TW} {n : Nat} (h : s.2 ≤ L) : PRp L (finF s T n) := by
  unfold finF
  split <;> exact h
theorem wW_p {B : Nat → Nat} {L c : Nat} {s : Sg} (h : s.2 ≤ L) : (wWord B L c s).2 ≤ L := by
  unfold wWord
  split
  · exact en_le h
  · exact h
theorem wN_p {B : Nat → Nat} {L c : Nat} {s : Sg} (h : s.2 ≤ L) : (wNum B L c s).2 ≤ L := by
  unfold wNum
  split
  · exact en_le h
  · exact h
theorem wE_p {B : Nat → Nat} {L : Nat} {s : Sg} (h : s.2 ≤ L) : (wEnd B L s).2 ≤ L := by
  unfold wEnd
  split
  · exact en_le h
  · exact h
theorem wP_p {B : Nat → Nat} {L : Nat} {s : Sg} (h : s.2 ≤ L) : (wPeg B L s).2 ≤ L := by
  unfold wPeg
  split
  · exact en_le h
  · exact h
theorem clau_pos {B : Nat → Nat} {L : Nat} {T : TW} {n p : Nat} (hp : p ≤ L) : PRp L (clauF B L T n p) := by
  have he := en_le (B := B) hp
  unfold clauF
  split
  · refine fin_p (wE_p ?_)
    have h1 : (s1F B L n p).2 ≤ L := by
      unfold s1F
      split
      · exact he
      · exact hp
    have h3 : (s3F B L n p).2 ≤ L := wN_p (wW_p h1)
    have h4 : (s4F B L (s3F B L n p)).2 ≤ L := by
      unfold s4F
      split
      · exact wN_p (s := (true, _)) (en_le h3)
      · exact h3
    unfold s5F
    split
    · exact wP_p (s := (true, _)) (en_le h4)
    · exact h4
  · split
    · exact fin_p (wE_p (wN_p (wW_p (s := (true, _)) he)))
    · split
      · exact fin_p (wE_p (wN_p (s := (true, _)) he))
      · exact hp
theorem tel_pos {B : Nat → Nat} {L : Nat} : ∀ (m p : Nat) (T : TW) (n q : Nat), p ≤ L → telF B L m p T n = .inl q → q ≤ L := by
  intro m
  induction m with
  | zero => intro p T n q _ h; cases h
  | succ m ih =>
    intro p T n q hp h
    have h : (if soF B L p = 0 then (.inr (p, T, n) : PR) else telN (telF B L m) (clauF B L T n p)) = .inl q := h
    by_cases z : soF B L p = 0
    · rw [if_pos z] at h; cases h
    · rw [if_neg z] at h
      have hc := clau_pos (B := B) (L := L) (T := T) (n := n) hp
      generalize clauF B L T n p = r at h hc
      match r, h, hc with
      | .inl q', h, hc => cases h; exact hc
      | .inr (q', T', n'), h, hc => exact ih q' T' n' q hc h
set_option maxHeartbeats 4000000 in
set_option maxRecDepth 20000 in
theorem tX6_school_f {sc : pg_Sc} {g : pg_S} {K : Int32 → pg_S → Prop} {B : Nat → Nat} {L n n' q : Nat} {T T' : TW} (h : CR g 1 T n) (hT : TP g B L) (hr : schF B L (T 8 2) = .inl q) (k : ∀ g', g'.1 28 1 = 0 → g'.1 30 = g.1 30 → CR g' 1 T n → (∀ x, x ∉ ([28, 30] : List Nat) → ¬ (1 ≤ x ∧ x < 19) → g'.1 x = g.1 x) → g'.2 = g.2 → K (-100 - nI (skF B L q)) g') : pg_Cal sc 12 mX6_school [.ref 0] g (pg_ki K) := by
  refine pg_Cal.of rfl (Nat.le_of_ble_eq_true rfl) rfl ?_
  have hr0 : telF B L 200 0 (T0F (T 8 2)) 0 = _ := hr
  refine go_aload_n (pc' := 1) dX6_school_0 rfl rfl ?_
  refine go_getR (pc' := 4) dX6_school_1 rfl flRX6_16 rfl rfl ?_
  refine go_cVv0 (pc' := 7) (M' := mX5_startAnew) (d' := 1) dX6_school_4 rfl cvRX6_73 rfl rfl (by decide) rfl (Nat.le_of_ble_eq_true rfl) ?_
  refine tX5_startAnew (fun g1 c1 f1 => ?_)
  have hb : CR g1 1 T n := h.fr f1 (by decide)
  have T1 : TP g1 B L := hT.fr f1
  refine go_aload_n (pc' := 8) dX6_school_7 rfl rfl ?_
  refine go_getR (pc' := 11) dX6_school_8 rfl flRX6_16 rfl rfl ?_
  refine go_aload_n (pc' := 12) dX6_school_11 rfl rfl ?_
  refine go_getR (pc' := 15) dX6_school_12 rfl flRX6_10 rfl rfl ?_
  refine go_getI (pc' := 18) dX6_school_15 rfl flRX6_76 rfl rfl ?_
  rw [show g1.1 1 10 = T 8 2 from hb.2.1 2 (by omega)]
  refine go_putI (pc' := 21) dX6_school_18 rfl flRX6_76 rfl rfl ft5_10 ?_
  refine go_gen (fun g2 e2 => ?_)
  have f2 : FR 10 19 g1 g2 := by rw [e2]; exact FR.ui (by decide)
  have c2 : CR g2 10 (T0F (T 8 2)) 0 := by
    have := c1.scal (i := 2) (v := T 8 2) (by decide)
    rw [T0_z] at this
    rw [e2]; exact this
  have T2 := T1.fr f2
  refine go_aload_n (pc' := 22) dX6_school_21 rfl rfl ?_
  refine go_getR (pc' := 25) dX6_school_22 rfl flRX6_29 rfl rfl ?_
  refine go_aload_n (pc' := 26) dX6_school_25 rfl rfl ?_
  refine go_getR (pc' := 29) dX6_school_26 rfl flRX6_16 rfl rfl ?_
  refine go_cVi1 (pc' := 32) (M' := mX4_tell) (d' := 11) dX6_school_29 rfl cvRX6_80 rfl rfl (by decide) rfl (Nat.le_of_ble_eq_true rfl) ?_
  refine tX4_tell c2 (T0F_wf _) T2 (fun g3 pk F3 => ?_)
  rw [hr0] at pk ⊢
  have hq : skF B L q ≤ 200 := tel_le hT.2.1 q (tel_pos 200 0 _ _ q (Nat.zero_le _) hr0)
  refine go_istore_n (pc' := 33) dX6_school_32 rfl (by decide) rfl ?_
  refine go_aload_n (pc' := 34) dX6_school_33 rfl rfl ?_
  refine go_getR (pc' := 37) dX6_school_34 rfl flRX6_29 rfl rfl ?_
  refine go_iconst (pc' := 38) 0 dX6_school_37 rfl (by decide) ?_
  refine go_putI (pc' := 41) dX6_school_38 rfl flRX6_84 rfl rfl ft4_1 ?_
  refine go_gen (fun g4 e4 => ?_)
  have f4 : FR 28 29 g3 g4 := by rw [e4]; exact FR.ui (by decide)
  have l4 : g4.1 28 1 = 0 := by rw [e4]; simp [pg_ui_at]
  refine go_iload_n (pc' := 42) dX6_school_41 rfl rfl ?_
  refine go_iconst (pc' := 43) (-1) dX6_school_42 rfl (by decide) ?_
  refine go_icmp_eq (pc' := 46) (tgt := 51) dX6_school_43 rfl (by decide) (fun h_43 => absurd h_43 (nI_m1 (by omega))) (fun h_43 => ?_)
  refine go_bipush (pc' := 48) (-100) dX6_school_46 rfl (by decide) ?_
  refine go_iload_n (pc' := 49) dX6_school_48 rfl rfl ?_
  refine go_isub (pc' := 50) dX6_school_49 rfl ?_
  refine go_iret dX6_school_50 (pg_narI _) ?_
  have fr : ∀ x, x ∉ ([28, 30] : List Nat) → ¬ (1 ≤ x ∧ x < 19) → g4.1 x = g.1 x := by
    intro x hx hy
    have n1 : x ≠ 28 := fun q => hx (by rw [q]; decide)
    have n2 : x ≠ 30 := fun q => hx (by rw [q]; decide)
    rw [f4.1 x (by omega), F3.1 x (by omega) (by omega), f2.1 x (by omega), f1.1 x (by omega)]
  exact k g4 l4 (by rw [f4.1 30 (by decide), F3.1 30 (by decide) (by decide), f2.1 30 (by decide), f1.1 30 (by decide)]) (h.fs (a := 10) (b := 19) (c := 28) (d := 29) ⟨fun x q r => by rw [f4.1 x (by omega), F3.1 x (by omega) (by omega), f2.1 x (by omega), f1.1 x (by omega)], by rw [f4.2, F3.2, f2.2, f1.2]⟩ (fun x q r => by omega)) fr (by rw [f4.2, F3.2, f2.2, f1.2])

set_option maxHeartbeats 4000000 in
set_option maxRecDepth 20000 in
theorem tX6_school_t {sc : pg_Sc} {g : pg_S} {K : Int32 → pg_S → Prop} {B : Nat → Nat} {L n n' q : Nat} {T T' : TW} (h : CR g 1 T n) (hT : TP g B L) (hr : schF B L (T 8 2) = .inr (q, T', n')) (k : ∀ g', g'.1 28 1 = 0 → g'.1 30 1 = 0 → CR g' 1 T' n' → (∀ x, x ∉ ([28, 30] : List Nat) → ¬ (1 ≤ x ∧ x < 19) → g'.1 x = g.1 x) → g'.2 = g.2 → K (nI n') g') : pg_Cal sc 12 mX6_school [.ref 0] g (pg_ki K) := by
  refine pg_Cal.of rfl (Nat.le_of_ble_eq_true rfl) rfl ?_
  have hr0 : telF B L 200 0 (T0F (T 8 2)) 0 = _ := hr
  refine go_aload_n (pc' := 1) dX6_school_0 rfl rfl ?_
  refine go_getR (pc' := 4) dX6_school_1 rfl flRX6_16 rfl rfl ?_
  refine go_cVv0 (pc' := 7) (M' := mX5_startAnew) (d' := 1) dX6_school_4 rfl cvRX6_73 rfl rfl (by decide) rfl (Nat.le_of_ble_eq_true rfl) ?_
  refine tX5_startAnew (fun g1 c1 f1 => ?_)
  have hb : CR g1 1 T n := h.fr f1 (by decide)
  have T1 : TP g1 B L := hT.fr f1
  refine go_aload_n (pc' := 8) dX6_school_7 rfl rfl ?_
  refine go_getR (pc' := 11) dX6_school_8 rfl flRX6_16 rfl rfl ?_
  refine go_aload_n (pc' := 12) dX6_school_11 rfl rfl ?_
  refine go_getR (pc' := 15) dX6_school_12 rfl flRX6_10 rfl rfl ?_
  refine go_getI (pc' := 18) dX6_school_15 rfl flRX6_76 rfl rfl ?_
  rw [show g1.1 1 10 = T 8 2 from hb.2.1 2 (by omega)]
  refine go_putI (pc' := 21) dX6_school_18 rfl flRX6_76 rfl rfl ft5_10 ?_
  refine go_gen (fun g2 e2 => ?_)
  have f2 : FR 10 19 g1 g2 := by rw [e2]; exact FR.ui (by decide)
  have c2 : CR g2 10 (T0F (T 8 2)) 0 := by
    have := c1.scal (i := 2) (v := T 8 2) (by decide)
    rw [T0_z] at this
    rw [e2]; exact this
  have T2 := T1.fr f2
  refine go_aload_n (pc' := 22) dX6_school_21 rfl rfl ?_
  refine go_getR (pc' := 25) dX6_school_22 rfl flRX6_29 rfl rfl ?_
  refine go_aload_n (pc' := 26) dX6_school_25 rfl rfl ?_
  refine go_getR (pc' := 29) dX6_school_26 rfl flRX6_16 rfl rfl ?_
  refine go_cVi1 (pc' := 32) (M' := mX4_tell) (d' := 11) dX6_school_29 rfl cvRX6_80 rfl rfl (by decide) rfl (Nat.le_of_ble_eq_true rfl) ?_
  refine tX4_tell c2 (T0F_wf _) T2 (fun g3 pk F3 => ?_)
  rw [hr0] at pk ⊢
  refine go_istore_n (pc' := 33) dX6_school_32 rfl (by decide) rfl ?_
  refine go_aload_n (pc' := 34) dX6_school_33 rfl rfl ?_
  refine go_getR (pc' := 37) dX6_school_34 rfl flRX6_29 rfl rfl ?_
  refine go_iconst (pc' := 38) 0 dX6_school_37 rfl (by decide) ?_
  refine go_putI (pc' := 41) dX6_school_38 rfl flRX6_84 rfl rfl ft4_1 ?_
  refine go_gen (fun g4 e4 => ?_)
  have f4 : FR 28 29 g3 g4 := by rw [e4]; exact FR.ui (by decide)
  have l4 : g4.1 28 1 = 0 := by rw [e4]; simp [pg_ui_at]
  refine go_iload_n (pc' := 42) dX6_school_41 rfl rfl ?_
  refine go_iconst (pc' := 43) (-1) dX6_school_42 rfl (by decide) ?_
  refine go_icmp_eq (pc' := 46) (tgt := 51) dX6_school_43 rfl (by decide) (fun h_43 => ?_) (fun h_43 => absurd (rfl) h_43)
  refine go_aload_n (pc' := 52) dX6_school_51 rfl rfl ?_
  refine go_getR (pc' := 55) dX6_school_52 rfl flRX6_10 rfl rfl ?_
  refine go_aload_n (pc' := 56) dX6_school_55 rfl rfl ?_
  refine go_getR (pc' := 59) dX6_school_56 rfl flRX6_16 rfl rfl ?_
  refine go_cVv1 (pc' := 62) (M' := mX5_become) (d' := 1) dX6_school_59 rfl cvRX6_87 rfl rfl (by decide) rfl (Nat.le_of_ble_eq_true rfl) ?_
  refine tX5_become_1_10 (n := n') (T := T') (pk.1.fr f4 (by decide)) pk.2.1 (fun g5 c5 f5 => ?_)
  refine go_aload_n (pc' := 63) dX6_school_62 rfl rfl ?_
  refine go_getR (pc' := 66) dX6_school_63 rfl flRX6_36 rfl rfl ?_
  refine go_iconst (pc' := 67) 0 dX6_school_66 rfl (by decide) ?_
  refine go_putI (pc' := 70) dX6_school_67 rfl flRX6_91 rfl rfl ft1_1 ?_
  refine go_gen (fun g6 e6 => ?_)
  have f6 : FR 30 31 g5 g6 := by rw [e6]; exact FR.ui (by decide)
  have c6 := c5.fr f6 (by decide)
  refine go_aload_n (pc' := 71) dX6_school_70 rfl rfl ?_
  refine go_getR (pc' := 74) dX6_school_71 rfl flRX6_10 rfl rfl ?_
  refine go_getI (pc' := 77) dX6_school_74 rfl flRX6_94 rfl rfl ?_
  rw [c6.people]
  refine go_iret dX6_school_77 (pg_narI _) ?_
  have fr : ∀ x, x ∉ ([28, 30] : List Nat) → ¬ (1 ≤ x ∧ x < 19) → g6.1 x = g.1 x := by
    intro x hx hy
    have n1 : x ≠ 28 := fun q => hx (by rw [q]; decide)
    have n2 : x ≠ 30 := fun q => hx (by rw [q]; decide)
    rw [f6.1 x (by omega), f5.1 x (by omega), f4.1 x (by omega), F3.1 x (by omega) (by omega), f2.1 x (by omega), f1.1 x (by omega)]
  exact k g6 (by rw [f6.1 28 (by decide), f5.1 28 (by decide)]; exact l4) (by rw [e6]; simp [pg_ui_at]) c6 fr (by rw [f6.2, f5.2, f4.2, F3.2, f2.2, f1.2])

set_option maxHeartbeats 4000000 in
set_option maxRecDepth 20000 in
theorem tX7_school_f {sc : pg_Sc} {g : pg_S} {K : Int32 → pg_S → Prop} {B : Nat → Nat} {L n n' q : Nat} {T T' : TW} (h : MTP g B L) (hR : MR g 60 T n) (hr : schF B L (T 8 2) = .inl q) (k : ∀ g', g'.1 59 6 = 0 → g'.1 59 16 = g.1 59 16 → MR g' 60 T n → (∀ a, a ∉ ([59, 60, 61] : List Nat) → g'.1 a = g.1 a) → (∀ j, j ∉ ([6, 7, 8, 9, 11, 12, 16] : List Nat) → g'.1 59 j = g.1 59 j) → (∀ a, a ≠ 59 → g'.2 a = g.2 a) → K (-100 - nI (skF B L q)) g') : pg_Cal sc 7 mX7_school [.ref 59] g (pg_ki K) := by
  refine pg_Cal.of rfl (Nat.le_of_ble_eq_true rfl) rfl ?_
  have hr0 : telF B L 200 0 (T0F 0) 0 = .inl q := by
    have e := sch_z B L 0 (T 8 2)
    rw [hr] at e
    show schF B L 0 = _
    generalize schF B L 0 = r at e
    match r, e with
    | .inl q2, e => exact e.symm
    | .inr (a, b, c), e => cases e
  refine go_aload_n (pc' := 1) dX7_school_0 rfl rfl ?_
  refine go_iconst (pc' := 2) 0 dX7_school_1 rfl (by decide) ?_
  refine go_putI (pc' := 5) dX7_school_2 rfl flRX7_70 rfl rfl ft7_9 ?_
  refine go_gen (fun g1 e1 => ?_)
  have F1 : FW [6, 7, 8, 9, 11, 12, 16] g g1 := by rw [e1]; exact FW.ui (by decide)
  refine go_aload_n (pc' := 6) dX7_school_5 rfl rfl ?_
  refine go_iconst (pc' := 7) 1 dX7_school_6 rfl (by decide) ?_
  refine go_putZ (pc' := 10) (by decide) dX7_school_7 rfl flRX7_138 rfl rfl ft7_12 ?_
  refine go_gen (fun g2 e2 => ?_)
  have F2 : FW [6, 7, 8, 9, 11, 12, 16] g g2 := FW.tr F1 (by rw [e2]; exact FW.ui (by decide))
  have T2 : MTP g2 B L := (h.fw (l := [9, 12]) (FW.tr (g' := g1) (by rw [e1]; exact FW.ui (by decide)) (by rw [e2]; exact FW.ui (by decide))) (by decide))
  have n9 : g2.1 59 9 = nI 0 := by rw [e2, e1]; simp [pg_ui_at]; rfl
  have n12 : g2.1 59 12 = 1 := by rw [e2]; simp [pg_ui_at]
  refine go_aload_n (pc' := 11) dX7_school_10 rfl rfl ?_
  refine go_getR (pc' := 14) dX7_school_11 rfl flRX7_13 rfl rfl ?_
  refine go_cSv1 (pc' := 17) (M' := mX7_begins) (d' := 1) dX7_school_14 rfl csRX7_56 (by decide) rfl (Nat.le_of_ble_eq_true rfl) ?_
  refine tX7_begins61 (fun g3 r3 f3 => ?_)
  have T3 := T2.fx (FX.r f3)
  have n9b : g3.1 59 9 = nI 0 := by rw [f3.1 59 (by decide)]; exact n9
  have n12b : g3.1 59 12 = 1 := by rw [f3.1 59 (by decide)]; exact n12
  refine go_aload_n (pc' := 18) dX7_school_17 rfl rfl ?_
  refine go_cVv0 (pc' := 21) (M' := mX7_advance) (d' := 3) dX7_school_18 rfl cvRX7_142 rfl rfl (by decide) rfl (Nat.le_of_ble_eq_true rfl) ?_
  refine tX7_advance T3 n9b (Nat.zero_le _) (fun g4 T4 a4 f4 => ?_)
  have m4 : MG B L (true, 0) g4 := ⟨(f4.2.1 12 (by decide)).trans n12b, a4, Nat.zero_le _⟩
  have r4 := r3.fw f4 (by decide)
  refine lsc 200 0 (T0F 0) 0 g4 (by have := h.2.1; omega) (Nat.zero_le _) (T0F_wf 0) T4 m4 r4 (fun g5 T5 p5 x5 => ?_)
  rw [hr0] at p5
  have p5 : MG B L (false, q) g5 := p5
  refine go_aload_n (pc' := 43) dX7_school_42 rfl rfl ?_
  refine go_iconst (pc' := 44) 0 dX7_school_43 rfl (by decide) ?_
  refine go_putI (pc' := 47) dX7_school_44 rfl flRX7_64 rfl rfl ft7_6 ?_
  refine go_gen (fun g6 e6 => ?_)
  have F6 : FW [6, 7, 8, 9, 11, 12, 16] g5 g6 := by rw [e6]; exact FW.ui (by decide)
  have l6 : g6.1 59 6 = 0 := by rw [e6]; simp [pg_ui_at]
  refine go_aload_n (pc' := 48) dX7_school_47 rfl rfl ?_
  refine go_getI (pc' := 51) dX7_school_48 rfl flRX7_138 rfl rfl ?_
  rw [show g6.1 59 12 = 0 by rw [e6]; exact (rd_ui (by decide)).trans p5.1]
  refine go_if_ne (pc' := 54) (tgt := 62) dX7_school_51 rfl (by decide) (fun h_51 => absurd h_51 (fun q => q rfl)) (fun h_51 => ?_)
  refine go_bipush (pc' := 56) (-100) dX7_school_54 rfl (by decide) ?_
  refine go_aload_n (pc' := 57) dX7_school_56 rfl rfl ?_
  refine go_getI (pc' := 60) dX7_school_57 rfl flRX7_73 rfl rfl ?_
  rw [show g6.1 59 8 = nI (skF B L q) by rw [e6]; exact (rd_ui (by decide)).trans p5.2.1.2.1]
  refine go_isub (pc' := 61) dX7_school_60 rfl ?_
  refine go_iret dX7_school_61 (pg_narI _) ?_
  have fa : ∀ a, a ∉ ([59, 60, 61] : List Nat) → g6.1 a = g.1 a := by
    intro a ha
    have n1 : a ≠ 59 := fun q => ha (by rw [q]; decide)
    have n2 : a ≠ 61 := fun q => ha (by rw [q]; decide)
    rw [F6.1 a n1, x5.1 a n1 n2, f4.1 a n1, f3.1 a (by omega), F2.1 a n1]
  have fb : ∀ j, j ∉ ([6, 7, 8, 9, 11, 12, 16] : List Nat) → g6.1 59 j = g.1 59 j := by
    intro j hj
    rw [F6.2.1 j hj, x5.2.1 j (fun q => hj ((by decide : ∀ a ∈ ([7, 8, 9, 11, 12] : List Nat), a ∈ ([6, 7, 8, 9, 11, 12, 16] : List Nat)) j q)), f4.2.1 j (fun q => hj ((by decide : ∀ a ∈ ([7, 8, 9, 11] : List Nat), a ∈ ([6, 7, 8, 9, 11, 12, 16] : List Nat)) j q)), f3.1 59 (by decide), F2.2.1 j hj]
  have fc : ∀ a, a ≠ 59 → g6.2 a = g.2 a := by
    intro a ha
    rw [F6.2.2 a ha, x5.2.2 a ha, f4.2.2 a ha, f3.2, F2.2.2 a ha]
  have h60 : g6.1 60 = g.1 60 := by
    rw [F6.1 60 (by decide), x5.1 60 (by decide) (by decide), f4.1 60 (by decide), f3.1 60 (by decide), F2.1 60 (by decide)]
  have h16 : g6.1 59 16 = g.1 59 16 := by
    have q6 : g6.1 59 16 = g5.1 59 16 := by rw [e6]; exact rd_ui (by decide)
    have q2 : g2.1 59 16 = g.1 59 16 := by rw [e2, e1]; simp [pg_ui_at]
    rw [q6, x5.2.1 16 (by decide), f4.2.1 16 (by decide), f3.1 59 (by decide), q2]
  have hR6 : MR g6 60 T n := by
    unfold MR at hR ⊢
    rw [h60]; exact hR
  exact k g6 l6 h16 hR6 fa fb fc

set_option maxHeartbeats 4000000 in
set_option maxRecDepth 20000 in
theorem tX7_school_t {sc : pg_Sc} {g : pg_S} {K : Int32 → pg_S → Prop} {B : Nat → Nat} {L n n' q : Nat} {T T' : TW} (h : MTP g B L) (hR : MR g 60 T n) (hr : schF B L (T 8 2) = .inr (q, T', n')) (k : ∀ g', g'.1 59 6 = 0 → g'.1 59 16 = 0 → MR g' 60 T' n' → (∀ a, a ∉ ([59, 60, 61] : List Nat) → g'.1 a = g.1 a) → (∀ j, j ∉ ([6, 7, 8, 9, 11, 12, 16] : List Nat) → g'.1 59 j = g.1 59 j) → (∀ a, a ≠ 59 → g'.2 a = g.2 a) → K (nI n') g') : pg_Cal sc 7 mX7_school [.ref 59] g (pg_ki K) := by
  refine pg_Cal.of rfl (Nat.le_of_ble_eq_true rfl) rfl ?_
  obtain ⟨TZ, hr0, e0⟩ : ∃ T2, telF B L 200 0 (T0F 0) 0 = .inr (q, T2, n') ∧ tu T2 8 2 (T 8 2) = T' := by
    have e := sch_z B L 0 (T 8 2)
    rw [hr] at e
    show ∃ T2, schF B L 0 = _ ∧ _
    generalize schF B L 0 = r at e
    match r, e with
    | .inl q2, e => cases e
    | .inr (a, b, c), e =>
      obtain ⟨e1, e2⟩ := Prod.mk.inj (Sum.inr.inj e)
      have e3 := (Prod.mk.inj e2).2
      subst e1; subst e3
      exact ⟨b, rfl, (Prod.mk.inj e2).1.symm⟩
  refine go_aload_n (pc' := 1) dX7_school_0 rfl rfl ?_
  refine go_iconst (pc' := 2) 0 dX7_school_1 rfl (by decide) ?_
  refine go_putI (pc' := 5) dX7_school_2 rfl flRX7_70 rfl rfl ft7_9 ?_
  refine go_gen (fun g1 e1 => ?_)
  have F1 : FW [6, 7, 8, 9, 11, 12, 16] g g1 := by rw [e1]; exact FW.ui (by decide)
  refine go_aload_n (pc' := 6) dX7_school_5 rfl rfl ?_
  refine go_iconst (pc' := 7) 1 dX7_school_6 rfl (by decide) ?_
  refine go_putZ (pc' := 10) (by decide) dX7_school_7 rfl flRX7_138 rfl rfl ft7_12 ?_
  refine go_gen (fun g2 e2 => ?_)
  have F2 : FW [6, 7, 8, 9, 11, 12, 16] g g2 := FW.tr F1 (by rw [e2]; exact FW.ui (by decide))
  have T2 : MTP g2 B L := (h.fw (l := [9, 12]) (FW.tr (g' := g1) (by rw [e1]; exact FW.ui (by decide)) (by rw [e2]; exact FW.ui (by decide))) (by decide))
  have n9 : g2.1 59 9 = nI 0 := by rw [e2, e1]; simp [pg_ui_at]; rfl
  have n12 : g2.1 59 12 = 1 := by rw [e2]; simp [pg_ui_at]
  refine go_aload_n (pc' := 11) dX7_school_10 rfl rfl ?_
  refine go_getR (pc' := 14) dX7_school_11 rfl flRX7_13 rfl rfl ?_
  refine go_cSv1 (pc' := 17) (M' := mX7_begins) (d' := 1) dX7_school_14 rfl csRX7_56 (by decide) rfl (Nat.le_of_ble_eq_true rfl) ?_
  refine tX7_begins61 (fun g3 r3 f3 => ?_)
  have T3 := T2.fx (FX.r f3)
  have n9b : g3.1 59 9 = nI 0 := by rw [f3.1 59 (by decide)]; exact n9
  have n12b : g3.1 59 12 = 1 := by rw [f3.1 59 (by decide)]; exact n12
  refine go_aload_n (pc' := 18) dX7_school_17 rfl rfl ?_
  refine go_cVv0 (pc' := 21) (M' := mX7_advance) (d' := 3) dX7_school_18 rfl cvRX7_142 rfl rfl (by decide) rfl (Nat.le_of_ble_eq_true rfl) ?_
  refine tX7_advance T3 n9b (Nat.zero_le _) (fun g4 T4 a4 f4 => ?_)
  have m4 : MG B L (true, 0) g4 := ⟨(f4.2.1 12 (by decide)).trans n12b, a4, Nat.zero_le _⟩
  have r4 := r3.fw f4 (by decide)
  refine lsc 200 0 (T0F 0) 0 g4 (by have := h.2.1; omega) (Nat.zero_le _) (T0F_wf 0) T4 m4 r4 (fun g5 T5 p5 x5 => ?_)
  rw [hr0] at p5
  have p5 : MG B L (true, q) g5 ∧ MR g5 61 TZ n' ∧ WF TZ n' := p5
  refine go_aload_n (pc' := 43) dX7_school_42 rfl rfl ?_
  refine go_iconst (pc' := 44) 0 dX7_school_43 rfl (by decide) ?_
  refine go_putI (pc' := 47) dX7_school_44 rfl flRX7_64 rfl rfl ft7_6 ?_
  refine go_gen (fun g6 e6 => ?_)
  have F6 : FW [6, 7, 8, 9, 11, 12, 16] g5 g6 := by rw [e6]; exact FW.ui (by decide)
  have l6 : g6.1 59 6 = 0 := by rw [e6]; simp [pg_ui_at]
  refine go_aload_n (pc' := 48) dX7_school_47 rfl rfl ?_
  refine go_getI (pc' := 51) dX7_school_48 rfl flRX7_138 rfl rfl ?_
  rw [show g6.1 59 12 = 1 by rw [e6]; exact (rd_ui (by decide)).trans p5.1.1]
  refine go_if_ne (pc' := 54) (tgt := 62) dX7_school_51 rfl (by decide) (fun h_51 => ?_) (fun h_51 => absurd h_51 (by decide))
  have fa : ∀ a, a ∉ ([59, 60, 61] : List Nat) → g6.1 a = g.1 a := by
    intro a ha
    have n1 : a ≠ 59 := fun q => ha (by rw [q]; decide)
    have n2 : a ≠ 61 := fun q => ha (by rw [q]; decide)
    rw [F6.1 a n1, x5.1 a n1 n2, f4.1 a n1, f3.1 a (by omega), F2.1 a n1]
  have fb : ∀ j, j ∉ ([6, 7, 8, 9, 11, 12, 16] : List Nat) → g6.1 59 j = g.1 59 j := by
    intro j hj
    rw [F6.2.1 j hj, x5.2.1 j (fun q => hj ((by decide : ∀ a ∈ ([7, 8, 9, 11, 12] : List Nat), a ∈ ([6, 7, 8, 9, 11, 12, 16] : List Nat)) j q)), f4.2.1 j (fun q => hj ((by decide : ∀ a ∈ ([7, 8, 9, 11] : List Nat), a ∈ ([6, 7, 8, 9, 11, 12, 16] : List Nat)) j q)), f3.1 59 (by decide), F2.2.1 j hj]
  have fc : ∀ a, a ≠ 59 → g6.2 a = g.2 a := by
    intro a ha
    rw [F6.2.2 a ha, x5.2.2 a ha, f4.2.2 a ha, f3.2, F2.2.2 a ha]
  have h60 : g6.1 60 = g.1 60 := by
    rw [F6.1 60 (by decide), x5.1 60 (by decide) (by decide), f4.1 60 (by decide), f3.1 60 (by decide), F2.1 60 (by decide)]
  have h16 : g6.1 59 16 = g.1 59 16 := by
    have q6 : g6.1 59 16 = g5.1 59 16 := by rw [e6]; exact rd_ui (by decide)
    have q2 : g2.1 59 16 = g.1 59 16 := by rw [e2, e1]; simp [pg_ui_at]
    rw [q6, x5.2.1 16 (by decide), f4.2.1 16 (by decide), f3.1 59 (by decide), q2]
  have hR6 : MR g6 60 T n := by
    unfold MR at hR ⊢
    rw [h60]; exact hR
  refine go_aload_n (pc' := 63) dX7_school_62 rfl rfl ?_
  refine go_getR (pc' := 66) dX7_school_63 rfl flRX7_13 rfl rfl ?_
  refine go_bipush (pc' := 68) 6 dX7_school_66 rfl (by decide) ?_
  refine go_aload_n (pc' := 69) dX7_school_68 rfl rfl ?_
  refine go_getR (pc' := 72) dX7_school_69 rfl flRX7_7 rfl rfl ?_
  refine go_bipush (pc' := 74) 6 dX7_school_72 rfl (by decide) ?_
  refine go_iald (pc' := 75) 6 dX7_school_74 rfl rfl rfl (by omega) (by decide) ?_
  rw [show g6.1 60 6 = T 8 2 from hR6.2.1.2.2]
  refine go_iast (pc' := 76) 6 dX7_school_75 rfl rfl rfl (by omega) (by decide) ?_
  refine go_gen (fun g7 e7 => ?_)
  have f7 : FR 61 62 g6 g7 := by rw [e7]; exact FR.ui (by decide)
  have r7 : MR g7 61 (tu TZ 8 2 (T 8 2)) n' := by
    rw [e7]
    exact (p5.2.1.fw F6 (by decide)).z
  refine go_aload_n (pc' := 77) dX7_school_76 rfl rfl ?_
  refine go_getR (pc' := 80) dX7_school_77 rfl flRX7_13 rfl rfl ?_
  refine go_aload_n (pc' := 81) dX7_school_80 rfl rfl ?_
  refine go_getR (pc' := 84) dX7_school_81 rfl flRX7_7 rfl rfl ?_
  refine go_cSv2 (pc' := 87) (M' := mX7_moveAll) (d' := 1) dX7_school_84 rfl csRX7_193 (by decide) rfl (Nat.le_of_ble_eq_true rfl) ?_
  refine tX7_mv_61_60 r7 p5.2.2.1 (fun g8 r8 f8 => ?_)
  refine go_aload_n (pc' := 88) dX7_school_87 rfl rfl ?_
  refine go_iconst (pc' := 89) 0 dX7_school_88 rfl (by decide) ?_
  refine go_putI (pc' := 92) dX7_school_89 rfl flRX7_197 rfl rfl ft7_16 ?_
  refine go_gen (fun g9 e9 => ?_)
  have F9 : FW [6, 7, 8, 9, 11, 12, 16] g8 g9 := by rw [e9]; exact FW.ui (by decide)
  have r9 := r8.fw F9 (by decide)
  refine go_aload_n (pc' := 93) dX7_school_92 rfl rfl ?_
  refine go_getR (pc' := 96) dX7_school_93 rfl flRX7_7 rfl rfl ?_
  refine go_iconst (pc' := 97) 5 dX7_school_96 rfl (by decide) ?_
  refine go_iald (pc' := 98) 5 dX7_school_97 rfl rfl rfl (by omega) (by decide) ?_
  rw [r9.people]
  refine go_iret dX7_school_98 (pg_narI _) ?_
  refine k g9 ?_ ?_ (e0 ▸ r9) ?_ ?_ ?_
  · rw [e9]
    refine (rd_ui (by decide)).trans ?_
    rw [f8.1 59 (by decide), f7.1 59 (by decide)]; exact l6
  · rw [e9]; simp [pg_ui_at]
  · intro a ha
    have n1 : a ≠ 59 := fun q => ha (by rw [q]; decide)
    have n2 : a ≠ 60 := fun q => ha (by rw [q]; decide)
    have n3 : a ≠ 61 := fun q => ha (by rw [q]; decide)
    rw [F9.1 a n1, f8.1 a (by omega), f7.1 a (by omega)]; exact fa a ha
  · intro j hj
    rw [F9.2.1 j hj, f8.1 59 (by decide), f7.1 59 (by decide)]; exact fb j hj
  · intro a ha
    rw [F9.2.2 a ha, f8.2, f7.2]; exact fc a ha

