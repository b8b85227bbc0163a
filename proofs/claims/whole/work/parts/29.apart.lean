def bN (v : Nat) : Nat := krF 4096 v
theorem bN_bc {v : Nat} (h : v < 1024) : bcF (nI v) = nI (bN v) := (krF_bc v (by omega)).symm
set_option maxRecDepth 100000 in
theorem bN_le : ∀ v, v < 1024 → bN v ≤ 10 := by decide +kernel
def apF (T : TW) (a b : Nat) : Int32 := orF (rstF T a b) 10 0 0
abbrev TB (T : TW) (n v : Nat) : Prop := ∀ a, a < n → ∀ b, b < n → a < b → ¬ apF T a b &&& nI v = 0
def tB (T : TW) (n v : Nat) : Bool := decide (TB T n v)
theorem tB_iff {T : TW} {n v : Nat} : tB T n v = true ↔ TB T n v := decide_eq_true_iff
def in1 (P : Nat → Bool) (z : Nat) : Nat → Nat → Option Nat
  | 0, _ => none
  | m + 1, v => if bN v = z ∧ P v = true then some v else in1 P z m (v + 1)
def out1 (P : Nat → Bool) : Nat → Nat → Option Nat
  | 0, _ => none
  | m + 1, z => match in1 P z 1024 0 with
    | some v => some v
    | none => out1 P m (z + 1)
def btr (P : Nat → Bool) (v : Nat) : Option Nat → Bool
  | none => P v
  | some c => decide (bN v < bN c) && P v
theorem btr_s {P : Nat → Bool} {v c : Nat} : btr P v (some c) = true ↔ bN v < bN c ∧ P v = true := by
  show (decide (bN v < bN c) && P v) = true ↔ _
  rw [Bool.and_eq_true, decide_eq_true_iff]
def bst (P : Nat → Bool) : Nat → Nat → Option Nat → Option Nat
  | 0, _, b => b
  | m + 1, v, b => bst P m (v + 1) (if btr P v b = true then some v else b)
def isB (P : Nat → Bool) (u : Nat) : Option Nat → Prop
  | none => ∀ v, v < u → ¬ P v = true
  | some c => c < u ∧ P c = true ∧ ∀ v, v < u → P v = true → bN c < bN v ∨ (bN c = bN v ∧ c ≤ v)
theorem isB_un {P : Nat → Bool} {u : Nat} {x y : Option Nat} (hx : isB P u x) (hy : isB P u y) : x = y := by
  match x, y, hx, hy with
  | none, none, _, _ => rfl
  | none, some c, hx, hy => exact absurd hy.2.1 (hx c hy.1)
  | some c, none, hx, hy => exact absurd hx.2.1 (hy c hx.1)
  | some c, some d, hx, hy =>
    have h1 := hx.2.2 d hy.1 hy.2.1
    have h2 := hy.2.2 c hx.1 hx.2.1
    have : c = d := by omega
    rw [this]
theorem bst_is {P : Nat → Bool} : ∀ m v b, isB P v b → isB P (v + m) (bst P m v b)
  | 0, _, _, h => h
  | m + 1, v, b, h => by
    show isB P (v + (m + 1)) (bst P m (v + 1) (if btr P v b = true then some v else b))
    rw [show v + (m + 1) = v + 1 + m by omega]
    refine bst_is m (v + 1) _ ?_
    match b, h with
    | none, h =>
      by_cases e : btr P v none = true
      · rw [if_pos e]
        exact ⟨by omega, e, fun w hw hp => by
          by_cases q : w = v
          · exact Or.inr ⟨by rw [q], by omega⟩
          · exact absurd hp (h w (by omega))⟩
      · rw [if_neg e]
        exact fun w hw hp => by
          by_cases q : w = v
          · exact e (by rw [← q]; exact hp)
          · exact h w (by omega) hp
    | some c, h =>
      obtain ⟨h1, h2, h3⟩ := h
      by_cases e : btr P v (some c) = true
      · rw [if_pos e]
        have e := btr_s.mp e
        exact ⟨by omega, e.2, fun w hw hp => by
          by_cases q : w = v
          · exact Or.inr ⟨by rw [q], by omega⟩
          · have := h3 w (by omega) hp
            have e1 : bN v < bN c := e.1
            omega⟩
      · rw [if_neg e]
        exact ⟨by omega, h2, fun w hw hp => by
          by_cases q : w = v
          · subst q
            have e1 : ¬ bN w < bN c := fun z => e (btr_s.mpr ⟨z, hp⟩)
            omega
          · exact h3 w (by omega) hp⟩
theorem in1_is {P : Nat → Bool} {z : Nat} : ∀ m v, match in1 P z m v with
    | none => ∀ w, v ≤ w → w < v + m → ¬ (bN w = z ∧ P w = true)
    | some c => v ≤ c ∧ c < v + m ∧ bN c = z ∧ P c = true ∧ ∀ w, v ≤ w → w < c → ¬ (bN w = z ∧ P w = true)
  | 0, v => fun w h1 h2 => absurd h2 (by omega)
  | m + 1, v => by
    have ih := in1_is (P := P) (z := z) m (v + 1)
    unfold in1
    by_cases e : bN v = z ∧ P v = true
    · rw [if_pos e]
      exact ⟨by omega, by omega, e.1, e.2, fun w h1 h2 => absurd h2 (by omega)⟩
    · rw [if_neg e]
      revert ih
      cases in1 P z m (v + 1) with
      | none =>
        intro ih w h1 h2
        by_cases q : w = v
        · rw [q]; exact e
        · exact ih w (by omega) (by omega)
      | some c =>
        intro ih
        obtain ⟨i1, i2, i3, i4, i5⟩ := ih
        refine ⟨by omega, by omega, i3, i4, fun w h1 h2 => ?_⟩
        by_cases q : w = v
        · rw [q]; exact e
        · exact i5 w (by omega) h2
theorem out1_is {P : Nat → Bool} : ∀ m z, z + m = 11 → (∀ w, w < 1024 → P w = true → z ≤ bN w) → isB P 1024 (out1 P m z)
  | 0, z, hz, h => fun w hw hp => by
    have := h w hw hp
    have := bN_le w hw
    omega
  | m + 1, z, hz, h => by
    have i := in1_is (P := P) (z := z) 1024 0
    unfold out1
    revert i
    cases in1 P z 1024 0 with
    | none =>
      intro i
      refine out1_is m (z + 1) (by omega) (fun w hw hp => ?_)
      have h1 := h w hw hp
      have h2 := i w (by omega) (by omega)
      have : ¬ bN w = z := fun q => h2 ⟨q, hp⟩
      omega
    | some c =>
      intro i
      obtain ⟨i1, i2, i3, i4, i5⟩ := i
      refine ⟨by omega, i4, fun w hw hp => ?_⟩
      have h1 := h w hw hp
      by_cases q : bN w = z
      · refine Or.inr ⟨by omega, ?_⟩
        rcases Nat.lt_or_ge w c with q2 | q2
        · exact absurd ⟨q, hp⟩ (i5 w (by omega) q2)
        · exact q2
      · exact Or.inl (by omega)
def resO : Option Nat → Int32
  | none => -3
  | some v => nI v
def bI : Option Nat → Int32
  | none => -1
  | some v => nI v
/-- the answer of both -/
def apA (T : TW) (n : Nat) : Int32 := resO (bst (tB T n) 1024 0 none)
theorem bst_at {P : Nat → Bool} (m : Nat) : isB P m (bst P m 0 none) := by
  have h := bst_is (P := P) m 0 none (fun v hv => absurd hv (by omega))
  rw [Nat.zero_add] at h
  exact h
theorem out1_bm (P : Nat → Bool) (m : Nat) (hm : m = 1024) : out1 P 11 0 = bst P m 0 none := isB_un (u := m) (by rw [hm]; exact out1_is 11 0 rfl (fun _ _ _ => Nat.zero_le _)) (bst_at m)
theorem out1_bst (P : Nat → Bool) : out1 P 11 0 = bst P 1024 0 none := out1_bm P 1024 rfl
theorem bst_none {P : Nat → Bool} {m : Nat} (h : ∀ v, v < m → ¬ P v = true) : bst P m 0 none = none := isB_un (u := m) (bst_at m) h
theorem ap_z {x v : Int32} (h : x = 0) : x &&& v = 0 := by rw [h]; exact Int32.zero_and
theorem ix8 (i j : Nat) : (8 : Int32) * nI i + nI j = nI (8 * i + j) := by rw [show (8 : Int32) = nI 8 from rfl, pk_mul, nI_add]
set_option maxHeartbeats 4000000 in
set_option maxRecDepth 20000 in
theorem lls_i {sc : pg_Sc} {Q : pg_Q} {T : TW} {n i : Nat} (wf : WF T n) (hi : i < n) : ∀ (m : Nat) (j t : Nat) (g : pg_S), j + m = n → i < j → t ≤ 8 * i + j → CR g 1 T n → (∀ x, x < t → ∃ a b, a < b ∧ b < n ∧ g.1 58 x = apF T a b) → (∀ a b, a < b → b < n → (a < i ∨ (a = i ∧ b < j)) → ∃ x, x < t ∧ g.1 58 x = apF T a b) → (∀ g' t', t' ≤ 8 * i + n → CR g' 1 T n → (∀ x, x < t' → ∃ a b, a < b ∧ b < n ∧ g'.1 58 x = apF T a b) → (∀ a b, a < b → b < n → (a < i + 1) → ∃ x, x < t' ∧ g'.1 58 x = apF T a b) → FR 58 59 g g' → pg_Go sc 3 mX6_listRestsApart 54 [(0, .ref 0), (1, .int (nI t')), (2, .int (nI i))] [] g' Q) → pg_Go sc 3 mX6_listRestsApart 19 [(0, .ref 0), (1, .int (nI t)), (2, .int (nI i)), (3, .int (nI j))] [] g Q := by
  intro m
  induction m with
  | zero =>
    intro j t g hj hij ht h l1 l2 k
    obtain rfl : j = n := by omega
    refine go_iload_n (pc' := 20) dX6_listRestsApart_19 rfl rfl ?_
    refine go_aload_n (pc' := 21) dX6_listRestsApart_20 rfl rfl ?_
    refine go_getR (pc' := 24) dX6_listRestsApart_21 rfl flRX6_10 rfl rfl ?_
    refine go_getI (pc' := 27) dX6_listRestsApart_24 rfl flRX6_94 rfl rfl ?_
    rw [c1_people h]
    refine go_icmp_ge (pc' := 30) (tgt := 54) dX6_listRestsApart_27 rfl (by decide) (fun h_27 => ?_) (fun h_27 => absurd (Int32.le_refl _) h_27)
    refine go_sub [0, 1, 2] rfl ?_
    exact k g t ht h l1 (fun a b ha hb hc => l2 a b ha hb (by omega)) FR.rf
  | succ m ih =>
    intro j t g hj hij ht h l1 l2 k
    have hn := wf.1
    have hin : j < n := by omega
    refine go_iload_n (pc' := 20) dX6_listRestsApart_19 rfl rfl ?_
    refine go_aload_n (pc' := 21) dX6_listRestsApart_20 rfl rfl ?_
    refine go_getR (pc' := 24) dX6_listRestsApart_21 rfl flRX6_10 rfl rfl ?_
    refine go_getI (pc' := 27) dX6_listRestsApart_24 rfl flRX6_94 rfl rfl ?_
    rw [c1_people h]
    refine go_icmp_ge (pc' := 30) (tgt := 54) dX6_listRestsApart_27 rfl (by decide) (fun h_27 => absurd h_27 (nI_ge hin (by omega))) (fun h_27 => ?_)
    refine go_aload_n (pc' := 31) dX6_listRestsApart_30 rfl rfl ?_
    refine go_getR (pc' := 34) dX6_listRestsApart_31 rfl flRX6_59 rfl rfl ?_
    refine go_iload_n (pc' := 35) dX6_listRestsApart_34 rfl rfl ?_
    refine go_aload_n (pc' := 36) dX6_listRestsApart_35 rfl rfl ?_
    refine go_getR (pc' := 39) dX6_listRestsApart_36 rfl flRX6_10 rfl rfl ?_
    refine go_iload_n (pc' := 40) dX6_listRestsApart_39 rfl rfl ?_
    refine go_iload_n (pc' := 41) dX6_listRestsApart_40 rfl rfl ?_
    refine go_cVi2 (pc' := 44) (M' := mX5_restsOfDifference) (d' := 2) dX6_listRestsApart_41 rfl cvRX6_320 rfl rfl (by decide) rfl (Nat.le_of_ble_eq_true rfl) ?_
    refine tX5_rests h wf hi hin ?_
    refine go_iast (pc' := 45) t dX6_listRestsApart_44 rfl rfl rfl (by omega) (by decide) ?_
    refine go_gen (fun g1 e1 => ?_)
    have f1 : FR 58 59 g g1 := by rw [e1]; exact FR.ui (by decide)
    have at1 : ∀ x, g1.1 58 x = if x = t then apF T i j else g.1 58 x := by
      intro x
      rw [e1]
      show pg_ui g.1 58 t (apF T i j) 58 x = _
      rw [pg_ui_at]
      by_cases e : x = t
      · rw [if_pos ⟨rfl, e⟩, if_pos e]
      · rw [if_neg (fun q => e q.2), if_neg e]
    refine go_iinc (pc' := 48) _ dX6_listRestsApart_45 rfl rfl (pg_inc _) (by decide) rfl ?_
    refine go_iinc (pc' := 51) _ dX6_listRestsApart_48 rfl rfl (pg_inc _) (by decide) rfl ?_
    refine go_goto (pc' := 19) dX6_listRestsApart_51 (by decide) ?_
    refine ih (j + 1) (t + 1) g1 (by omega) (by omega) (by omega) (h.fr f1 (by decide)) (fun x hx => ?_) (fun a b ha hb hc => ?_) (fun g' t' z1 z2 z3 z4 z5 => k g' t' z1 z2 z3 z4 (FR.tr f1 z5))
    · rw [at1]
      by_cases e : x = t
      · rw [if_pos e]; exact ⟨i, j, hij, hin, rfl⟩
      · rw [if_neg e]; exact l1 x (by omega)
    · by_cases e : a = i ∧ b = j
      · refine ⟨t, by omega, ?_⟩
        rw [at1, if_pos rfl, e.1, e.2]
      · obtain ⟨x, hx, ex⟩ := l2 a b ha hb (by omega)
        refine ⟨x, by omega, ?_⟩
        rw [at1, if_neg (by omega)]
        exact ex

set_option maxHeartbeats 4000000 in
set_option maxRecDepth 20000 in
theorem lls_o {sc : pg_Sc} {K : Int32 → pg_S → Prop} {T : TW} {n : Nat} (wf : WF T n) : ∀ (m : Nat) (i t : Nat) (g : pg_S), i + m = n → t ≤ 8 * i → CR g 1 T n → (∀ x, x < t → ∃ a b, a < b ∧ b < n ∧ g.1 58 x = apF T a b) → (∀ a b, a < b → b < n → a < i → ∃ x, x < t ∧ g.1 58 x = apF T a b) → (∀ g' t', t' ≤ 64 → (∀ x, x < t' → ∃ a b, a < b ∧ b < n ∧ g'.1 58 x = apF T a b) → (∀ a b, a < b → b < n → ∃ x, x < t' ∧ g'.1 58 x = apF T a b) → FR 58 59 g g' → K (nI t') g') → pg_Go sc 3 mX6_listRestsApart 4 [(0, .ref 0), (1, .int (nI t)), (2, .int (nI i))] [] g (pg_ki K) := by
  intro m
  induction m with
  | zero =>
    intro i t g hi ht h l1 l2 k
    have hn := wf.1
    obtain rfl : i = n := by omega
    refine go_iload_n (pc' := 5) dX6_listRestsApart_4 rfl rfl ?_
    refine go_aload_n (pc' := 6) dX6_listRestsApart_5 rfl rfl ?_
    refine go_getR (pc' := 9) dX6_listRestsApart_6 rfl flRX6_10 rfl rfl ?_
    refine go_getI (pc' := 12) dX6_listRestsApart_9 rfl flRX6_94 rfl rfl ?_
    rw [c1_people h]
    refine go_icmp_ge (pc' := 15) (tgt := 60) dX6_listRestsApart_12 rfl (by decide) (fun h_12 => ?_) (fun h_12 => absurd (Int32.le_refl _) h_12)
    refine go_iload_n (pc' := 61) dX6_listRestsApart_60 rfl rfl ?_
    refine go_iret dX6_listRestsApart_61 (pg_narI _) ?_
    exact k g t (by omega) l1 (fun a b ha hb => l2 a b ha hb (by omega)) FR.rf
  | succ m ih =>
    intro i t g hi ht h l1 l2 k
    have hn := wf.1
    have hin : i < n := by omega
    refine go_iload_n (pc' := 5) dX6_listRestsApart_4 rfl rfl ?_
    refine go_aload_n (pc' := 6) dX6_listRestsApart_5 rfl rfl ?_
    refine go_getR (pc' := 9) dX6_listRestsApart_6 rfl flRX6_10 rfl rfl ?_
    refine go_getI (pc' := 12) dX6_listRestsApart_9 rfl flRX6_94 rfl rfl ?_
    rw [c1_people h]
    refine go_icmp_ge (pc' := 15) (tgt := 60) dX6_listRestsApart_12 rfl (by decide) (fun h_12 => absurd h_12 (nI_ge hin (by omega))) (fun h_12 => ?_)
    refine go_iload_n (pc' := 16) dX6_listRestsApart_15 rfl rfl ?_
    refine go_iconst (pc' := 17) 1 dX6_listRestsApart_16 rfl (by decide) ?_
    refine go_iadd (pc' := 18) dX6_listRestsApart_17 rfl ?_
    refine go_istore_n (pc' := 19) dX6_listRestsApart_18 rfl (by decide) rfl ?_
    rw [nI_1]
    refine lls_i wf hin (n - (i + 1)) (i + 1) t g (by omega) (by omega) (by omega) h l1 (fun a b ha hb hc => l2 a b ha hb (by omega)) (fun g1 t1 a1 h1 b1 c1 f1 => ?_)
    refine go_iinc (pc' := 57) _ dX6_listRestsApart_54 rfl rfl (pg_inc _) (by decide) rfl ?_
    refine go_goto (pc' := 4) dX6_listRestsApart_57 (by decide) ?_
    exact ih (i + 1) t1 g1 (by omega) (by omega) h1 b1 c1 (fun g' t' z1 z2 z3 z4 => k g' t' z1 z2 z3 (FR.tr f1 z4))

set_option maxHeartbeats 4000000 in
set_option maxRecDepth 20000 in
theorem tX6_listRestsApart {sc : pg_Sc} {g : pg_S} {K : Int32 → pg_S → Prop} {T : TW} {n : Nat} (h : CR g 1 T n) (wf : WF T n) (k : ∀ g' t', t' ≤ 64 → (∀ x, x < t' → ∃ a b, a < b ∧ b < n ∧ g'.1 58 x = apF T a b) → (∀ a b, a < b → b < n → ∃ x, x < t' ∧ g'.1 58 x = apF T a b) → FR 58 59 g g' → K (nI t') g') : pg_Cal sc 3 mX6_listRestsApart [.ref 0] g (pg_ki K) := by
  refine pg_Cal.of rfl (Nat.le_of_ble_eq_true rfl) rfl ?_
  refine go_iconst (pc' := 1) 0 dX6_listRestsApart_0 rfl (by decide) ?_
  refine go_istore_n (pc' := 2) dX6_listRestsApart_1 rfl (by decide) rfl ?_
  refine go_iconst (pc' := 3) 0 dX6_listRestsApart_2 rfl (by decide) ?_
  refine go_istore_n (pc' := 4) dX6_listRestsApart_3 rfl (by decide) rfl ?_
  exact lls_o wf n 0 0 g (by omega) (by omega) h (fun x hx => absurd hx (by omega)) (fun a b ha hb hc => absurd hc (by omega)) k

set_option maxHeartbeats 4000000 in
set_option maxRecDepth 20000 in
theorem lta {sc : pg_Sc} {K : Int32 → pg_S → Prop} {T : TW} {n t v : Nat} {g : pg_S} (ht : t ≤ 64) (l1 : ∀ x, x < t → ∃ a b, a < b ∧ b < n ∧ g.1 58 x = apF T a b) (l2 : ∀ a b, a < b → b < n → ∃ x, x < t ∧ g.1 58 x = apF T a b) (k : K (if tB T n v = true then 1 else 0) g) : ∀ (m : Nat) (i : Nat), i + m = t → (∀ x, x < i → ¬ g.1 58 x &&& nI v = 0) → pg_Go sc 1 mX6_tellsApart 2 [(0, .ref 0), (1, .int (nI v)), (2, .int (nI t)), (3, .int (nI i))] [] g (pg_ki K) := by
  intro m
  induction m with
  | zero =>
    intro i hi hp
    obtain rfl : i = t := by omega
    refine go_iload_n (pc' := 3) dX6_tellsApart_2 rfl rfl ?_
    refine go_iload_n (pc' := 4) dX6_tellsApart_3 rfl rfl ?_
    refine go_icmp_ge (pc' := 7) (tgt := 26) dX6_tellsApart_4 rfl (by decide) (fun h_4 => ?_) (fun h_4 => absurd (Int32.le_refl _) h_4)
    refine go_iconst (pc' := 27) 1 dX6_tellsApart_26 rfl (by decide) ?_
    refine go_iret dX6_tellsApart_27 (by first | exact pg_nar1 | exact pg_nar0 | exact pg_narB) ?_
    rw [if_pos (tB_iff.mpr (fun a ha b hb hab => by obtain ⟨x, hx, ex⟩ := l2 a b hab hb; rw [← ex]; exact hp x hx))] at k
    exact k
  | succ m ih =>
    intro i hi hp
    have hin : i < t := by omega
    refine go_iload_n (pc' := 3) dX6_tellsApart_2 rfl rfl ?_
    refine go_iload_n (pc' := 4) dX6_tellsApart_3 rfl rfl ?_
    refine go_icmp_ge (pc' := 7) (tgt := 26) dX6_tellsApart_4 rfl (by decide) (fun h_4 => absurd h_4 (nI_ge hin (by omega))) (fun h_4 => ?_)
    refine go_aload_n (pc' := 8) dX6_tellsApart_7 rfl rfl ?_
    refine go_getR (pc' := 11) dX6_tellsApart_8 rfl flRX6_59 rfl rfl ?_
    refine go_iload_n (pc' := 12) dX6_tellsApart_11 rfl rfl ?_
    refine go_iald (pc' := 13) i dX6_tellsApart_12 rfl rfl rfl (by omega) (by decide) ?_
    refine go_iload_n (pc' := 14) dX6_tellsApart_13 rfl rfl ?_
    refine go_iand (pc' := 15) dX6_tellsApart_14 rfl ?_
    refine go_if_ne (pc' := 18) (tgt := 20) dX6_tellsApart_15 rfl (by decide) (fun h_15 => ?_) (fun h_15 => ?_)
    · refine go_iinc (pc' := 23) _ dX6_tellsApart_20 rfl rfl (pg_inc _) (by decide) rfl ?_
      refine go_goto (pc' := 2) dX6_tellsApart_23 (by decide) ?_
      exact ih (i + 1) (by omega) (fun x hx => by
        by_cases e : x = i
        · rw [e]; exact h_15
        · exact hp x (by omega))
    · refine go_iconst (pc' := 19) 0 dX6_tellsApart_18 rfl (by decide) ?_
      refine go_iret dX6_tellsApart_19 (by first | exact pg_nar1 | exact pg_nar0 | exact pg_narB) ?_
      rw [if_neg (fun q => by obtain ⟨a, b, hab, hb, ex⟩ := l1 i hin; rw [ex] at h_15; exact tB_iff.mp q a (by omega) b hb hab h_15)] at k
      exact k

set_option maxHeartbeats 4000000 in
set_option maxRecDepth 20000 in
theorem tX6_tellsApart {sc : pg_Sc} {g : pg_S} {K : Int32 → pg_S → Prop} {T : TW} {n t v : Nat} (ht : t ≤ 64) (l1 : ∀ x, x < t → ∃ a b, a < b ∧ b < n ∧ g.1 58 x = apF T a b) (l2 : ∀ a b, a < b → b < n → ∃ x, x < t ∧ g.1 58 x = apF T a b) (k : K (if tB T n v = true then 1 else 0) g) : pg_Cal sc 1 mX6_tellsApart [.ref 0, .int (nI v), .int (nI t)] g (pg_ki K) := by
  refine pg_Cal.of rfl (Nat.le_of_ble_eq_true rfl) rfl ?_
  refine go_iconst (pc' := 1) 0 dX6_tellsApart_0 rfl (by decide) ?_
  refine go_istore_n (pc' := 2) dX6_tellsApart_1 rfl (by decide) rfl ?_
  exact lta ht l1 l2 k t 0 (by omega) (fun x hx => absurd hx (by omega))

set_option maxHeartbeats 4000000 in
set_option maxRecDepth 20000 in
theorem lap1 {sc : pg_Sc} {K : Int32 → pg_S → Prop} {T : TW} {n t : Nat} {g : pg_S} (ht : t ≤ 64) (l1 : ∀ x, x < t → ∃ a b, a < b ∧ b < n ∧ g.1 58 x = apF T a b) (l2 : ∀ a b, a < b → b < n → ∃ x, x < t ∧ g.1 58 x = apF T a b) (k : K (apA T n) g) : ∀ (m : Nat) (i : Nat), i + m = t → pg_Go sc 4 mX6_apart 30 [(0, .ref 0), (1, .int (nI t))] [] g (pg_ki K) → pg_Go sc 4 mX6_apart 7 [(0, .ref 0), (1, .int (nI t)), (2, .int (nI i))] [] g (pg_ki K) := by
  intro m
  induction m with
  | zero =>
    intro i hi k2
    obtain rfl : i = t := by omega
    refine go_iload_n (pc' := 8) dX6_apart_7 rfl rfl ?_
    refine go_iload_n (pc' := 9) dX6_apart_8 rfl rfl ?_
    refine go_icmp_ge (pc' := 12) (tgt := 30) dX6_apart_9 rfl (by decide) (fun h_9 => ?_) (fun h_9 => absurd (Int32.le_refl _) h_9)
    refine go_sub [0, 1] rfl ?_
    exact k2
  | succ m ih =>
    intro i hi k2
    have hin : i < t := by omega
    refine go_iload_n (pc' := 8) dX6_apart_7 rfl rfl ?_
    refine go_iload_n (pc' := 9) dX6_apart_8 rfl rfl ?_
    refine go_icmp_ge (pc' := 12) (tgt := 30) dX6_apart_9 rfl (by decide) (fun h_9 => absurd h_9 (nI_ge hin (by omega))) (fun h_9 => ?_)
    refine go_aload_n (pc' := 13) dX6_apart_12 rfl rfl ?_
    refine go_getR (pc' := 16) dX6_apart_13 rfl flRX6_59 rfl rfl ?_
    refine go_iload_n (pc' := 17) dX6_apart_16 rfl rfl ?_
    refine go_iald (pc' := 18) i dX6_apart_17 rfl rfl rfl (by omega) (by decide) ?_
    refine go_if_ne (pc' := 21) (tgt := 24) dX6_apart_18 rfl (by decide) (fun h_18 => ?_) (fun h_18 => ?_)
    · refine go_iinc (pc' := 27) _ dX6_apart_24 rfl rfl (pg_inc _) (by decide) rfl ?_
      refine go_goto (pc' := 7) dX6_apart_27 (by decide) ?_
      exact ih (i + 1) (by omega) k2
    · refine go_bipush (pc' := 23) (-3) dX6_apart_21 rfl (by decide) ?_
      refine go_iret dX6_apart_23 (pg_narI _) ?_
      unfold apA at k
      rw [bst_none (m := 1024) (fun v _ q => by obtain ⟨a, b, hab, hb, ex⟩ := l1 i hin; rw [ex] at h_18; exact tB_iff.mp q a (by omega) b hb hab (ap_z h_18))] at k
      exact k

set_option maxHeartbeats 4000000 in
set_option maxRecDepth 20000 in
theorem lap2 {sc : pg_Sc} {Q : pg_Q} {T : TW} {n t z : Nat} {g : pg_S} (ht : t ≤ 64) (l1 : ∀ x, x < t → ∃ a b, a < b ∧ b < n ∧ g.1 58 x = apF T a b) (l2 : ∀ a b, a < b → b < n → ∃ x, x < t ∧ g.1 58 x = apF T a b) (hz : z ≤ 10) : ∀ (m : Nat) (v : Nat), v + m = 1024 → (∀ c, in1 (tB T n) z m v = some c → ∀ st, pg_Go sc 4 mX6_apart 65 st [.int (nI c)] g Q) → (in1 (tB T n) z m v = none → pg_Go sc 4 mX6_apart 72 [(0, .ref 0), (1, .int (nI t)), (2, .int (nI z))] [] g Q) → pg_Go sc 4 mX6_apart 40 [(0, .ref 0), (1, .int (nI t)), (2, .int (nI z)), (3, .int (nI v))] [] g Q := by
  intro m
  induction m with
  | zero =>
    intro v hv k1 k2
    obtain rfl : v = 1024 := by omega
    refine go_iload_n (pc' := 41) dX6_apart_40 rfl rfl ?_
    refine go_sipush (pc' := 44) 1024 dX6_apart_41 rfl (by decide) ?_
    refine go_icmp_ge (pc' := 47) (tgt := 72) dX6_apart_44 rfl (by decide) (fun h_44 => ?_) (fun h_44 => absurd (Int32.le_refl _) h_44)
    refine go_sub [0, 1, 2] rfl ?_
    exact k2 rfl
  | succ m ih =>
    intro v hv k1 k2
    have hin : v < 1024 := by omega
    have hb := bN_le v hin
    simp only [in1] at k1 k2
    refine go_iload_n (pc' := 41) dX6_apart_40 rfl rfl ?_
    refine go_sipush (pc' := 44) 1024 dX6_apart_41 rfl (by decide) ?_
    refine go_icmp_ge (pc' := 47) (tgt := 72) dX6_apart_44 rfl (by decide) (fun h_44 => absurd h_44 (nI_ge (b := 1024) hin (by decide))) (fun h_44 => ?_)
    refine go_iload_n (pc' := 48) dX6_apart_47 rfl rfl ?_
    refine go_cSi1 (pc' := 51) (M' := mJ6_bitCount_0f7a4) (d' := 1) dX6_apart_48 rfl csRX6_189 (by decide) rfl (Nat.le_of_ble_eq_true rfl) ?_
    refine tJ6_bitCount_0f7a4 ?_
    rw [bN_bc hin]
    refine go_iload_n (pc' := 52) dX6_apart_51 rfl rfl ?_
    refine go_icmp_ne (pc' := 55) (tgt := 66) dX6_apart_52 rfl (by decide) (fun h_52 => ?_) (fun h_52 => ?_)
    · refine go_iinc (pc' := 69) _ dX6_apart_66 rfl rfl (pg_inc _) (by decide) rfl ?_
      refine go_goto (pc' := 40) dX6_apart_69 (by decide) ?_
      have e : ¬ (bN v = z ∧ tB T n v = true) := fun q => h_52 (by rw [q.1])
      rw [if_neg e] at k1 k2
      exact ih (v + 1) (by omega) k1 k2
    · refine go_aload_n (pc' := 56) dX6_apart_55 rfl rfl ?_
      refine go_iload_n (pc' := 57) dX6_apart_56 rfl rfl ?_
      refine go_iload_n (pc' := 58) dX6_apart_57 rfl rfl ?_
      refine go_cVi2 (pc' := 61) (M' := mX6_tellsApart) (d' := 1) dX6_apart_58 rfl cvRX6_203 rfl rfl (by decide) rfl (Nat.le_of_ble_eq_true rfl) ?_
      refine tX6_tellsApart ht l1 l2 ?_
      refine go_if_eq (pc' := 64) (tgt := 66) dX6_apart_61 rfl (by decide) (fun h_61 => ?_) (fun h_61 => ?_)
      · have h_61 := pg_b0 h_61
        refine go_iinc (pc' := 69) _ dX6_apart_66 rfl rfl (pg_inc _) (by decide) rfl ?_
        refine go_goto (pc' := 40) dX6_apart_69 (by decide) ?_
        have e : ¬ (bN v = z ∧ tB T n v = true) := fun q => h_61 q.2
        rw [if_neg e] at k1 k2
        exact ih (v + 1) (by omega) k1 k2
      · have h_61 := pg_b1 h_61
        refine go_iload_n (pc' := 65) dX6_apart_64 rfl rfl ?_
        rw [if_pos ⟨(nI_eq (by omega) (by omega)).mp h_52, h_61⟩] at k1
        exact k1 v rfl _

set_option maxHeartbeats 4000000 in
set_option maxRecDepth 20000 in
theorem lap3 {sc : pg_Sc} {K : Int32 → pg_S → Prop} {T : TW} {n t : Nat} {g : pg_S} (ht : t ≤ 64) (l1 : ∀ x, x < t → ∃ a b, a < b ∧ b < n ∧ g.1 58 x = apF T a b) (l2 : ∀ a b, a < b → b < n → ∃ x, x < t ∧ g.1 58 x = apF T a b) : ∀ (m : Nat) (z : Nat), z + m = 11 → K (resO (out1 (tB T n) m z)) g → pg_Go sc 4 mX6_apart 32 [(0, .ref 0), (1, .int (nI t)), (2, .int (nI z))] [] g (pg_ki K) := by
  intro m
  induction m with
  | zero =>
    intro z hz k
    obtain rfl : z = 11 := by omega
    refine go_iload_n (pc' := 33) dX6_apart_32 rfl rfl ?_
    refine go_bipush (pc' := 35) 10 dX6_apart_33 rfl (by decide) ?_
    refine go_icmp_gt (pc' := 38) (tgt := 78) dX6_apart_35 rfl (by decide) (fun h_35 => ?_) (fun h_35 => absurd (by decide) h_35)
    refine go_bipush (pc' := 80) (-3) dX6_apart_78 rfl (by decide) ?_
    refine go_iret dX6_apart_80 (pg_narI _) ?_
    exact k
  | succ m ih =>
    intro z hz k
    have hin : z ≤ 10 := by omega
    refine go_iload_n (pc' := 33) dX6_apart_32 rfl rfl ?_
    refine go_bipush (pc' := 35) 10 dX6_apart_33 rfl (by decide) ?_
    refine go_icmp_gt (pc' := 38) (tgt := 78) dX6_apart_35 rfl (by decide) (fun h_35 => absurd h_35 (nI_nlt (a := 10) hin (by decide))) (fun h_35 => ?_)
    refine go_iconst (pc' := 39) 0 dX6_apart_38 rfl (by decide) ?_
    refine go_istore_n (pc' := 40) dX6_apart_39 rfl (by decide) rfl ?_
    refine lap2 ht l1 l2 hin 1024 0 (by omega) (fun c hc st => ?_) (fun hc => ?_)
    · refine go_iret dX6_apart_65 (pg_narI _) ?_
      simp only [out1, hc] at k
      exact k
    · simp only [out1, hc] at k
      refine go_iinc (pc' := 75) _ dX6_apart_72 rfl rfl (pg_inc _) (by decide) rfl ?_
      refine go_goto (pc' := 32) dX6_apart_75 (by decide) ?_
      exact ih (z + 1) (by omega) k

set_option maxHeartbeats 4000000 in
set_option maxRecDepth 20000 in
theorem tX6_apart {sc : pg_Sc} {g : pg_S} {K : Int32 → pg_S → Prop} {T : TW} {n : Nat} (h : CR g 1 T n) (wf : WF T n) (k : ∀ g', FR 58 59 g g' → K (apA T n) g') : pg_Cal sc 4 mX6_apart [.ref 0] g (pg_ki K) := by
  refine pg_Cal.of rfl (Nat.le_of_ble_eq_true rfl) rfl ?_
  refine go_aload_n (pc' := 1) dX6_apart_0 rfl rfl ?_
  refine go_cVi0 (pc' := 4) (M' := mX6_listRestsApart) (d' := 3) dX6_apart_1 rfl cvRX6_200 rfl rfl (by decide) rfl (Nat.le_of_ble_eq_true rfl) ?_
  refine tX6_listRestsApart h wf (fun g1 t ht l1 l2 f1 => ?_)
  have k := k g1 f1
  refine go_istore_n (pc' := 5) dX6_apart_4 rfl (by decide) rfl ?_
  refine go_iconst (pc' := 6) 0 dX6_apart_5 rfl (by decide) ?_
  refine go_istore_n (pc' := 7) dX6_apart_6 rfl (by decide) rfl ?_
  refine lap1 ht l1 l2 k t 0 (by omega) ?_
  refine go_iconst (pc' := 31) 0 dX6_apart_30 rfl (by decide) ?_
  refine go_istore_n (pc' := 32) dX6_apart_31 rfl (by decide) rfl ?_
  refine lap3 ht l1 l2 11 0 (by omega) ?_
  rw [out1_bst]
  exact k

set_option maxHeartbeats 4000000 in
set_option maxRecDepth 20000 in
theorem lar0 {sc : pg_Sc} {K : Int32 → pg_S → Prop} {T : TW} {n v : Nat} {g : pg_S} (h : MR g 60 T n) (wf : WF T n) (k : K 0 g) : ∀ (m : Nat) (i : Nat), i + m = n → pg_Go sc 1 mX7_areApart 4 [(0, .ref 59), (1, .int (nI v)), (2, .int 0), (3, .int (nI i))] [] g (pg_ki K) := by
  intro m
  induction m with
  | zero =>
    intro i hi
    obtain rfl : i = n := by omega
    refine go_iload_n (pc' := 5) dX7_areApart_4 rfl rfl ?_
    refine go_aload_n (pc' := 6) dX7_areApart_5 rfl rfl ?_
    refine go_getR (pc' := 9) dX7_areApart_6 rfl flRX7_7 rfl rfl ?_
    refine go_iconst (pc' := 10) 5 dX7_areApart_9 rfl (by decide) ?_
    refine go_iald (pc' := 11) 5 dX7_areApart_10 rfl rfl rfl (by decide) (by decide) ?_
    rw [m60_people h]
    refine go_icmp_ge (pc' := 14) (tgt := 69) dX7_areApart_11 rfl (by decide) (fun h_11 => ?_) (fun h_11 => absurd (Int32.le_refl _) h_11)
    refine go_iload_n (pc' := 70) dX7_areApart_69 rfl rfl ?_
    refine go_iret dX7_areApart_70 (by first | exact pg_nar1 | exact pg_nar0 | exact pg_narB) ?_
    exact k
  | succ m ih =>
    intro i hi
    have hn := wf.1
    have hin : i < n := by omega
    refine go_iload_n (pc' := 5) dX7_areApart_4 rfl rfl ?_
    refine go_aload_n (pc' := 6) dX7_areApart_5 rfl rfl ?_
    refine go_getR (pc' := 9) dX7_areApart_6 rfl flRX7_7 rfl rfl ?_
    refine go_iconst (pc' := 10) 5 dX7_areApart_9 rfl (by decide) ?_
    refine go_iald (pc' := 11) 5 dX7_areApart_10 rfl rfl rfl (by decide) (by decide) ?_
    rw [m60_people h]
    refine go_icmp_ge (pc' := 14) (tgt := 69) dX7_areApart_11 rfl (by decide) (fun h_11 => absurd h_11 (nI_ge hin (by omega))) (fun h_11 => ?_)
    refine go_iload_n (pc' := 15) dX7_areApart_14 rfl rfl ?_
    refine go_iconst (pc' := 16) 1 dX7_areApart_15 rfl (by decide) ?_
    refine go_iadd (pc' := 17) dX7_areApart_16 rfl ?_
    refine go_istore (pc' := 19) dX7_areApart_17 rfl (by decide) rfl ?_
    refine go_iload (pc' := 21) dX7_areApart_19 rfl rfl ?_
    refine go_aload_n (pc' := 22) dX7_areApart_21 rfl rfl ?_
    refine go_getR (pc' := 25) dX7_areApart_22 rfl flRX7_7 rfl rfl ?_
    refine go_iconst (pc' := 26) 5 dX7_areApart_25 rfl (by decide) ?_
    refine go_iald (pc' := 27) 5 dX7_areApart_26 rfl rfl rfl (by decide) (by decide) ?_
    rw [m60_people h]
    refine go_icmp_ge (pc' := 30) (tgt := 63) dX7_areApart_27 rfl (by decide) (fun h_27 => ?_) (fun h_27 => ?_)
    · refine go_iinc (pc' := 66) _ dX7_areApart_63 rfl rfl (pg_inc _) (by decide) rfl ?_
      refine go_goto (pc' := 4) dX7_areApart_66 (by decide) ?_
      refine go_sub [0, 1, 2, 3] rfl ?_
      exact ih (i + 1) (by omega)
    · refine go_iload_n (pc' := 31) dX7_areApart_30 rfl rfl ?_
      refine go_if_eq (pc' := 34) (tgt := 63) dX7_areApart_31 rfl (by decide) (fun h_31 => ?_) (fun h_31 => absurd (rfl) h_31)
      refine go_iinc (pc' := 66) _ dX7_areApart_63 rfl rfl (pg_inc _) (by decide) rfl ?_
      refine go_goto (pc' := 4) dX7_areApart_66 (by decide) ?_
      refine go_sub [0, 1, 2, 3] rfl ?_
      exact ih (i + 1) (by omega)

set_option maxHeartbeats 4000000 in
set_option maxRecDepth 20000 in
theorem lar1 {sc : pg_Sc} {Q : pg_Q} {T : TW} {n v i : Nat} {g : pg_S} (h : MR g 60 T n) (wf : WF T n) (hU : ∀ a b, a < b → b < n → g.1 65 (8 * a + b) = apF T a b) (hi : i < n) (k1 : (∀ b, i < b → b < n → ¬ apF T i b &&& nI v = 0) → pg_Go sc 1 mX7_areApart 63 [(0, .ref 59), (1, .int (nI v)), (2, .int 1), (3, .int (nI i))] [] g Q) (k0 : ¬ tB T n v = true → pg_Go sc 1 mX7_areApart 63 [(0, .ref 59), (1, .int (nI v)), (2, .int 0), (3, .int (nI i))] [] g Q) : ∀ (m : Nat) (j : Nat), j + m = n → i < j → (∀ b, i < b → b < j → ¬ apF T i b &&& nI v = 0) → pg_Go sc 1 mX7_areApart 19 [(0, .ref 59), (1, .int (nI v)), (2, .int 1), (3, .int (nI i)), (4, .int (nI j))] [] g Q := by
  intro m
  induction m with
  | zero =>
    intro j hj hij hp
    obtain rfl : j = n := by omega
    refine go_iload (pc' := 21) dX7_areApart_19 rfl rfl ?_
    refine go_aload_n (pc' := 22) dX7_areApart_21 rfl rfl ?_
    refine go_getR (pc' := 25) dX7_areApart_22 rfl flRX7_7 rfl rfl ?_
    refine go_iconst (pc' := 26) 5 dX7_areApart_25 rfl (by decide) ?_
    refine go_iald (pc' := 27) 5 dX7_areApart_26 rfl rfl rfl (by decide) (by decide) ?_
    rw [m60_people h]
    refine go_icmp_ge (pc' := 30) (tgt := 63) dX7_areApart_27 rfl (by decide) (fun h_27 => ?_) (fun h_27 => absurd (Int32.le_refl _) h_27)
    refine go_sub [0, 1, 2, 3] rfl ?_
    exact k1 hp
  | succ m ih =>
    intro j hj hij hp
    have hn := wf.1
    have hin : j < n := by omega
    refine go_iload (pc' := 21) dX7_areApart_19 rfl rfl ?_
    refine go_aload_n (pc' := 22) dX7_areApart_21 rfl rfl ?_
    refine go_getR (pc' := 25) dX7_areApart_22 rfl flRX7_7 rfl rfl ?_
    refine go_iconst (pc' := 26) 5 dX7_areApart_25 rfl (by decide) ?_
    refine go_iald (pc' := 27) 5 dX7_areApart_26 rfl rfl rfl (by decide) (by decide) ?_
    rw [m60_people h]
    refine go_icmp_ge (pc' := 30) (tgt := 63) dX7_areApart_27 rfl (by decide) (fun h_27 => absurd h_27 (nI_ge hin (by omega))) (fun h_27 => ?_)
    refine go_iload_n (pc' := 31) dX7_areApart_30 rfl rfl ?_
    refine go_if_eq (pc' := 34) (tgt := 63) dX7_areApart_31 rfl (by decide) (fun h_31 => absurd h_31 (by decide)) (fun h_31 => ?_)
    refine go_aload_n (pc' := 35) dX7_areApart_34 rfl rfl ?_
    refine go_getR (pc' := 38) dX7_areApart_35 rfl flRX7_25 rfl rfl ?_
    refine go_bipush (pc' := 40) 8 dX7_areApart_38 rfl (by decide) ?_
    refine go_iload_n (pc' := 41) dX7_areApart_40 rfl rfl ?_
    refine go_imul (pc' := 42) dX7_areApart_41 rfl ?_
    refine go_iload (pc' := 44) dX7_areApart_42 rfl rfl ?_
    refine go_iadd (pc' := 45) dX7_areApart_44 rfl ?_
    refine go_iald (pc' := 46) (8 * i + j) dX7_areApart_45 rfl rfl (ix8 i j) (by omega) (by decide) ?_
    rw [hU i j hij hin]
    refine go_iload_n (pc' := 47) dX7_areApart_46 rfl rfl ?_
    refine go_iand (pc' := 48) dX7_areApart_47 rfl ?_
    refine go_if_eq (pc' := 51) (tgt := 55) dX7_areApart_48 rfl (by decide) (fun h_48 => ?_) (fun h_48 => ?_)
    · refine go_iconst (pc' := 56) 0 dX7_areApart_55 rfl (by decide) ?_
      refine go_istore_n (pc' := 57) dX7_areApart_56 rfl (by decide) rfl ?_
      refine go_iinc (pc' := 60) _ dX7_areApart_57 rfl rfl (pg_inc _) (by decide) rfl ?_
      refine go_goto (pc' := 19) dX7_areApart_60 (by decide) ?_
      refine go_iload (pc' := 21) dX7_areApart_19 rfl rfl ?_
      refine go_aload_n (pc' := 22) dX7_areApart_21 rfl rfl ?_
      refine go_getR (pc' := 25) dX7_areApart_22 rfl flRX7_7 rfl rfl ?_
      refine go_iconst (pc' := 26) 5 dX7_areApart_25 rfl (by decide) ?_
      refine go_iald (pc' := 27) 5 dX7_areApart_26 rfl rfl rfl (by decide) (by decide) ?_
      rw [m60_people h]
      refine go_icmp_ge (pc' := 30) (tgt := 63) dX7_areApart_27 rfl (by decide) (fun h_27 => ?_) (fun h_27 => ?_)
      · refine go_sub [0, 1, 2, 3] rfl ?_
        exact k0 (fun q => tB_iff.mp q i (by omega) j hin hij h_48)
      · refine go_iload_n (pc' := 31) dX7_areApart_30 rfl rfl ?_
        refine go_if_eq (pc' := 34) (tgt := 63) dX7_areApart_31 rfl (by decide) (fun h_31 => ?_) (fun h_31 => absurd (rfl) h_31)
        refine go_sub [0, 1, 2, 3] rfl ?_
        exact k0 (fun q => tB_iff.mp q i (by omega) j hin hij h_48)
    · refine go_iconst (pc' := 52) 1 dX7_areApart_51 rfl (by decide) ?_
      refine go_goto (pc' := 56) dX7_areApart_52 (by decide) ?_
      refine go_istore_n (pc' := 57) dX7_areApart_56 rfl (by decide) rfl ?_
      refine go_iinc (pc' := 60) _ dX7_areApart_57 rfl rfl (pg_inc _) (by decide) rfl ?_
      refine go_goto (pc' := 19) dX7_areApart_60 (by decide) ?_
      exact ih (j + 1) (by omega) (by omega) (fun b h1 h2 => by
        by_cases e : b = j
        · rw [e]; exact h_48
        · exact hp b h1 (by omega))

set_option maxHeartbeats 4000000 in
set_option maxRecDepth 20000 in
theorem lar2 {sc : pg_Sc} {K : Int32 → pg_S → Prop} {T : TW} {n v : Nat} {g : pg_S} (h : MR g 60 T n) (wf : WF T n) (hU : ∀ a b, a < b → b < n → g.1 65 (8 * a + b) = apF T a b) (k : K (if tB T n v = true then 1 else 0) g) : ∀ (m : Nat) (i : Nat), i + m = n → (∀ a b, a < i → a < b → b < n → ¬ apF T a b &&& nI v = 0) → pg_Go sc 1 mX7_areApart 4 [(0, .ref 59), (1, .int (nI v)), (2, .int 1), (3, .int (nI i))] [] g (pg_ki K) := by
  intro m
  induction m with
  | zero =>
    intro i hi hp
    obtain rfl : i = n := by omega
    refine go_iload_n (pc' := 5) dX7_areApart_4 rfl rfl ?_
    refine go_aload_n (pc' := 6) dX7_areApart_5 rfl rfl ?_
    refine go_getR (pc' := 9) dX7_areApart_6 rfl flRX7_7 rfl rfl ?_
    refine go_iconst (pc' := 10) 5 dX7_areApart_9 rfl (by decide) ?_
    refine go_iald (pc' := 11) 5 dX7_areApart_10 rfl rfl rfl (by decide) (by decide) ?_
    rw [m60_people h]
    refine go_icmp_ge (pc' := 14) (tgt := 69) dX7_areApart_11 rfl (by decide) (fun h_11 => ?_) (fun h_11 => absurd (Int32.le_refl _) h_11)
    refine go_iload_n (pc' := 70) dX7_areApart_69 rfl rfl ?_
    refine go_iret dX7_areApart_70 (by first | exact pg_nar1 | exact pg_nar0 | exact pg_narB) ?_
    rw [if_pos (tB_iff.mpr (fun a ha b hb hab => hp a b ha hab hb))] at k
    exact k
  | succ m ih =>
    intro i hi hp
    have hn := wf.1
    have hin : i < n := by omega
    refine go_iload_n (pc' := 5) dX7_areApart_4 rfl rfl ?_
    refine go_aload_n (pc' := 6) dX7_areApart_5 rfl rfl ?_
    refine go_getR (pc' := 9) dX7_areApart_6 rfl flRX7_7 rfl rfl ?_
    refine go_iconst (pc' := 10) 5 dX7_areApart_9 rfl (by decide) ?_
    refine go_iald (pc' := 11) 5 dX7_areApart_10 rfl rfl rfl (by decide) (by decide) ?_
    rw [m60_people h]
    refine go_icmp_ge (pc' := 14) (tgt := 69) dX7_areApart_11 rfl (by decide) (fun h_11 => absurd h_11 (nI_ge hin (by omega))) (fun h_11 => ?_)
    refine go_iload_n (pc' := 15) dX7_areApart_14 rfl rfl ?_
    refine go_iconst (pc' := 16) 1 dX7_areApart_15 rfl (by decide) ?_
    refine go_iadd (pc' := 17) dX7_areApart_16 rfl ?_
    refine go_istore (pc' := 19) dX7_areApart_17 rfl (by decide) rfl ?_
    rw [nI_1]
    refine lar1 h wf hU hin (fun hq => ?_) (fun hq => ?_) (n - (i + 1)) (i + 1) (by omega) (by omega) (fun b h1 h2 => absurd h2 (by omega))
    · refine go_iinc (pc' := 66) _ dX7_areApart_63 rfl rfl (pg_inc _) (by decide) rfl ?_
      refine go_goto (pc' := 4) dX7_areApart_66 (by decide) ?_
      exact ih (i + 1) (by omega) (fun a b ha hab hb => by
        by_cases e : a = i
        · subst e; exact hq b hab hb
        · exact hp a b (by omega) hab hb)
    · refine go_iinc (pc' := 66) _ dX7_areApart_63 rfl rfl (pg_inc _) (by decide) rfl ?_
      refine go_goto (pc' := 4) dX7_areApart_66 (by decide) ?_
      rw [if_neg hq] at k
      exact lar0 h wf k m (i + 1) (by omega)

set_option maxHeartbeats 4000000 in
set_option maxRecDepth 20000 in
theorem tX7_areApart {sc : pg_Sc} {g : pg_S} {K : Int32 → pg_S → Prop} {T : TW} {n v : Nat} (h : MR g 60 T n) (wf : WF T n) (hU : ∀ a b, a < b → b < n → g.1 65 (8 * a + b) = apF T a b) (k : K (if tB T n v = true then 1 else 0) g) : pg_Cal sc 1 mX7_areApart [.ref 59, .int (nI v)] g (pg_ki K) := by
  refine pg_Cal.of rfl (Nat.le_of_ble_eq_true rfl) rfl ?_
  refine go_iconst (pc' := 1) 1 dX7_areApart_0 rfl (by decide) ?_
  refine go_istore_n (pc' := 2) dX7_areApart_1 rfl (by decide) rfl ?_
  refine go_iconst (pc' := 3) 0 dX7_areApart_2 rfl (by decide) ?_
  refine go_istore_n (pc' := 4) dX7_areApart_3 rfl (by decide) rfl ?_
  exact lar2 h wf hU k n 0 (by omega) (fun a b ha => absurd ha (by omega))

set_option maxHeartbeats 4000000 in
set_option maxRecDepth 20000 in
theorem lma1 {sc : pg_Sc} {Q : pg_Q} {T : TW} {n i : Nat} (wf : WF T n) (hi : i < n) : ∀ (m : Nat) (j : Nat) (g : pg_S), j + m = n → i < j → MR g 60 T n → (∀ a b, a < b → b < n → (a < i ∨ (a = i ∧ b < j)) → g.1 65 (8 * a + b) = apF T a b) → (∀ g', MR g' 60 T n → (∀ a b, a < b → b < n → a < i + 1 → g'.1 65 (8 * a + b) = apF T a b) → FR 65 66 g g' → pg_Go sc 4 mX7_apart 51 [(0, .ref 59), (1, .int (-1)), (2, .int (nI i))] [] g' Q) → pg_Go sc 4 mX7_apart 18 [(0, .ref 59), (1, .int (-1)), (2, .int (nI i)), (3, .int (nI j))] [] g Q := by
  intro m
  induction m with
  | zero =>
    intro j g hj hij h l2 k
    obtain rfl : j = n := by omega
    refine go_iload_n (pc' := 19) dX7_apart_18 rfl rfl ?_
    refine go_aload_n (pc' := 20) dX7_apart_19 rfl rfl ?_
    refine go_getR (pc' := 23) dX7_apart_20 rfl flRX7_7 rfl rfl ?_
    refine go_iconst (pc' := 24) 5 dX7_apart_23 rfl (by decide) ?_
    refine go_iald (pc' := 25) 5 dX7_apart_24 rfl rfl rfl (by decide) (by decide) ?_
    rw [m60_people h]
    refine go_icmp_ge (pc' := 28) (tgt := 51) dX7_apart_25 rfl (by decide) (fun h_25 => ?_) (fun h_25 => absurd (Int32.le_refl _) h_25)
    refine go_sub [0, 1, 2] rfl ?_
    exact k g h (fun a b ha hb hc => l2 a b ha hb (by omega)) FR.rf
  | succ m ih =>
    intro j g hj hij h l2 k
    have hn := wf.1
    have hin : j < n := by omega
    refine go_iload_n (pc' := 19) dX7_apart_18 rfl rfl ?_
    refine go_aload_n (pc' := 20) dX7_apart_19 rfl rfl ?_
    refine go_getR (pc' := 23) dX7_apart_20 rfl flRX7_7 rfl rfl ?_
    refine go_iconst (pc' := 24) 5 dX7_apart_23 rfl (by decide) ?_
    refine go_iald (pc' := 25) 5 dX7_apart_24 rfl rfl rfl (by decide) (by decide) ?_
    rw [m60_people h]
    refine go_icmp_ge (pc' := 28) (tgt := 51) dX7_apart_25 rfl (by decide) (fun h_25 => absurd h_25 (nI_ge hin (by omega))) (fun h_25 => ?_)
    refine go_aload_n (pc' := 29) dX7_apart_28 rfl rfl ?_
    refine go_getR (pc' := 32) dX7_apart_29 rfl flRX7_25 rfl rfl ?_
    refine go_bipush (pc' := 34) 8 dX7_apart_32 rfl (by decide) ?_
    refine go_iload_n (pc' := 35) dX7_apart_34 rfl rfl ?_
    refine go_imul (pc' := 36) dX7_apart_35 rfl ?_
    refine go_iload_n (pc' := 37) dX7_apart_36 rfl rfl ?_
    refine go_iadd (pc' := 38) dX7_apart_37 rfl ?_
    refine go_aload_n (pc' := 39) dX7_apart_38 rfl rfl ?_
    refine go_iload_n (pc' := 40) dX7_apart_39 rfl rfl ?_
    refine go_iload_n (pc' := 41) dX7_apart_40 rfl rfl ?_
    refine go_cVi2 (pc' := 44) (M' := mX7_unlikeAt) (d' := 3) dX7_apart_41 rfl cvRX7_287 rfl rfl (by decide) rfl (Nat.le_of_ble_eq_true rfl) ?_
    refine tX7_unlikeAt h wf hi hin ?_
    refine go_iast (pc' := 45) (8 * i + j) dX7_apart_44 rfl rfl (ix8 i j) (by omega) (by decide) ?_
    refine go_gen (fun g1 e1 => ?_)
    have f1 : FR 65 66 g g1 := by rw [e1]; exact FR.ui (by decide)
    refine go_iinc (pc' := 48) _ dX7_apart_45 rfl rfl (pg_inc _) (by decide) rfl ?_
    refine go_goto (pc' := 18) dX7_apart_48 (by decide) ?_
    refine ih (j + 1) g1 (by omega) (by omega) (h.fr f1 (by decide)) (fun a b ha hb hc => ?_) (fun g' z1 z2 z3 => k g' z1 z2 (FR.tr f1 z3))
    rw [e1]
    show pg_ui g.1 65 (8 * i + j) (apF T i j) 65 (8 * a + b) = _
    rw [pg_ui_at]
    by_cases e : a = i ∧ b = j
    · rw [if_pos ⟨rfl, by omega⟩, e.1, e.2]
    · rw [if_neg (by omega)]
      exact l2 a b ha hb (by omega)

set_option maxHeartbeats 4000000 in
set_option maxRecDepth 20000 in
theorem lma2 {sc : pg_Sc} {Q : pg_Q} {T : TW} {n : Nat} (wf : WF T n) : ∀ (m : Nat) (i : Nat) (g : pg_S), i + m = n → MR g 60 T n → (∀ a b, a < b → b < n → a < i → g.1 65 (8 * a + b) = apF T a b) → (∀ g', MR g' 60 T n → (∀ a b, a < b → b < n → g'.1 65 (8 * a + b) = apF T a b) → FR 65 66 g g' → pg_Go sc 4 mX7_apart 57 [(0, .ref 59), (1, .int (-1))] [] g' Q) → pg_Go sc 4 mX7_apart 4 [(0, .ref 59), (1, .int (-1)), (2, .int (nI i))] [] g Q := by
  intro m
  induction m with
  | zero =>
    intro i g hi h l2 k
    obtain rfl : i = n := by omega
    refine go_iload_n (pc' := 5) dX7_apart_4 rfl rfl ?_
    refine go_aload_n (pc' := 6) dX7_apart_5 rfl rfl ?_
    refine go_getR (pc' := 9) dX7_apart_6 rfl flRX7_7 rfl rfl ?_
    refine go_iconst (pc' := 10) 5 dX7_apart_9 rfl (by decide) ?_
    refine go_iald (pc' := 11) 5 dX7_apart_10 rfl rfl rfl (by decide) (by decide) ?_
    rw [m60_people h]
    refine go_icmp_ge (pc' := 14) (tgt := 57) dX7_apart_11 rfl (by decide) (fun h_11 => ?_) (fun h_11 => absurd (Int32.le_refl _) h_11)
    refine go_sub [0, 1] rfl ?_
    exact k g h (fun a b ha hb => l2 a b ha hb (by omega)) FR.rf
  | succ m ih =>
    intro i g hi h l2 k
    have hn := wf.1
    have hin : i < n := by omega
    refine go_iload_n (pc' := 5) dX7_apart_4 rfl rfl ?_
    refine go_aload_n (pc' := 6) dX7_apart_5 rfl rfl ?_
    refine go_getR (pc' := 9) dX7_apart_6 rfl flRX7_7 rfl rfl ?_
    refine go_iconst (pc' := 10) 5 dX7_apart_9 rfl (by decide) ?_
    refine go_iald (pc' := 11) 5 dX7_apart_10 rfl rfl rfl (by decide) (by decide) ?_
    rw [m60_people h]
    refine go_icmp_ge (pc' := 14) (tgt := 57) dX7_apart_11 rfl (by decide) (fun h_11 => absurd h_11 (nI_ge hin (by omega))) (fun h_11 => ?_)
    refine go_iload_n (pc' := 15) dX7_apart_14 rfl rfl ?_
    refine go_iconst (pc' := 16) 1 dX7_apart_15 rfl (by decide) ?_
    refine go_iadd (pc' := 17) dX7_apart_16 rfl ?_
    refine go_istore_n (pc' := 18) dX7_apart_17 rfl (by decide) rfl ?_
    rw [nI_1]
    refine lma1 wf hin (n - (i + 1)) (i + 1) g (by omega) (by omega) h (fun a b ha hb hc => l2 a b ha hb (by omega)) (fun g1 h1 b1 f1 => ?_)
    refine go_iinc (pc' := 54) _ dX7_apart_51 rfl rfl (pg_inc _) (by decide) rfl ?_
    refine go_goto (pc' := 4) dX7_apart_54 (by decide) ?_
    exact ih (i + 1) g1 (by omega) h1 b1 (fun g' z1 z2 z3 => k g' z1 z2 (FR.tr f1 z3))

theorem bI_lt (b : Option Nat) (hb : ∀ c, b = some c → c < 1024) : (bI b < 0 ↔ b = none) := by
  match b, hb with
  | none, _ => exact ⟨fun _ => rfl, fun _ => by decide⟩
  | some c, hb => exact ⟨fun q => absurd q (nI_n0 (m := c) (by have := hb c rfl; omega)), fun q => nomatch q⟩
set_option maxHeartbeats 4000000 in
set_option maxRecDepth 20000 in
theorem lma3 {sc : pg_Sc} {K : Int32 → pg_S → Prop} {T : TW} {n : Nat} {g : pg_S} (h : MR g 60 T n) (wf : WF T n) (hU : ∀ a b, a < b → b < n → g.1 65 (8 * a + b) = apF T a b) : ∀ (m : Nat) (v : Nat) (b : Option Nat), v + m = 1024 → (∀ c, b = some c → c < 1024) → K (resO (bst (tB T n) m v b)) g → pg_Go sc 4 mX7_apart 59 [(0, .ref 59), (1, .int (bI b)), (2, .int (nI v))] [] g (pg_ki K) := by
  intro m
  induction m with
  | zero =>
    intro v b hv hb k
    obtain rfl : v = 1024 := by omega
    have hbl := bI_lt b hb
    refine go_iload_n (pc' := 60) dX7_apart_59 rfl rfl ?_
    refine go_sipush (pc' := 63) 1024 dX7_apart_60 rfl (by decide) ?_
    refine go_icmp_ge (pc' := 66) (tgt := 101) dX7_apart_63 rfl (by decide) (fun h_63 => ?_) (fun h_63 => absurd (Int32.le_refl _) h_63)
    refine go_iload_n (pc' := 102) dX7_apart_101 rfl rfl ?_
    refine go_if_ge (pc' := 105) (tgt := 110) dX7_apart_102 rfl (by decide) (fun h_102 => ?_) (fun h_102 => ?_)
    · refine go_iload_n (pc' := 111) dX7_apart_110 rfl rfl ?_
      refine go_iret dX7_apart_111 (pg_narI _) ?_
      have e : ¬ b = none := fun q => pg_lt_nle (hbl.mpr q) h_102
      match b, e with
      | some c, _ => exact k
      | none, e => exact absurd rfl e
    · refine go_bipush (pc' := 107) (-3) dX7_apart_105 rfl (by decide) ?_
      refine go_goto (pc' := 111) dX7_apart_107 (by decide) ?_
      refine go_iret dX7_apart_111 (pg_narI _) ?_
      have e : b = none := hbl.mp (pg_nle_lt h_102)
      subst e
      exact k
  | succ m ih =>
    intro v b hv hb k
    have hin : v < 1024 := by omega
    have hbl := bI_lt b hb
    have hbv := bN_le v hin
    simp only [bst] at k
    refine go_iload_n (pc' := 60) dX7_apart_59 rfl rfl ?_
    refine go_sipush (pc' := 63) 1024 dX7_apart_60 rfl (by decide) ?_
    refine go_icmp_ge (pc' := 66) (tgt := 101) dX7_apart_63 rfl (by decide) (fun h_63 => absurd h_63 (nI_ge (b := 1024) hin (by decide))) (fun h_63 => ?_)
    refine go_iload_n (pc' := 67) dX7_apart_66 rfl rfl ?_
    refine go_if_lt (pc' := 70) (tgt := 81) dX7_apart_67 rfl (by decide) (fun h_67 => ?_) (fun h_67 => ?_)
    · have eb : b = none := hbl.mp h_67
      subst eb
      refine go_aload_n (pc' := 82) dX7_apart_81 rfl rfl ?_
      refine go_iload_n (pc' := 83) dX7_apart_82 rfl rfl ?_
      refine go_cVi1 (pc' := 86) (M' := mX7_areApart) (d' := 1) dX7_apart_83 rfl cvRX7_290 rfl rfl (by decide) rfl (Nat.le_of_ble_eq_true rfl) ?_
      refine tX7_areApart h wf hU ?_
      refine go_if_eq (pc' := 89) (tgt := 93) dX7_apart_86 rfl (by decide) (fun h_86 => ?_) (fun h_86 => ?_)
      · have h_86 := pg_b0 h_86
        refine go_iload_n (pc' := 94) dX7_apart_93 rfl rfl ?_
        refine go_istore_n (pc' := 95) dX7_apart_94 rfl (by decide) rfl ?_
        refine go_iinc (pc' := 98) _ dX7_apart_95 rfl rfl (pg_inc _) (by decide) rfl ?_
        refine go_goto (pc' := 59) dX7_apart_98 (by decide) ?_
        have e : ¬ btr (tB T n) v none = true := fun q => h_86 q
        rw [if_neg e] at k
        exact ih (v + 1) none (by omega) hb k
      · have h_86 := pg_b1 h_86
        refine go_iload_n (pc' := 90) dX7_apart_89 rfl rfl ?_
        refine go_goto (pc' := 94) dX7_apart_90 (by decide) ?_
        refine go_istore_n (pc' := 95) dX7_apart_94 rfl (by decide) rfl ?_
        refine go_iinc (pc' := 98) _ dX7_apart_95 rfl rfl (pg_inc _) (by decide) rfl ?_
        refine go_goto (pc' := 59) dX7_apart_98 (by decide) ?_
        have e : btr (tB T n) v none = true := h_86
        rw [if_pos e] at k
        exact ih (v + 1) (some v) (by omega) (fun d hd => by cases hd; exact hin) k
    · have en : ¬ b = none := fun q => h_67 (hbl.mpr q)
      obtain ⟨c, rfl⟩ : ∃ c, b = some c := by
        match b, en with
        | some c, _ => exact ⟨c, rfl⟩
        | none, e => exact absurd rfl e
      have hc := hb c rfl
      have hbc := bN_le c hc
      refine go_iload_n (pc' := 71) dX7_apart_70 rfl rfl ?_
      refine go_cSi1 (pc' := 74) (M' := mX7_ones) (d' := 1) dX7_apart_71 rfl csRX7_248 (by decide) rfl (Nat.le_of_ble_eq_true rfl) ?_
      refine tX7_ones (by omega) ?_
      rw [bN_bc hin]
      refine go_iload_n (pc' := 75) dX7_apart_74 rfl rfl ?_
      refine go_cSi1 (pc' := 78) (M' := mX7_ones) (d' := 1) dX7_apart_75 rfl csRX7_248 (by decide) rfl (Nat.le_of_ble_eq_true rfl) ?_
      show pg_Cal _ _ _ [.int (nI c)] _ _
      refine tX7_ones (by omega) ?_
      rw [bN_bc hc]
      refine go_icmp_ge (pc' := 81) (tgt := 95) dX7_apart_78 rfl (by decide) (fun h_78 => ?_) (fun h_78 => ?_)
      · refine go_iinc (pc' := 98) _ dX7_apart_95 rfl rfl (pg_inc _) (by decide) rfl ?_
        refine go_goto (pc' := 59) dX7_apart_98 (by decide) ?_
        have e : ¬ btr (tB T n) v (some c) = true := fun q => by
          have := (nI_leI (by omega) (by omega)).mp h_78
          have q1 : bN v < bN c := (btr_s.mp q).1
          omega
        rw [if_neg e] at k
        exact ih (v + 1) (some c) (by omega) hb k
      · refine go_aload_n (pc' := 82) dX7_apart_81 rfl rfl ?_
        refine go_iload_n (pc' := 83) dX7_apart_82 rfl rfl ?_
        refine go_cVi1 (pc' := 86) (M' := mX7_areApart) (d' := 1) dX7_apart_83 rfl cvRX7_290 rfl rfl (by decide) rfl (Nat.le_of_ble_eq_true rfl) ?_
        refine tX7_areApart h wf hU ?_
        refine go_if_eq (pc' := 89) (tgt := 93) dX7_apart_86 rfl (by decide) (fun h_86 => ?_) (fun h_86 => ?_)
        · have h_86 := pg_b0 h_86
          refine go_iload_n (pc' := 94) dX7_apart_93 rfl rfl ?_
          refine go_istore_n (pc' := 95) dX7_apart_94 rfl (by decide) rfl ?_
          refine go_iinc (pc' := 98) _ dX7_apart_95 rfl rfl (pg_inc _) (by decide) rfl ?_
          refine go_goto (pc' := 59) dX7_apart_98 (by decide) ?_
          have e : ¬ btr (tB T n) v (some c) = true := fun q => h_86 (btr_s.mp q).2
          rw [if_neg e] at k
          exact ih (v + 1) (some c) (by omega) hb k
        · have h_86 := pg_b1 h_86
          refine go_iload_n (pc' := 90) dX7_apart_89 rfl rfl ?_
          refine go_goto (pc' := 94) dX7_apart_90 (by decide) ?_
          refine go_istore_n (pc' := 95) dX7_apart_94 rfl (by decide) rfl ?_
          refine go_iinc (pc' := 98) _ dX7_apart_95 rfl rfl (pg_inc _) (by decide) rfl ?_
          refine go_goto (pc' := 59) dX7_apart_98 (by decide) ?_
          have e : btr (tB T n) v (some c) = true := btr_s.mpr ⟨by
            rcases Nat.lt_or_ge (bN v) (bN c) with z | z
            · exact z
            · exact absurd (nI_le z (by omega)) h_78, h_86⟩
          rw [if_pos e] at k
          exact ih (v + 1) (some v) (by omega) (fun d hd => by cases hd; exact hin) k

set_option maxHeartbeats 4000000 in
set_option maxRecDepth 20000 in
theorem tX7_apart {sc : pg_Sc} {g : pg_S} {K : Int32 → pg_S → Prop} {T : TW} {n : Nat} (h : MR g 60 T n) (wf : WF T n) (k : ∀ g', MR g' 60 T n → FR 65 66 g g' → K (apA T n) g') : pg_Cal sc 4 mX7_apart [.ref 59] g (pg_ki K) := by
  refine pg_Cal.of rfl (Nat.le_of_ble_eq_true rfl) rfl ?_
  refine go_iconst (pc' := 1) (-1) dX7_apart_0 rfl (by decide) ?_
  refine go_istore_n (pc' := 2) dX7_apart_1 rfl (by decide) rfl ?_
  refine go_iconst (pc' := 3) 0 dX7_apart_2 rfl (by decide) ?_
  refine go_istore_n (pc' := 4) dX7_apart_3 rfl (by decide) rfl ?_
  refine lma2 wf n 0 g (by omega) h (fun a b ha hb hc => absurd hc (by omega)) (fun g1 h1 hU f1 => ?_)
  refine go_iconst (pc' := 58) 0 dX7_apart_57 rfl (by decide) ?_
  refine go_istore_n (pc' := 59) dX7_apart_58 rfl (by decide) rfl ?_
  exact lma3 h1 wf hU 1024 0 none (by omega) (fun c hc => nomatch hc) (k g1 h1 f1)

