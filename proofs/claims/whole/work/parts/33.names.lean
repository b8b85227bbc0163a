def txL : List Nat := [112, 117, 112, 105, 108, 32, 32, 98, 105, 115, 104, 111, 112, 32, 98, 117, 114, 103, 108, 97, 114, 100, 101, 97, 110, 32, 32, 32, 99, 114, 97, 99, 107, 101, 114, 116, 119, 105, 110, 32, 32, 32, 100, 117, 99, 107, 32, 32, 32, 100, 114, 117, 109, 32, 32, 32, 112, 101, 97, 114, 32, 32, 32, 107, 105, 116, 101, 32, 32, 32, 108, 97, 100, 100, 101, 114, 32, 98, 108, 97, 110, 107, 32, 32, 98, 101, 108, 108, 32, 32, 32, 112, 117, 108, 108, 32, 32, 32, 114, 111, 111, 109, 32, 32, 32, 99, 104, 97, 110, 99, 101, 32, 97, 116, 32, 32, 32, 32, 32, 97, 103, 101, 32, 32, 32, 32, 104, 97, 100, 32, 32, 32, 32, 119, 101, 105, 103, 104, 115, 32]
def txN (i : Nat) : Nat := txL.getD i 0
def nlL : List Nat := [5, 6, 7, 4, 7, 4, 4, 4, 4, 4, 6, 5, 4, 4, 4, 6, 2, 3, 3, 6]
def nlN (c : Nat) : Nat := nlL.getD c 0
theorem tx_eq : ∀ i, i < 140 → pg_tx.getD i 0 = nI (txN i) := by decide +kernel
theorem tx_in : ∀ c, c < 20 → nlN c ≤ 7 ∧ 0 < nlN c ∧ ∀ j, j < 7 → (j < nlN c → 97 ≤ txN (c * 7 + j) ∧ txN (c * 7 + j) ≤ 122) ∧ (¬ j < nlN c → txN (c * 7 + j) = 32) := by decide +kernel
def hsF (f : Nat → Nat) : Nat → Nat
  | 0 => 0
  | m + 1 => 27 * hsF f m + f m
theorem hs_inj {f f' : Nat → Nat} : ∀ a b, (∀ j, j < a → 1 ≤ f j ∧ f j ≤ 26) → (∀ j, j < b → 1 ≤ f' j ∧ f' j ≤ 26) → hsF f a = hsF f' b → a = b ∧ ∀ j, j < a → f j = f' j
  | 0, 0, _, _, _ => ⟨rfl, fun j hj => absurd hj (by omega)⟩
  | 0, b + 1, _, h2, h => by
    have := h2 b (by omega)
    have h : 0 = 27 * hsF f' b + f' b := h
    omega
  | a + 1, 0, h1, _, h => by
    have := h1 a (by omega)
    have h : 27 * hsF f a + f a = 0 := h
    omega
  | a + 1, b + 1, h1, h2, h => by
    have q1 := h1 a (by omega)
    have q2 := h2 b (by omega)
    have h : 27 * hsF f a + f a = 27 * hsF f' b + f' b := h
    obtain ⟨e, r⟩ := hs_inj a b (fun j hj => h1 j (by omega)) (fun j hj => h2 j (by omega)) (by omega)
    refine ⟨by omega, fun j hj => ?_⟩
    by_cases z : j = a
    · have y : f a = f' b := by omega
      rw [z, y, e]
    · exact r j (by omega)
theorem hs_lt {f : Nat → Nat} : ∀ a, (∀ j, j < a → f j ≤ 26) → hsF f a < 27 ^ a
  | 0, _ => by show 0 < 1; decide
  | a + 1, h => by
    have ih := hs_lt a (fun j hj => h j (by omega))
    have := h a (by omega)
    show 27 * hsF f a + f a < 27 ^ (a + 1)
    rw [Nat.pow_succ]
    omega
theorem hs_eq {f f' : Nat → Nat} : ∀ a, (∀ j, j < a → f j = f' j) → hsF f a = hsF f' a
  | 0, _ => rfl
  | a + 1, h => by
    show 27 * hsF f a + f a = 27 * hsF f' a + f' a
    rw [hs_eq a (fun j hj => h j (by omega)), h a (by omega)]
def cdN (c : Nat) : Nat := hsF (fun j => txN (c * 7 + j) - 96) (nlN c)
theorem cd_lt : ∀ c, c < 20 → cdN c < 2 ^ 62 := by decide +kernel
theorem cd_ne : ∀ c, c < 20 → ∀ d, d < 20 → cdN c = cdN d → c = d := by decide +kernel
/-- a token's letters -/
def LTS (B : Nat → Nat) (s e : Nat) : Prop := s ≤ e ∧ e ≤ 200 ∧ ∀ j, s + j < e → 97 ≤ B (s + j) ∧ B (s + j) ≤ 122
theorem wd_hs {B : Nat → Nat} {s e : Nat} (h : LTS B s e) : ∀ j, j ≤ 9 → s + j ≤ e → wdI B s j = nL (hsF (fun i => B (s + i) - 96) j)
  | 0, _, _ => rfl
  | j + 1, h9, he => by
    have b := h.2.2 j (by omega)
    rw [wdI_lt (by omega), wd_hs h j (by omega) (by omega), nL_i2l (by omega)]
    show (27 : Int64) * nL _ + nL _ - 96 = nL (27 * hsF (fun i => B (s + i) - 96) j + (B (s + j) - 96))
    rw [show (27 : Int64) = nL 27 from rfl, show (96 : Int64) = nL 96 from rfl, nL_mul, ← Int64.ofNat_add, ← Int64.ofNat_sub _ _ (by omega)]
    congr 1
    omega
theorem wd_big {B : Nat → Nat} {s : Nat} : ∀ j, 9 < j → wdI B s j = -1
  | 0, h => absurd h (by omega)
  | j + 1, h => wdI_ge (by omega)
theorem nL_inj {a b : Nat} (ha : a < 2 ^ 63) (hb : b < 2 ^ 63) (h : nL a = nL b) : a = b := by
  have := Int64.toInt_inj.mpr h
  rw [nL_toInt ha, nL_toInt hb] at this
  omega
theorem spe_len {B : Nat → Nat} {s e c : Nat} (hc : c < 20) (h : LTS B s e) : SPE B s e c ↔ e - s = nlN c ∧ ∀ j, j < nlN c → B (s + j) = txN (c * 7 + j) := by
  obtain ⟨t1, t0, t2⟩ := tx_in c hc
  have h1 := h.1
  constructor
  · intro ⟨q1, q2⟩
    have key : ∀ j, j < 7 → (s + j < e ↔ j < nlN c) ∧ (j < nlN c → B (s + j) = txN (c * 7 + j)) := by
      intro j hj
      have a := q2 j hj
      rw [tx_eq (c * 7 + j) (by omega)] at a
      by_cases z : s + j < e
      · have b := h.2.2 j z
        rw [if_pos z, sb_n _ (by omega)] at a
        have tn : txN (c * 7 + j) < 2 ^ 31 := by
          by_cases y : j < nlN c
          · have := ((t2 j hj).1 y); omega
          · have := ((t2 j hj).2 y); omega
        have a := (nI_eq tn (by omega)).mp a
        have y : j < nlN c := by
          by_cases y : j < nlN c
          · exact y
          · have := (t2 j hj).2 y; omega
        exact ⟨⟨fun _ => y, fun _ => z⟩, fun _ => a.symm⟩
      · rw [if_neg z] at a
        have y : ¬ j < nlN c := by
          intro y
          have b := (t2 j hj).1 y
          have a := (nI_eq (b := 32) (by omega) (by decide)).mp a
          omega
        exact ⟨⟨fun q => absurd q z, fun q => absurd q y⟩, fun q => absurd q y⟩
    refine ⟨?_, fun j hj => (key j (by omega)).2 hj⟩
    rcases Nat.lt_trichotomy (e - s) (nlN c) with q | q | q
    · have := (key (e - s) (by omega)).1.mpr q
      omega
    · exact q
    · have := (key (nlN c) (by omega)).1.mp (by omega)
      omega
  · intro ⟨q1, q2⟩
    refine ⟨by omega, fun j hj => ?_⟩
    rw [tx_eq (c * 7 + j) (by omega)]
    by_cases y : j < nlN c
    · have b := (t2 j hj).1 y
      rw [if_pos (by omega), q2 j y, sb_n _ (by omega)]
    · rw [if_neg (by omega), (t2 j hj).2 y]
      rfl
theorem wd_spe {B : Nat → Nat} {s e c : Nat} (hc : c < 20) (h : LTS B s e) : wdI B s (e - s) = nL (cdN c) ↔ SPE B s e c := by
  rw [spe_len hc h]
  obtain ⟨t1, t0, t2⟩ := tx_in c hc
  have h1 := h.1
  have hcd := cd_lt c hc
  by_cases h9 : e - s ≤ 9
  · rw [wd_hs h (e - s) h9 (by omega)]
    constructor
    · intro q
      have hl : hsF (fun i => B (s + i) - 96) (e - s) < 2 ^ 63 := by
        have a := hs_lt (f := fun i => B (s + i) - 96) (e - s) (fun j hj => by have := h.2.2 j (by omega); show B (s + j) - 96 ≤ 26; omega)
        have b : 27 ^ (e - s) ≤ 27 ^ 9 := Nat.pow_le_pow_right (by omega) h9
        exact Nat.lt_of_lt_of_le a (Nat.le_trans b (by decide))
      have q := nL_inj hl (by omega) q
      obtain ⟨a, b⟩ := hs_inj (e - s) (nlN c) (fun j hj => by have := h.2.2 j (by omega); show 1 ≤ B (s + j) - 96 ∧ B (s + j) - 96 ≤ 26; omega) (fun j hj => by have := (t2 j (by omega)).1 hj; show 1 ≤ txN (c * 7 + j) - 96 ∧ txN (c * 7 + j) - 96 ≤ 26; omega) q
      refine ⟨a, fun j hj => ?_⟩
      have z : B (s + j) - 96 = txN (c * 7 + j) - 96 := b j (by omega)
      have z1 := h.2.2 j (by omega)
      have z2 := (t2 j (by omega)).1 hj
      omega
    · intro ⟨a, b⟩
      unfold cdN
      rw [a, hs_eq (nlN c) (fun j hj => by show B (s + j) - 96 = txN (c * 7 + j) - 96; rw [b j hj])]
  · rw [wd_big _ (by omega)]
    constructor
    · intro q
      have := Int64.toInt_inj.mpr q
      rw [nL_toInt (by omega), show (-1 : Int64).toInt = -1 from rfl] at this
      omega
    · intro ⟨a, _⟩
      omega
theorem nmF_no {f : Nat → Bool} : ∀ m c v, (∀ d, c ≤ d → d < c + m → ¬ f d = true) → nmF f m c v = v
  | 0, _, _, _ => rfl
  | m + 1, c, v, h => by
    show nmF f m (c + 1) (if f c = true then nI c else v) = v
    rw [if_neg (h c (by omega) (by omega))]
    exact nmF_no m (c + 1) v (fun d h1 h2 => h d (by omega) (by omega))
theorem nmF_at {f : Nat → Bool} {x : Nat} (hx : f x = true) : ∀ m c v, c ≤ x → x < c + m → (∀ d, c ≤ d → d < c + m → f d = true → d = x) → nmF f m c v = nI x
  | 0, _, _, h1, h2, _ => absurd h2 (by omega)
  | m + 1, c, v, h1, h2, h => by
    show nmF f m (c + 1) (if f c = true then nI c else v) = nI x
    by_cases e : c = x
    · subst e
      rw [if_pos hx]
      exact nmF_no m (c + 1) (nI c) (fun d q1 q2 q3 => by have := h d (by omega) (by omega) q3; omega)
    · exact nmF_at hx m (c + 1) _ (by omega) (by omega) (fun d q1 q2 q3 => h d (by omega) (by omega) q3)
theorem spe_un {B : Nat → Nat} {s e c d : Nat} (hc : c < 20) (hd : d < 20) (h : LTS B s e) (h1 : SPE B s e c) (h2 : SPE B s e d) : c = d := by
  have a := (wd_spe hc h).mpr h1
  have b := (wd_spe hd h).mpr h2
  have l1 := cd_lt c hc
  have l2 := cd_lt d hd
  exact cd_ne c hc d hd (nL_inj (by omega) (by omega) (a.symm.trans b))
theorem nm_spe {B : Nat → Nat} {s e : Nat} (h : LTS B s e) : (∃ c, c < 20 ∧ SPE B s e c ∧ nmI B s e = nI c) ∨ ((∀ c, c < 20 → ¬ SPE B s e c) ∧ nmI B s e = -1) := by
  by_cases q : ∃ c, c < 20 ∧ SPE B s e c
  · obtain ⟨c, hc, hs⟩ := q
    exact Or.inl ⟨c, hc, hs, nmF_at (spe_iff.mpr hs) 20 0 (-1) (by omega) (by omega) (fun d _ hd he => spe_un (by omega) hc h (spe_iff.mp he) hs)⟩
  · exact Or.inr ⟨fun c hc hs => q ⟨c, hc, hs⟩, nmF_no 20 0 (-1) (fun d _ hd he => q ⟨d, by omega, spe_iff.mp he⟩)⟩
theorem tok_lts {B : Nat → Nat} {L p : Nat} (hL : L ≤ 200) (hp : p ≤ L) (h : soF B L p = 1) : LTS B (skF B L p) (enF B L p) := by
  have hle : leB B L (skF B L p) = true := by
    unfold soF so0 at h
    split at h
    · omega
    · split at h
      · assumption
      · split at h <;> omega
  obtain ⟨t1, t2⟩ := tok1 (p := p) hle
  have e1 := en_le (B := B) hp
  rw [t2] at e1 ⊢
  exact ⟨scn_ge L _, by omega, fun j hj => (leB_iff.mp (scn_in L _ (skF B L p + j) (by omega) hj)).2⟩
theorem so_le (B : Nat → Nat) (L p : Nat) : soF B L p ≤ 3 := by
  unfold soF so0
  split
  · omega
  · split
    · omega
    · split <;> omega
/-- the name's number, 20 where the token is none of them -/
def tnF (B : Nat → Nat) (L p : Nat) : Nat := if soF B L p = 1 ∧ ¬ nmI B (skF B L p) (enF B L p) = -1 then pn (nmI B (skF B L p) (enF B L p)) else 20
theorem tn_at {B : Nat → Nat} {L p : Nat} (hL : L ≤ 200) (hp : p ≤ L) : (soF B L p = 1 ∧ ∃ c, c < 20 ∧ SPE B (skF B L p) (enF B L p) c ∧ nmI B (skF B L p) (enF B L p) = nI c ∧ tnF B L p = c) ∨ ((soF B L p = 1 → (∀ c, c < 20 → ¬ SPE B (skF B L p) (enF B L p) c) ∧ nmI B (skF B L p) (enF B L p) = -1) ∧ tnF B L p = 20) := by
  by_cases q : soF B L p = 1
  · have hl := tok_lts hL hp q
    rcases nm_spe hl with ⟨c, hc, hs, e⟩ | ⟨hn, e⟩
    · refine Or.inl ⟨q, c, hc, hs, e, ?_⟩
      unfold tnF
      rw [if_pos ⟨q, by rw [e]; exact fun z => absurd (nI_le0 (a := c) (by omega)) (by rw [z]; decide)⟩, e]
      exact nI_clamp (by omega)
    · exact Or.inr ⟨fun _ => ⟨hn, e⟩, if_neg (fun z => z.2 e)⟩
  · exact Or.inr ⟨fun z => absurd z q, if_neg (fun z => q z.1)⟩
theorem tn_from {B : Nat → Nat} {L p f k : Nat} (hL : L ≤ 200) (hp : p ≤ L) (hf : f + k ≤ 20) : (soF B L p = 1 ∧ nI f ≤ nmI B (skF B L p) (enF B L p) ∧ nmI B (skF B L p) (enF B L p) < nI (f + k)) ↔ (f ≤ tnF B L p ∧ tnF B L p < f + k) := by
  rcases tn_at (B := B) hL hp with ⟨q, c, hc, hs, e, t⟩ | ⟨q, t⟩
  · rw [t, e]
    exact ⟨fun z => ⟨(nI_leI (by omega) (by omega)).mp z.2.1, (nI_ltI (by omega) (by omega)).mp z.2.2⟩, fun z => ⟨q, (nI_leI (by omega) (by omega)).mpr z.1, (nI_ltI (by omega) (by omega)).mpr z.2⟩⟩
  · rw [t]
    refine ⟨fun z => ?_, fun z => absurd z.2 (by omega)⟩
    have e := (q z.1).2
    rw [e] at z
    exact absurd (Int32.le_trans (nI_le0 (a := f) (by omega)) z.2.1) (by decide)
theorem tn_word {B : Nat → Nat} {L p c : Nat} (hL : L ≤ 200) (hp : p ≤ L) (hc : c < 20) : (soF B L p = 1 ∧ wdI B (skF B L p) (enF B L p - skF B L p) = nL (cdN c)) ↔ tnF B L p = c := by
  rcases tn_at (B := B) hL hp with ⟨q, d, hd, hs, e, t⟩ | ⟨q, t⟩
  · have hl := tok_lts hL hp q
    rw [t]
    exact ⟨fun z => spe_un hd hc hl hs ((wd_spe hc hl).mp z.2), fun z => ⟨q, (wd_spe hc hl).mpr (by rw [← z]; exact hs)⟩⟩
  · rw [t]
    exact ⟨fun z => absurd ((wd_spe hc (tok_lts hL hp z.1)).mp z.2) ((q z.1).1 c hc), fun z => absurd z (by omega)⟩
/-- numbers -/
theorem rd_ex {B : Nat → Nat} {s e : Nat} (h : ∀ j, s + j < e → 48 ≤ B (s + j) ∧ B (s + j) ≤ 57) : ∀ j, j ≤ 3 → s + j ≤ e → ∃ w, w < 10 ^ j ∧ rdI B s j = nI w
  | 0, _, _ => ⟨0, by decide, rfl⟩
  | j + 1, h3, he => by
    obtain ⟨w, hw, e⟩ := rd_ex h j (by omega) (by omega)
    have b := h j (by omega)
    refine ⟨w * 10 + (B (s + j) - 48), by rw [Nat.pow_succ]; omega, ?_⟩
    rw [rdI_lt (by omega), e, show (10 : Int32) = nI 10 from rfl, pk_mul, nI_add, show (48 : Int32) = nI 48 from rfl, pk_sub (by omega)]
    congr 1
    omega
def nbF (B : Nat → Nat) (L p : Nat) : Nat := if soF B L p = 2 ∧ ¬ nvI B (skF B L p) (enF B L p) = -1 then pn (nvI B (skF B L p) (enF B L p)) else 1000
theorem nb_at {B : Nat → Nat} {L p : Nat} (hp : p ≤ L) : (soF B L p = 2 ∧ ∃ w, w < 1000 ∧ nvI B (skF B L p) (enF B L p) = nI w ∧ nbF B L p = w) ∨ ((soF B L p = 2 → nvI B (skF B L p) (enF B L p) = -1) ∧ nbF B L p = 1000) := by
  by_cases q : soF B L p = 2
  · by_cases z : nvI B (skF B L p) (enF B L p) = -1
    · exact Or.inr ⟨fun _ => z, if_neg (fun y => y.2 z)⟩
    · have hd : ¬ leB B L (skF B L p) = true ∧ diB B L (skF B L p) = true := by
        have q' := q
        unfold soF so0 at q'
        split at q'
        · omega
        · split at q'
          · omega
          · rename_i _ h1
            split at q'
            · exact ⟨h1, by assumption⟩
            · omega
      obtain ⟨t1, t2⟩ := tok2 (p := p) hd.1 hd.2
      have h3 : ¬ 3 < enF B L p - skF B L p := fun y => z (if_pos y)
      have ge : skF B L p ≤ enF B L p := by rw [t2]; exact scn_ge L _
      obtain ⟨w, hw, e⟩ := rd_ex (B := B) (s := skF B L p) (e := enF B L p) (fun j hj => by
        rw [t2] at hj
        exact (diB_iff.mp (scn_in L _ (skF B L p + j) (by omega) hj)).2) (enF B L p - skF B L p) (by omega) (by omega)
      have hw2 : w < 1000 := Nat.lt_of_lt_of_le hw (Nat.le_trans (Nat.pow_le_pow_right (by omega) (show enF B L p - skF B L p ≤ 3 by omega)) (by decide))
      have e2 : nvI B (skF B L p) (enF B L p) = nI w := (if_neg h3).trans e
      refine Or.inl ⟨q, w, hw2, e2, ?_⟩
      unfold nbF
      rw [if_pos ⟨q, z⟩, e2]
      exact nI_clamp (by omega)
  · exact Or.inr ⟨fun z => absurd z q, if_neg (fun z => q z.1)⟩
theorem nb_val {B : Nat → Nat} {L p : Nat} (hp : p ≤ L) (h : nbF B L p < 1000) : soF B L p = 2 ∧ nvI B (skF B L p) (enF B L p) = nI (nbF B L p) := by
  rcases nb_at (B := B) hp with ⟨q, w, hw, e, t⟩ | ⟨q, t⟩
  · exact ⟨q, by rw [t]; exact e⟩
  · omega
theorem nb_c {B : Nat → Nat} {L p M : Nat} (hp : p ≤ L) (hM : M < 1000) : (soF B L p = 2 ∧ ¬ nvI B (skF B L p) (enF B L p) = -1 ∧ nvI B (skF B L p) (enF B L p) ≤ nI M) ↔ nbF B L p ≤ M := by
  rcases nb_at (B := B) hp with ⟨q, w, hw, e, t⟩ | ⟨q, t⟩
  · rw [t, e]
    exact ⟨fun z => (nI_leI (by omega) (by omega)).mp z.2.2, fun z => ⟨q, fun y => absurd (nI_le0 (a := w) (by omega)) (by rw [y]; decide), (nI_leI (by omega) (by omega)).mpr z⟩⟩
  · rw [t]
    exact ⟨fun z => absurd (q z.1) z.2.1, fun z => absurd z (by omega)⟩
theorem nb_m {B : Nat → Nat} {L p M : Nat} (hp : p ≤ L) (hM : M < 1000) : (soF B L p = 2 ∧ 0 ≤ nvI B (skF B L p) (enF B L p) ∧ nvI B (skF B L p) (enF B L p) ≤ nI M) ↔ nbF B L p ≤ M := by
  rcases nb_at (B := B) hp with ⟨q, w, hw, e, t⟩ | ⟨q, t⟩
  · rw [t, e]
    exact ⟨fun z => (nI_leI (by omega) (by omega)).mp z.2.2, fun z => ⟨q, nI_le0 (by omega), (nI_leI (by omega) (by omega)).mpr z⟩⟩
  · rw [t]
    exact ⟨fun z => absurd z.2.1 (by rw [q z.1]; decide), fun z => absurd z (by omega)⟩
abbrev SM (B : Nat → Nat) (L p : Nat) : Prop := soF B L p = 3 ∧ B (skF B L p) = 59
theorem sm_lt {B : Nat → Nat} {L p : Nat} (h : soF B L p = 3) : skF B L p < L := by
  by_cases q : skF B L p < L
  · exact q
  · rw [(tok0 (p := p) q).1] at h
    omega
set_option maxHeartbeats 4000000 in
set_option maxRecDepth 20000 in
theorem tX4_isNameFrom {sc : pg_Sc} {g : pg_S} {K : Int32 → pg_S → Prop} {B : Nat → Nat} {L p f c : Nat} (h : TP g B L) (t : TK B L p g) (hp : p ≤ L) (hf : f + c ≤ 20) (k : K (if f ≤ tnF B L p ∧ tnF B L p < f + c then 1 else 0) g) : pg_Cal sc 1 mX4_isNameFrom [.ref 28, .int (nI f), .int (nI c)] g (pg_ki K) := by
  refine pg_Cal.of rfl (Nat.le_of_ble_eq_true rfl) rfl ?_
  have hL := h.2.1
  have h3 := so_le B L p
  have hio := tn_from (B := B) hL hp hf
  refine go_aload_n (pc' := 1) dX4_isNameFrom_0 rfl rfl ?_
  refine go_getI (pc' := 4) dX4_isNameFrom_1 rfl flRX4_25 rfl rfl ?_
  rw [t.2.2.1]
  refine go_iconst (pc' := 5) 1 dX4_isNameFrom_4 rfl (by decide) ?_
  refine go_icmp_ne (pc' := 8) (tgt := 30) dX4_isNameFrom_5 rfl (by decide) (fun h_5 => ?_) (fun h_5 => ?_)
  · refine go_iconst (pc' := 31) 0 dX4_isNameFrom_30 rfl (by decide) ?_
    refine go_iret dX4_isNameFrom_31 (by first | exact pg_nar1 | exact pg_nar0 | exact pg_narB) ?_
    rw [if_neg (fun q => h_5 (by rw [(hio.mpr q).1]; rfl))] at k
    exact k
  · have hso := (nI_eq (b := 1) (by omega) (by decide)).mp h_5
    refine go_aload_n (pc' := 9) dX4_isNameFrom_8 rfl rfl ?_
    refine go_getI (pc' := 12) dX4_isNameFrom_9 rfl flRX4_28 rfl rfl ?_
    rw [t.2.2.2.1 hso]
    refine go_iload_n (pc' := 13) dX4_isNameFrom_12 rfl rfl ?_
    refine go_icmp_lt (pc' := 16) (tgt := 30) dX4_isNameFrom_13 rfl (by decide) (fun h_13 => ?_) (fun h_13 => ?_)
    · refine go_iconst (pc' := 31) 0 dX4_isNameFrom_30 rfl (by decide) ?_
      refine go_iret dX4_isNameFrom_31 (by first | exact pg_nar1 | exact pg_nar0 | exact pg_narB) ?_
      rw [if_neg (fun q => pg_lt_nle h_13 (hio.mpr q).2.1)] at k
      exact k
    · refine go_aload_n (pc' := 17) dX4_isNameFrom_16 rfl rfl ?_
      refine go_getI (pc' := 20) dX4_isNameFrom_17 rfl flRX4_28 rfl rfl ?_
      rw [t.2.2.2.1 hso]
      refine go_iload_n (pc' := 21) dX4_isNameFrom_20 rfl rfl ?_
      refine go_iload_n (pc' := 22) dX4_isNameFrom_21 rfl rfl ?_
      refine go_iadd (pc' := 23) dX4_isNameFrom_22 rfl ?_
      rw [nI_add]
      refine go_icmp_ge (pc' := 26) (tgt := 30) dX4_isNameFrom_23 rfl (by decide) (fun h_23 => ?_) (fun h_23 => ?_)
      · refine go_iconst (pc' := 31) 0 dX4_isNameFrom_30 rfl (by decide) ?_
        refine go_iret dX4_isNameFrom_31 (by first | exact pg_nar1 | exact pg_nar0 | exact pg_narB) ?_
        rw [if_neg (fun q => pg_lt_nle (hio.mpr q).2.2 h_23)] at k
        exact k
      · refine go_iconst (pc' := 27) 1 dX4_isNameFrom_26 rfl (by decide) ?_
        refine go_goto (pc' := 31) dX4_isNameFrom_27 (by decide) ?_
        refine go_iret dX4_isNameFrom_31 (by first | exact pg_nar1 | exact pg_nar0 | exact pg_narB) ?_
        rw [if_pos (hio.mp ⟨hso, pg_nlt_le h_13, pg_nle_lt h_23⟩)] at k
        exact k

set_option maxHeartbeats 4000000 in
set_option maxRecDepth 20000 in
theorem tX4_passName {sc : pg_Sc} {g : pg_S} {K : Int32 → pg_S → Prop} {B : Nat → Nat} {L p f : Nat} (h : TP g B L) (t : TK B L p g) (hp : p ≤ L) (hf : f < 20) (k1 : ¬ tnF B L p = f → K 0 g) (k : tnF B L p = f → ∀ g', TP g' B L → TK B L (enF B L p) g' → g'.1 28 6 = g.1 28 6 → FR 28 29 g g' → K 1 g') : pg_Cal sc 9 mX4_passName [.ref 28, .int (nI f)] g (pg_ki K) := by
  refine pg_Cal.of rfl (Nat.le_of_ble_eq_true rfl) rfl ?_
  refine go_aload_n (pc' := 1) dX4_passName_0 rfl rfl ?_
  refine go_iload_n (pc' := 2) dX4_passName_1 rfl rfl ?_
  refine go_iconst (pc' := 3) 1 dX4_passName_2 rfl (by decide) ?_
  refine go_cVi2 (pc' := 6) (M' := mX4_isNameFrom) (d' := 1) dX4_passName_3 rfl cvRX4_37 rfl rfl (by decide) rfl (Nat.le_of_ble_eq_true rfl) ?_
  refine tX4_isNameFrom (c := 1) h t hp (by omega) ?_
  refine go_if_ne (pc' := 9) (tgt := 11) dX4_passName_6 rfl (by decide) (fun h_6 => ?_) (fun h_6 => ?_)
  · have h_6 := pg_b1 h_6
    refine go_aload_n (pc' := 12) dX4_passName_11 rfl rfl ?_
    refine go_cVv0 (pc' := 15) (M' := mX4_advance) (d' := 8) dX4_passName_12 rfl cvRX4_34 rfl rfl (by decide) rfl (Nat.le_of_ble_eq_true rfl) ?_
    refine tX4_advance h t.1 (en_le hp) (fun g1 a1 a2 a3 a4 => ?_)
    refine go_iconst (pc' := 16) 1 dX4_passName_15 rfl (by decide) ?_
    refine go_iret dX4_passName_16 (by first | exact pg_nar1 | exact pg_nar0 | exact pg_narB) ?_
    exact k (by omega) g1 a1 a2 a3 a4
  · have h_6 := pg_b0 h_6
    refine go_iconst (pc' := 10) 0 dX4_passName_9 rfl (by decide) ?_
    refine go_iret dX4_passName_10 (by first | exact pg_nar1 | exact pg_nar0 | exact pg_narB) ?_
    exact k1 (fun q => h_6 (by omega))

set_option maxHeartbeats 4000000 in
set_option maxRecDepth 20000 in
theorem tX4_passNumber {sc : pg_Sc} {g : pg_S} {K : Int32 → pg_S → Prop} {B : Nat → Nat} {L p f : Nat} (h : TP g B L) (t : TK B L p g) (hp : p ≤ L) (hf : f < 1000) (k1 : ¬ nbF B L p ≤ f → K 0 g) (k : nbF B L p ≤ f → ∀ g', TP g' B L → TK B L (enF B L p) g' → g'.1 28 6 = nI (nbF B L p) → FR 28 29 g g' → K 1 g') : pg_Cal sc 9 mX4_passNumber [.ref 28, .int (nI f)] g (pg_ki K) := by
  refine pg_Cal.of rfl (Nat.le_of_ble_eq_true rfl) rfl ?_
  have hL := h.2.1
  have h3 := so_le B L p
  have hio := nb_c (B := B) hp hf
  refine go_aload_n (pc' := 1) dX4_passNumber_0 rfl rfl ?_
  refine go_getI (pc' := 4) dX4_passNumber_1 rfl flRX4_25 rfl rfl ?_
  rw [t.2.2.1]
  refine go_iconst (pc' := 5) 2 dX4_passNumber_4 rfl (by decide) ?_
  refine go_icmp_ne (pc' := 8) (tgt := 24) dX4_passNumber_5 rfl (by decide) (fun h_5 => ?_) (fun h_5 => ?_)
  · refine go_iconst (pc' := 25) 0 dX4_passNumber_24 rfl (by decide) ?_
    refine go_iret dX4_passNumber_25 (by first | exact pg_nar1 | exact pg_nar0 | exact pg_narB) ?_
    exact k1 (fun q => h_5 (by rw [(hio.mpr q).1]; rfl))
  · have hso := (nI_eq (b := 2) (by omega) (by decide)).mp h_5
    refine go_aload_n (pc' := 9) dX4_passNumber_8 rfl rfl ?_
    refine go_getI (pc' := 12) dX4_passNumber_9 rfl flRX4_28 rfl rfl ?_
    rw [t.2.2.2.2.1 hso]
    refine go_iconst (pc' := 13) (-1) dX4_passNumber_12 rfl (by decide) ?_
    refine go_icmp_eq (pc' := 16) (tgt := 24) dX4_passNumber_13 rfl (by decide) (fun h_13 => ?_) (fun h_13 => ?_)
    · refine go_iconst (pc' := 25) 0 dX4_passNumber_24 rfl (by decide) ?_
      refine go_iret dX4_passNumber_25 (by first | exact pg_nar1 | exact pg_nar0 | exact pg_narB) ?_
      exact k1 (fun q => (hio.mpr q).2.1 h_13)
    · refine go_aload_n (pc' := 17) dX4_passNumber_16 rfl rfl ?_
      refine go_getI (pc' := 20) dX4_passNumber_17 rfl flRX4_28 rfl rfl ?_
      rw [t.2.2.2.2.1 hso]
      refine go_iload_n (pc' := 21) dX4_passNumber_20 rfl rfl ?_
      refine go_icmp_le (pc' := 24) (tgt := 26) dX4_passNumber_21 rfl (by decide) (fun h_21 => ?_) (fun h_21 => ?_)
      · refine go_aload_n (pc' := 27) dX4_passNumber_26 rfl rfl ?_
        refine go_aload_n (pc' := 28) dX4_passNumber_27 rfl rfl ?_
        refine go_getI (pc' := 31) dX4_passNumber_28 rfl flRX4_28 rfl rfl ?_
        rw [t.2.2.2.2.1 hso]
        refine go_putI (pc' := 34) dX4_passNumber_31 rfl flRX4_31 rfl rfl ft4_6 ?_
        refine go_gen (fun g2 e2 => ?_)
        refine go_aload_n (pc' := 35) dX4_passNumber_34 rfl rfl ?_
        refine go_cVv0 (pc' := 38) (M' := mX4_advance) (d' := 8) dX4_passNumber_35 rfl cvRX4_34 rfl rfl (by decide) rfl (Nat.le_of_ble_eq_true rfl) ?_
        have hok := hio.mp ⟨hso, h_13, h_21⟩
        have hval := (nb_val hp (Nat.lt_of_le_of_lt hok hf)).2
        refine tX4_advance (B := B) (L := L) (p := enF B L p) (by rw [e2]; exact h.ui (by decide)) (by rw [e2]; simpa [pg_ui_at] using t.1) (en_le hp) (fun g1 a1 a2 a3 a4 => ?_)
        refine go_iconst (pc' := 39) 1 dX4_passNumber_38 rfl (by decide) ?_
        refine go_iret dX4_passNumber_39 (by first | exact pg_nar1 | exact pg_nar0 | exact pg_narB) ?_
        exact k hok g1 a1 a2 (by rw [a3, e2, ← hval]; simp [pg_ui_at]) (FR.tr (by rw [e2]; exact FR.ui (by decide)) a4)
      · refine go_iconst (pc' := 25) 0 dX4_passNumber_24 rfl (by decide) ?_
        refine go_iret dX4_passNumber_25 (by first | exact pg_nar1 | exact pg_nar0 | exact pg_narB) ?_
        exact k1 (fun q => h_21 (hio.mpr q).2.2)

set_option maxHeartbeats 4000000 in
set_option maxRecDepth 20000 in
theorem tX4_passSemicolon {sc : pg_Sc} {g : pg_S} {K : Int32 → pg_S → Prop} {B : Nat → Nat} {L p : Nat} (h : TP g B L) (t : TK B L p g) (hp : p ≤ L) (k1 : ¬ SM B L p → K 0 g) (k : SM B L p → ∀ g', TP g' B L → TK B L (enF B L p) g' → g'.1 28 6 = g.1 28 6 → FR 28 29 g g' → K 1 g') : pg_Cal sc 9 mX4_passSemicolon [.ref 28] g (pg_ki K) := by
  refine pg_Cal.of rfl (Nat.le_of_ble_eq_true rfl) rfl ?_
  have hL := h.2.1
  have h3 := so_le B L p
  refine go_aload_n (pc' := 1) dX4_passSemicolon_0 rfl rfl ?_
  refine go_getI (pc' := 4) dX4_passSemicolon_1 rfl flRX4_25 rfl rfl ?_
  rw [t.2.2.1]
  refine go_iconst (pc' := 5) 3 dX4_passSemicolon_4 rfl (by decide) ?_
  refine go_icmp_ne (pc' := 8) (tgt := 17) dX4_passSemicolon_5 rfl (by decide) (fun h_5 => ?_) (fun h_5 => ?_)
  · refine go_iconst (pc' := 18) 0 dX4_passSemicolon_17 rfl (by decide) ?_
    refine go_iret dX4_passSemicolon_18 (by first | exact pg_nar1 | exact pg_nar0 | exact pg_narB) ?_
    exact k1 (fun q => h_5 (by rw [q.1]; rfl))
  · have hso := (nI_eq (b := 3) (by omega) (by decide)).mp h_5
    have hby := (h.2.2 _ (sm_lt hso)).1
    refine go_aload_n (pc' := 9) dX4_passSemicolon_8 rfl rfl ?_
    refine go_getI (pc' := 12) dX4_passSemicolon_9 rfl flRX4_28 rfl rfl ?_
    rw [t.2.2.2.2.2 hso]
    refine go_bipush (pc' := 14) 59 dX4_passSemicolon_12 rfl (by decide) ?_
    refine go_icmp_eq (pc' := 17) (tgt := 19) dX4_passSemicolon_14 rfl (by decide) (fun h_14 => ?_) (fun h_14 => ?_)
    · refine go_aload_n (pc' := 20) dX4_passSemicolon_19 rfl rfl ?_
      refine go_cVv0 (pc' := 23) (M' := mX4_advance) (d' := 8) dX4_passSemicolon_20 rfl cvRX4_34 rfl rfl (by decide) rfl (Nat.le_of_ble_eq_true rfl) ?_
      refine tX4_advance h t.1 (en_le hp) (fun g1 a1 a2 a3 a4 => ?_)
      refine go_iconst (pc' := 24) 1 dX4_passSemicolon_23 rfl (by decide) ?_
      refine go_iret dX4_passSemicolon_24 (by first | exact pg_nar1 | exact pg_nar0 | exact pg_narB) ?_
      exact k ⟨hso, (sb_59 _ hby).mp h_14⟩ g1 a1 a2 a3 a4
    · refine go_iconst (pc' := 18) 0 dX4_passSemicolon_17 rfl (by decide) ?_
      refine go_iret dX4_passSemicolon_18 (by first | exact pg_nar1 | exact pg_nar0 | exact pg_narB) ?_
      exact k1 (fun q => h_14 ((sb_59 _ hby).mpr q.2))

set_option maxHeartbeats 4000000 in
set_option maxRecDepth 20000 in
theorem tX7_isWord {sc : pg_Sc} {g : pg_S} {K : Int32 → pg_S → Prop} {B : Nat → Nat} {L p c : Nat} {x : Int64} (h : MTP g B L) (t : MK B L p g) (hp : p ≤ L) (hc : c < 20) (hx : x = nL (cdN c)) (k : K (if tnF B L p = c then 1 else 0) g) : pg_Cal sc 1 mX7_isWord [.ref 59, .long x] g (pg_ki K) := by
  refine pg_Cal.of rfl (Nat.le_of_ble_eq_true rfl) rfl ?_
  have hL := h.2.1
  have h3 := so_le B L p
  have hio := tn_word (B := B) hL hp hc
  rw [← hx] at hio
  refine go_aload_n (pc' := 1) dX7_isWord_0 rfl rfl ?_
  refine go_getI (pc' := 4) dX7_isWord_1 rfl flRX7_86 rfl rfl ?_
  rw [t.2.2.1]
  refine go_iconst (pc' := 5) 1 dX7_isWord_4 rfl (by decide) ?_
  refine go_icmp_ne (pc' := 8) (tgt := 21) dX7_isWord_5 rfl (by decide) (fun h_5 => ?_) (fun h_5 => ?_)
  · refine go_iconst (pc' := 22) 0 dX7_isWord_21 rfl (by decide) ?_
    refine go_iret dX7_isWord_22 (by first | exact pg_nar1 | exact pg_nar0 | exact pg_narB) ?_
    rw [if_neg (fun q => h_5 (by rw [(hio.mpr q).1]; rfl))] at k
    exact k
  · have hso := (nI_eq (b := 1) (by omega) (by decide)).mp h_5
    refine go_aload_n (pc' := 9) dX7_isWord_8 rfl rfl ?_
    refine go_getJ (pc' := 12) dX7_isWord_9 rfl flRX7_89 rfl rfl ?_
    rw [t.2.2.2.1 hso]
    refine go_lload_n (pc' := 13) dX7_isWord_12 rfl rfl ?_
    refine go_lcmp (pc' := 14) dX7_isWord_13 rfl ?_
    refine go_if_ne (pc' := 17) (tgt := 21) dX7_isWord_14 rfl (by decide) (fun h_14 => ?_) (fun h_14 => ?_)
    · refine go_iconst (pc' := 22) 0 dX7_isWord_21 rfl (by decide) ?_
      refine go_iret dX7_isWord_22 (by first | exact pg_nar1 | exact pg_nar0 | exact pg_narB) ?_
      rw [if_neg (fun q => h_14 ((lg_cmp_eq _ _).mpr (hio.mpr q).2))] at k
      exact k
    · refine go_iconst (pc' := 18) 1 dX7_isWord_17 rfl (by decide) ?_
      refine go_goto (pc' := 22) dX7_isWord_18 (by decide) ?_
      refine go_iret dX7_isWord_22 (by first | exact pg_nar1 | exact pg_nar0 | exact pg_narB) ?_
      rw [if_pos (hio.mp ⟨hso, (lg_cmp_eq _ _).mp h_14⟩)] at k
      exact k

set_option maxHeartbeats 4000000 in
set_option maxRecDepth 20000 in
theorem tX7_isMark {sc : pg_Sc} {g : pg_S} {K : Int32 → pg_S → Prop} {B : Nat → Nat} {L p : Nat} (h : MTP g B L) (t : MK B L p g) (hp : p ≤ L) (k : K (if SM B L p then 1 else 0) g) : pg_Cal sc 1 mX7_isMark [.ref 59, .int 59] g (pg_ki K) := by
  refine pg_Cal.of rfl (Nat.le_of_ble_eq_true rfl) rfl ?_
  have hL := h.2.1
  have h3 := so_le B L p
  refine go_aload_n (pc' := 1) dX7_isMark_0 rfl rfl ?_
  refine go_getI (pc' := 4) dX7_isMark_1 rfl flRX7_86 rfl rfl ?_
  rw [t.2.2.1]
  refine go_iconst (pc' := 5) 3 dX7_isMark_4 rfl (by decide) ?_
  refine go_icmp_ne (pc' := 8) (tgt := 20) dX7_isMark_5 rfl (by decide) (fun h_5 => ?_) (fun h_5 => ?_)
  · refine go_iconst (pc' := 21) 0 dX7_isMark_20 rfl (by decide) ?_
    refine go_iret dX7_isMark_21 (by first | exact pg_nar1 | exact pg_nar0 | exact pg_narB) ?_
    rw [if_neg (fun q => h_5 (by rw [q.1]; rfl))] at k
    exact k
  · have hso := (nI_eq (b := 3) (by omega) (by decide)).mp h_5
    have hby := (h.2.2 _ (sm_lt hso)).1
    refine go_aload_n (pc' := 9) dX7_isMark_8 rfl rfl ?_
    refine go_getI (pc' := 12) dX7_isMark_9 rfl flRX7_93 rfl rfl ?_
    rw [t.2.2.2.2.2 hso]
    refine go_iload_n (pc' := 13) dX7_isMark_12 rfl rfl ?_
    refine go_icmp_ne (pc' := 16) (tgt := 20) dX7_isMark_13 rfl (by decide) (fun h_13 => ?_) (fun h_13 => ?_)
    · refine go_iconst (pc' := 21) 0 dX7_isMark_20 rfl (by decide) ?_
      refine go_iret dX7_isMark_21 (by first | exact pg_nar1 | exact pg_nar0 | exact pg_narB) ?_
      rw [if_neg (fun q => h_13 (by rw [q.2]; rfl))] at k
      exact k
    · refine go_iconst (pc' := 17) 1 dX7_isMark_16 rfl (by decide) ?_
      refine go_goto (pc' := 21) dX7_isMark_17 (by decide) ?_
      refine go_iret dX7_isMark_21 (by first | exact pg_nar1 | exact pg_nar0 | exact pg_narB) ?_
      rw [if_pos ⟨hso, (nI_eq (b := 59) (by omega) (by decide)).mp h_13⟩] at k
      exact k

set_option maxHeartbeats 4000000 in
set_option maxRecDepth 20000 in
theorem tX7_kindHere {sc : pg_Sc} {g : pg_S} {K : Int32 → pg_S → Prop} {B : Nat → Nat} {L p : Nat} (h : MTP g B L) (t : MK B L p g) (hp : p ≤ L) (k : K (if 0 ≤ tnF B L p ∧ tnF B L p < 6 then nI (tnF B L p - 0) else -1) g) : pg_Cal sc 2 mX7_kindHere [.ref 59] g (pg_ki K) := by
  refine pg_Cal.of rfl (Nat.le_of_ble_eq_true rfl) rfl ?_
  refine go_aload_n (pc' := 1) dX7_kindHere_0 rfl rfl ?_
  refine go_ldc2 (pc' := 4) dX7_kindHere_1 rfl clRX7_102 ?_
  refine go_cVi1 (pc' := 7) (M' := mX7_isWord) (d' := 1) dX7_kindHere_4 rfl cvRX7_104 rfl rfl (by decide) rfl (Nat.le_of_ble_eq_true rfl) ?_
  refine tX7_isWord (c := 0) h t hp (by decide) (by decide +kernel) ?_
  refine go_if_eq (pc' := 10) (tgt := 14) dX7_kindHere_7 rfl (by decide) (fun h_7 => ?_) (fun h_7 => ?_)
  · have h_7 := pg_b0 h_7
    refine go_aload_n (pc' := 15) dX7_kindHere_14 rfl rfl ?_
    refine go_ldc2 (pc' := 18) dX7_kindHere_15 rfl clRX7_108 ?_
    refine go_cVi1 (pc' := 21) (M' := mX7_isWord) (d' := 1) dX7_kindHere_18 rfl cvRX7_104 rfl rfl (by decide) rfl (Nat.le_of_ble_eq_true rfl) ?_
    refine tX7_isWord (c := 1) h t hp (by decide) (by decide +kernel) ?_
    refine go_if_eq (pc' := 24) (tgt := 28) dX7_kindHere_21 rfl (by decide) (fun h_21 => ?_) (fun h_21 => ?_)
    · have h_21 := pg_b0 h_21
      refine go_aload_n (pc' := 29) dX7_kindHere_28 rfl rfl ?_
      refine go_ldc2 (pc' := 32) dX7_kindHere_29 rfl clRX7_110 ?_
      refine go_cVi1 (pc' := 35) (M' := mX7_isWord) (d' := 1) dX7_kindHere_32 rfl cvRX7_104 rfl rfl (by decide) rfl (Nat.le_of_ble_eq_true rfl) ?_
      refine tX7_isWord (c := 2) h t hp (by decide) (by decide +kernel) ?_
      refine go_if_eq (pc' := 38) (tgt := 42) dX7_kindHere_35 rfl (by decide) (fun h_35 => ?_) (fun h_35 => ?_)
      · have h_35 := pg_b0 h_35
        refine go_aload_n (pc' := 43) dX7_kindHere_42 rfl rfl ?_
        refine go_ldc2 (pc' := 46) dX7_kindHere_43 rfl clRX7_112 ?_
        refine go_cVi1 (pc' := 49) (M' := mX7_isWord) (d' := 1) dX7_kindHere_46 rfl cvRX7_104 rfl rfl (by decide) rfl (Nat.le_of_ble_eq_true rfl) ?_
        refine tX7_isWord (c := 3) h t hp (by decide) (by decide +kernel) ?_
        refine go_if_eq (pc' := 52) (tgt := 56) dX7_kindHere_49 rfl (by decide) (fun h_49 => ?_) (fun h_49 => ?_)
        · have h_49 := pg_b0 h_49
          refine go_aload_n (pc' := 57) dX7_kindHere_56 rfl rfl ?_
          refine go_ldc2 (pc' := 60) dX7_kindHere_57 rfl clRX7_114 ?_
          refine go_cVi1 (pc' := 63) (M' := mX7_isWord) (d' := 1) dX7_kindHere_60 rfl cvRX7_104 rfl rfl (by decide) rfl (Nat.le_of_ble_eq_true rfl) ?_
          refine tX7_isWord (c := 4) h t hp (by decide) (by decide +kernel) ?_
          refine go_if_eq (pc' := 66) (tgt := 70) dX7_kindHere_63 rfl (by decide) (fun h_63 => ?_) (fun h_63 => ?_)
          · have h_63 := pg_b0 h_63
            refine go_aload_n (pc' := 71) dX7_kindHere_70 rfl rfl ?_
            refine go_ldc2 (pc' := 74) dX7_kindHere_71 rfl clRX7_116 ?_
            refine go_cVi1 (pc' := 77) (M' := mX7_isWord) (d' := 1) dX7_kindHere_74 rfl cvRX7_104 rfl rfl (by decide) rfl (Nat.le_of_ble_eq_true rfl) ?_
            refine tX7_isWord (c := 5) h t hp (by decide) (by decide +kernel) ?_
            refine go_if_eq (pc' := 80) (tgt := 84) dX7_kindHere_77 rfl (by decide) (fun h_77 => ?_) (fun h_77 => ?_)
            · have h_77 := pg_b0 h_77
              refine go_iconst (pc' := 85) (-1) dX7_kindHere_84 rfl (by decide) ?_
              refine go_iret dX7_kindHere_85 (pg_narI _) ?_
              rw [if_neg (by omega)] at k
              exact k
            · have h_77 := pg_b1 h_77
              refine go_iconst (pc' := 81) 5 dX7_kindHere_80 rfl (by decide) ?_
              refine go_goto (pc' := 85) dX7_kindHere_81 (by decide) ?_
              refine go_iret dX7_kindHere_85 (pg_narI _) ?_
              rw [if_pos (by omega), show tnF B L p - 0 = 5 by omega] at k
              exact k
          · have h_63 := pg_b1 h_63
            refine go_iconst (pc' := 67) 4 dX7_kindHere_66 rfl (by decide) ?_
            refine go_goto (pc' := 85) dX7_kindHere_67 (by decide) ?_
            refine go_iret dX7_kindHere_85 (pg_narI _) ?_
            rw [if_pos (by omega), show tnF B L p - 0 = 4 by omega] at k
            exact k
        · have h_49 := pg_b1 h_49
          refine go_iconst (pc' := 53) 3 dX7_kindHere_52 rfl (by decide) ?_
          refine go_goto (pc' := 85) dX7_kindHere_53 (by decide) ?_
          refine go_iret dX7_kindHere_85 (pg_narI _) ?_
          rw [if_pos (by omega), show tnF B L p - 0 = 3 by omega] at k
          exact k
      · have h_35 := pg_b1 h_35
        refine go_iconst (pc' := 39) 2 dX7_kindHere_38 rfl (by decide) ?_
        refine go_goto (pc' := 85) dX7_kindHere_39 (by decide) ?_
        refine go_iret dX7_kindHere_85 (pg_narI _) ?_
        rw [if_pos (by omega), show tnF B L p - 0 = 2 by omega] at k
        exact k
    · have h_21 := pg_b1 h_21
      refine go_iconst (pc' := 25) 1 dX7_kindHere_24 rfl (by decide) ?_
      refine go_goto (pc' := 85) dX7_kindHere_25 (by decide) ?_
      refine go_iret dX7_kindHere_85 (pg_narI _) ?_
      rw [if_pos (by omega), show tnF B L p - 0 = 1 by omega] at k
      exact k
  · have h_7 := pg_b1 h_7
    refine go_iconst (pc' := 11) 0 dX7_kindHere_10 rfl (by decide) ?_
    refine go_goto (pc' := 85) dX7_kindHere_11 (by decide) ?_
    refine go_iret dX7_kindHere_85 (pg_narI _) ?_
    rw [if_pos (by omega), show tnF B L p - 0 = 0 by omega] at k
    exact k

set_option maxHeartbeats 4000000 in
set_option maxRecDepth 20000 in
theorem tX7_pegHere {sc : pg_Sc} {g : pg_S} {K : Int32 → pg_S → Prop} {B : Nat → Nat} {L p : Nat} (h : MTP g B L) (t : MK B L p g) (hp : p ≤ L) (k : K (if 6 ≤ tnF B L p ∧ tnF B L p < 12 then nI (tnF B L p - 6) else -1) g) : pg_Cal sc 2 mX7_pegHere [.ref 59] g (pg_ki K) := by
  refine pg_Cal.of rfl (Nat.le_of_ble_eq_true rfl) rfl ?_
  refine go_aload_n (pc' := 1) dX7_pegHere_0 rfl rfl ?_
  refine go_ldc2 (pc' := 4) dX7_pegHere_1 rfl clRX7_118 ?_
  refine go_cVi1 (pc' := 7) (M' := mX7_isWord) (d' := 1) dX7_pegHere_4 rfl cvRX7_104 rfl rfl (by decide) rfl (Nat.le_of_ble_eq_true rfl) ?_
  refine tX7_isWord (c := 6) h t hp (by decide) (by decide +kernel) ?_
  refine go_if_eq (pc' := 10) (tgt := 14) dX7_pegHere_7 rfl (by decide) (fun h_7 => ?_) (fun h_7 => ?_)
  · have h_7 := pg_b0 h_7
    refine go_aload_n (pc' := 15) dX7_pegHere_14 rfl rfl ?_
    refine go_ldc2 (pc' := 18) dX7_pegHere_15 rfl clRX7_120 ?_
    refine go_cVi1 (pc' := 21) (M' := mX7_isWord) (d' := 1) dX7_pegHere_18 rfl cvRX7_104 rfl rfl (by decide) rfl (Nat.le_of_ble_eq_true rfl) ?_
    refine tX7_isWord (c := 7) h t hp (by decide) (by decide +kernel) ?_
    refine go_if_eq (pc' := 24) (tgt := 28) dX7_pegHere_21 rfl (by decide) (fun h_21 => ?_) (fun h_21 => ?_)
    · have h_21 := pg_b0 h_21
      refine go_aload_n (pc' := 29) dX7_pegHere_28 rfl rfl ?_
      refine go_ldc2 (pc' := 32) dX7_pegHere_29 rfl clRX7_122 ?_
      refine go_cVi1 (pc' := 35) (M' := mX7_isWord) (d' := 1) dX7_pegHere_32 rfl cvRX7_104 rfl rfl (by decide) rfl (Nat.le_of_ble_eq_true rfl) ?_
      refine tX7_isWord (c := 8) h t hp (by decide) (by decide +kernel) ?_
      refine go_if_eq (pc' := 38) (tgt := 42) dX7_pegHere_35 rfl (by decide) (fun h_35 => ?_) (fun h_35 => ?_)
      · have h_35 := pg_b0 h_35
        refine go_aload_n (pc' := 43) dX7_pegHere_42 rfl rfl ?_
        refine go_ldc2 (pc' := 46) dX7_pegHere_43 rfl clRX7_124 ?_
        refine go_cVi1 (pc' := 49) (M' := mX7_isWord) (d' := 1) dX7_pegHere_46 rfl cvRX7_104 rfl rfl (by decide) rfl (Nat.le_of_ble_eq_true rfl) ?_
        refine tX7_isWord (c := 9) h t hp (by decide) (by decide +kernel) ?_
        refine go_if_eq (pc' := 52) (tgt := 56) dX7_pegHere_49 rfl (by decide) (fun h_49 => ?_) (fun h_49 => ?_)
        · have h_49 := pg_b0 h_49
          refine go_aload_n (pc' := 57) dX7_pegHere_56 rfl rfl ?_
          refine go_ldc2 (pc' := 60) dX7_pegHere_57 rfl clRX7_126 ?_
          refine go_cVi1 (pc' := 63) (M' := mX7_isWord) (d' := 1) dX7_pegHere_60 rfl cvRX7_104 rfl rfl (by decide) rfl (Nat.le_of_ble_eq_true rfl) ?_
          refine tX7_isWord (c := 10) h t hp (by decide) (by decide +kernel) ?_
          refine go_if_eq (pc' := 66) (tgt := 70) dX7_pegHere_63 rfl (by decide) (fun h_63 => ?_) (fun h_63 => ?_)
          · have h_63 := pg_b0 h_63
            refine go_aload_n (pc' := 71) dX7_pegHere_70 rfl rfl ?_
            refine go_ldc2 (pc' := 74) dX7_pegHere_71 rfl clRX7_128 ?_
            refine go_cVi1 (pc' := 77) (M' := mX7_isWord) (d' := 1) dX7_pegHere_74 rfl cvRX7_104 rfl rfl (by decide) rfl (Nat.le_of_ble_eq_true rfl) ?_
            refine tX7_isWord (c := 11) h t hp (by decide) (by decide +kernel) ?_
            refine go_if_eq (pc' := 80) (tgt := 84) dX7_pegHere_77 rfl (by decide) (fun h_77 => ?_) (fun h_77 => ?_)
            · have h_77 := pg_b0 h_77
              refine go_iconst (pc' := 85) (-1) dX7_pegHere_84 rfl (by decide) ?_
              refine go_iret dX7_pegHere_85 (pg_narI _) ?_
              rw [if_neg (by omega)] at k
              exact k
            · have h_77 := pg_b1 h_77
              refine go_iconst (pc' := 81) 5 dX7_pegHere_80 rfl (by decide) ?_
              refine go_goto (pc' := 85) dX7_pegHere_81 (by decide) ?_
              refine go_iret dX7_pegHere_85 (pg_narI _) ?_
              rw [if_pos (by omega), show tnF B L p - 6 = 5 by omega] at k
              exact k
          · have h_63 := pg_b1 h_63
            refine go_iconst (pc' := 67) 4 dX7_pegHere_66 rfl (by decide) ?_
            refine go_goto (pc' := 85) dX7_pegHere_67 (by decide) ?_
            refine go_iret dX7_pegHere_85 (pg_narI _) ?_
            rw [if_pos (by omega), show tnF B L p - 6 = 4 by omega] at k
            exact k
        · have h_49 := pg_b1 h_49
          refine go_iconst (pc' := 53) 3 dX7_pegHere_52 rfl (by decide) ?_
          refine go_goto (pc' := 85) dX7_pegHere_53 (by decide) ?_
          refine go_iret dX7_pegHere_85 (pg_narI _) ?_
          rw [if_pos (by omega), show tnF B L p - 6 = 3 by omega] at k
          exact k
      · have h_35 := pg_b1 h_35
        refine go_iconst (pc' := 39) 2 dX7_pegHere_38 rfl (by decide) ?_
        refine go_goto (pc' := 85) dX7_pegHere_39 (by decide) ?_
        refine go_iret dX7_pegHere_85 (pg_narI _) ?_
        rw [if_pos (by omega), show tnF B L p - 6 = 2 by omega] at k
        exact k
    · have h_21 := pg_b1 h_21
      refine go_iconst (pc' := 25) 1 dX7_pegHere_24 rfl (by decide) ?_
      refine go_goto (pc' := 85) dX7_pegHere_25 (by decide) ?_
      refine go_iret dX7_pegHere_85 (pg_narI _) ?_
      rw [if_pos (by omega), show tnF B L p - 6 = 1 by omega] at k
      exact k
  · have h_7 := pg_b1 h_7
    refine go_iconst (pc' := 11) 0 dX7_pegHere_10 rfl (by decide) ?_
    refine go_goto (pc' := 85) dX7_pegHere_11 (by decide) ?_
    refine go_iret dX7_pegHere_85 (pg_narI _) ?_
    rw [if_pos (by omega), show tnF B L p - 6 = 0 by omega] at k
    exact k

set_option maxHeartbeats 4000000 in
set_option maxRecDepth 20000 in
theorem tX7_lawHere {sc : pg_Sc} {g : pg_S} {K : Int32 → pg_S → Prop} {B : Nat → Nat} {L p : Nat} (h : MTP g B L) (t : MK B L p g) (hp : p ≤ L) (k : K (if 12 ≤ tnF B L p ∧ tnF B L p < 16 then nI (tnF B L p - 12) else -1) g) : pg_Cal sc 2 mX7_lawHere [.ref 59] g (pg_ki K) := by
  refine pg_Cal.of rfl (Nat.le_of_ble_eq_true rfl) rfl ?_
  refine go_aload_n (pc' := 1) dX7_lawHere_0 rfl rfl ?_
  refine go_ldc2 (pc' := 4) dX7_lawHere_1 rfl clRX7_130 ?_
  refine go_cVi1 (pc' := 7) (M' := mX7_isWord) (d' := 1) dX7_lawHere_4 rfl cvRX7_104 rfl rfl (by decide) rfl (Nat.le_of_ble_eq_true rfl) ?_
  refine tX7_isWord (c := 12) h t hp (by decide) (by decide +kernel) ?_
  refine go_if_eq (pc' := 10) (tgt := 14) dX7_lawHere_7 rfl (by decide) (fun h_7 => ?_) (fun h_7 => ?_)
  · have h_7 := pg_b0 h_7
    refine go_aload_n (pc' := 15) dX7_lawHere_14 rfl rfl ?_
    refine go_ldc2 (pc' := 18) dX7_lawHere_15 rfl clRX7_132 ?_
    refine go_cVi1 (pc' := 21) (M' := mX7_isWord) (d' := 1) dX7_lawHere_18 rfl cvRX7_104 rfl rfl (by decide) rfl (Nat.le_of_ble_eq_true rfl) ?_
    refine tX7_isWord (c := 13) h t hp (by decide) (by decide +kernel) ?_
    refine go_if_eq (pc' := 24) (tgt := 28) dX7_lawHere_21 rfl (by decide) (fun h_21 => ?_) (fun h_21 => ?_)
    · have h_21 := pg_b0 h_21
      refine go_aload_n (pc' := 29) dX7_lawHere_28 rfl rfl ?_
      refine go_ldc2 (pc' := 32) dX7_lawHere_29 rfl clRX7_134 ?_
      refine go_cVi1 (pc' := 35) (M' := mX7_isWord) (d' := 1) dX7_lawHere_32 rfl cvRX7_104 rfl rfl (by decide) rfl (Nat.le_of_ble_eq_true rfl) ?_
      refine tX7_isWord (c := 14) h t hp (by decide) (by decide +kernel) ?_
      refine go_if_eq (pc' := 38) (tgt := 42) dX7_lawHere_35 rfl (by decide) (fun h_35 => ?_) (fun h_35 => ?_)
      · have h_35 := pg_b0 h_35
        refine go_aload_n (pc' := 43) dX7_lawHere_42 rfl rfl ?_
        refine go_ldc2 (pc' := 46) dX7_lawHere_43 rfl clRX7_136 ?_
        refine go_cVi1 (pc' := 49) (M' := mX7_isWord) (d' := 1) dX7_lawHere_46 rfl cvRX7_104 rfl rfl (by decide) rfl (Nat.le_of_ble_eq_true rfl) ?_
        refine tX7_isWord (c := 15) h t hp (by decide) (by decide +kernel) ?_
        refine go_if_eq (pc' := 52) (tgt := 56) dX7_lawHere_49 rfl (by decide) (fun h_49 => ?_) (fun h_49 => ?_)
        · have h_49 := pg_b0 h_49
          refine go_iconst (pc' := 57) (-1) dX7_lawHere_56 rfl (by decide) ?_
          refine go_iret dX7_lawHere_57 (pg_narI _) ?_
          rw [if_neg (by omega)] at k
          exact k
        · have h_49 := pg_b1 h_49
          refine go_iconst (pc' := 53) 3 dX7_lawHere_52 rfl (by decide) ?_
          refine go_goto (pc' := 57) dX7_lawHere_53 (by decide) ?_
          refine go_iret dX7_lawHere_57 (pg_narI _) ?_
          rw [if_pos (by omega), show tnF B L p - 12 = 3 by omega] at k
          exact k
      · have h_35 := pg_b1 h_35
        refine go_iconst (pc' := 39) 2 dX7_lawHere_38 rfl (by decide) ?_
        refine go_goto (pc' := 57) dX7_lawHere_39 (by decide) ?_
        refine go_iret dX7_lawHere_57 (pg_narI _) ?_
        rw [if_pos (by omega), show tnF B L p - 12 = 2 by omega] at k
        exact k
    · have h_21 := pg_b1 h_21
      refine go_iconst (pc' := 25) 1 dX7_lawHere_24 rfl (by decide) ?_
      refine go_goto (pc' := 57) dX7_lawHere_25 (by decide) ?_
      refine go_iret dX7_lawHere_57 (pg_narI _) ?_
      rw [if_pos (by omega), show tnF B L p - 12 = 1 by omega] at k
      exact k
  · have h_7 := pg_b1 h_7
    refine go_iconst (pc' := 11) 0 dX7_lawHere_10 rfl (by decide) ?_
    refine go_goto (pc' := 57) dX7_lawHere_11 (by decide) ?_
    refine go_iret dX7_lawHere_57 (pg_narI _) ?_
    rw [if_pos (by omega), show tnF B L p - 12 = 0 by omega] at k
    exact k

