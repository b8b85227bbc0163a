theorem cb_bit : ∀ v, v < 256 → ∀ i, i < 8 → (nI v >>> (nI i &&& 31) &&& 1 = 1 ↔ v.testBit i = true) := by decide +kernel
def cJ (K : Nat → Nat) : Nat → Nat → Nat → Nat
  | 0, _, s => s
  | m + 1, i, s => cJ K m (i + 1) (if s.testBit i = true then s ||| K i else s)
def cRn (K : Nat → Nat) (n : Nat) : Nat → Nat → Nat
  | 0, s => s
  | r + 1, s => cRn K n r (cJ K n 0 s)
def cSub (s t : Nat) : Prop := ∀ j, s.testBit j = true → t.testBit j = true
theorem cSub.tr {s t u : Nat} (h : cSub s t) (h' : cSub t u) : cSub s u := fun j q => h' j (h j q)
theorem cJ_sub (K : Nat → Nat) : ∀ (m i s : Nat), cSub s (cJ K m i s)
  | 0, _, _ => fun _ h => h
  | m + 1, i, s => by
    refine cSub.tr ?_ (cJ_sub K m (i + 1) _)
    intro j hj
    split
    · rw [Nat.testBit_or, hj]; rfl
    · exact hj
theorem cJ_lt {K : Nat → Nat} {n : Nat} : ∀ (m i s : Nat), (∀ j, i ≤ j → j < i + m → K j < 2 ^ n) → s < 2 ^ n → cJ K m i s < 2 ^ n
  | 0, _, _, _, h => h
  | m + 1, i, s, hK, h => by
    refine cJ_lt m (i + 1) _ (fun j h1 h2 => hK j (by omega) (by omega)) ?_
    split
    · exact Nat.or_lt_two_pow h (hK i (by omega) (by omega))
    · exact h
def cCn (s : Nat) : Nat → Nat
  | 0 => 0
  | m + 1 => cCn s m + (if s.testBit m = true then 1 else 0)
theorem cCn_le (s : Nat) : ∀ m, cCn s m ≤ m
  | 0 => Nat.le_refl _
  | m + 1 => by
    have := cCn_le s m
    unfold cCn
    split <;> omega
theorem cCn_mono {s t : Nat} (h : cSub s t) : ∀ m, cCn s m ≤ cCn t m
  | 0 => Nat.le_refl _
  | m + 1 => by
    have := cCn_mono h m
    unfold cCn
    by_cases hs : s.testBit m = true
    · rw [if_pos hs, if_pos (h m hs)]; omega
    · rw [if_neg hs]; split <;> omega
theorem cCn_lt {s t : Nat} (h : cSub s t) {j : Nat} (hs : ¬ s.testBit j = true) (ht : t.testBit j = true) : ∀ m, j < m → cCn s m < cCn t m
  | 0, q => absurd q (by omega)
  | m + 1, q => by
    have h1 := cCn_mono h m
    unfold cCn
    by_cases e : j = m
    · subst e
      rw [if_neg hs, if_pos ht]; omega
    · have := cCn_lt h hs ht m (by omega)
      by_cases hs2 : s.testBit m = true
      · rw [if_pos hs2, if_pos (h m hs2)]; omega
      · rw [if_neg hs2]; split <;> omega
theorem cDiff {s t n : Nat} (h : cSub s t) (hs : s < 2 ^ n) (ht : t < 2 ^ n) (hne : ¬ t = s) : ∃ j, j < n ∧ ¬ s.testBit j = true ∧ t.testBit j = true := by
  apply Classical.byContradiction
  intro hno
  apply hne
  apply Nat.eq_of_testBit_eq
  intro j
  by_cases hj : j < n
  · by_cases h1 : s.testBit j = true
    · rw [h1, h j h1]
    · have h2 : ¬ t.testBit j = true := fun q => hno ⟨j, hj, h1, q⟩
      rw [Bool.eq_false_iff.mpr h1, Bool.eq_false_iff.mpr h2]
  · rw [Nat.testBit_lt_two_pow (Nat.lt_of_lt_of_le hs (Nat.pow_le_pow_right (by omega) (by omega))), Nat.testBit_lt_two_pow (Nat.lt_of_lt_of_le ht (Nat.pow_le_pow_right (by omega) (by omega)))]
theorem cRn_fix {K : Nat → Nat} {n s : Nat} (h : cJ K n 0 s = s) : ∀ r, cRn K n r s = s
  | 0 => rfl
  | r + 1 => by
    show cRn K n r (cJ K n 0 s) = s
    rw [h]; exact cRn_fix h r
theorem cRn_stable {K : Nat → Nat} {n : Nat} (hK : ∀ j, j < n → K j < 2 ^ n) : ∀ (r s : Nat), s < 2 ^ n → n ≤ cCn s n + r → cJ K n 0 (cRn K n r s) = cRn K n r s := by
  intro r
  induction r with
  | zero =>
    intro s hs hc
    show cJ K n 0 s = s
    apply Classical.byContradiction
    intro hne
    have hl := cJ_lt (K := K) (n := n) n 0 s (fun j _ h2 => hK j (by omega)) hs
    obtain ⟨j, hj, h1, h2⟩ := cDiff (cJ_sub K n 0 s) hs hl hne
    have h3 := cCn_lt (cJ_sub K n 0 s) h1 h2 n hj
    have h4 := cCn_le (cJ K n 0 s) n
    omega
  | succ r ih =>
    intro s hs hc
    show cJ K n 0 (cRn K n r (cJ K n 0 s)) = cRn K n r (cJ K n 0 s)
    have hl := cJ_lt (K := K) (n := n) n 0 s (fun j _ h2 => hK j (by omega)) hs
    by_cases hne : cJ K n 0 s = s
    · rw [hne, cRn_fix hne r]; exact hne
    · obtain ⟨j, hj, h1, h2⟩ := cDiff (cJ_sub K n 0 s) hs hl hne
      have h3 := cCn_lt (cJ_sub K n 0 s) h1 h2 n hj
      exact ih _ hl (by omega)
theorem cRn_add (K : Nat → Nat) (n b : Nat) : ∀ (a s : Nat), cRn K n (a + b) s = cRn K n b (cRn K n a s)
  | 0, s => by rw [Nat.zero_add]; rfl
  | a + 1, s => by
    rw [show a + 1 + b = (a + b) + 1 by omega]
    exact cRn_add K n b a (cJ K n 0 s)
theorem cRn_8 {K : Nat → Nat} {n s : Nat} (hn : n ≤ 8) (hK : ∀ j, j < n → K j < 2 ^ n) (hs : s < 2 ^ n) : cRn K n 8 s = cRn K n n s := by
  rw [show (8 : Nat) = n + (8 - n) by omega, cRn_add]
  exact cRn_fix (cRn_stable hK n s hs (by omega)) (8 - n)
theorem circJ_n {T : TW} {n : Nat} (wf : WF T n) : ∀ (m i s : Nat), i + m ≤ n → s < 2 ^ n → circJ T m i (nI s) = nI (cJ (fun j => pn (T 6 j)) m i s)
  | 0, _, _, _, _ => rfl
  | m + 1, i, s, hi, hs => by
    have hn := wf.1
    obtain ⟨v, hv, ev⟩ := wf.knows (show i < n by omega)
    have h256 : 2 ^ n ≤ 256 := Nat.pow_le_pow_right (n := 2) (by omega) (show n ≤ 8 by omega)
    have epn : pn (T 6 i) = v := by rw [ev]; exact nI_clamp (by omega)
    unfold circJ cJ
    by_cases hb : s.testBit i = true
    · rw [if_pos ((cb_bit s (by omega) i (by omega)).mpr hb), if_pos hb, ev, fa_or]
      rw [show pn (nI v) = v from nI_clamp (by omega)]
      exact circJ_n wf m (i + 1) _ (by omega) (Nat.or_lt_two_pow hs hv)
    · rw [if_neg (fun q => hb ((cb_bit s (by omega) i (by omega)).mp q)), if_neg hb]
      exact circJ_n wf m (i + 1) _ (by omega) hs
theorem circR_n {T : TW} {n : Nat} (wf : WF T n) : ∀ (r s : Nat), s < 2 ^ n → circR T n r (nI s) = nI (cRn (fun j => pn (T 6 j)) n r s)
  | 0, _, _ => rfl
  | r + 1, s, hs => by
    unfold circR cRn
    rw [circJ_n wf n 0 s (by omega) hs]
    refine circR_n wf r _ (cJ_lt n 0 s (fun j _ hj => ?_) hs)
    obtain ⟨v, hv, ev⟩ := wf.knows (show j < n by omega)
    have h256 : 2 ^ n ≤ 256 := Nat.pow_le_pow_right (n := 2) (by omega) wf.1
    show pn (T 6 j) < 2 ^ n
    rw [ev]
    show (nI v).toNatClampNeg < _
    rw [nI_clamp (by omega)]; exact hv
theorem circ_8 {T : TW} {n p : Nat} (wf : WF T n) (hp : p < n) : circF T n n p = circF T n 8 p := by
  have hn := wf.1
  have hs : 2 ^ p < 2 ^ n := Nat.pow_lt_pow_right (by omega) hp
  unfold circF
  rw [pg_bit p (by omega), circR_n wf n _ hs, circR_n wf 8 _ hs, cRn_8 hn (fun j hj => ?_) hs]
  obtain ⟨v, hv, ev⟩ := wf.knows hj
  have h256 : 2 ^ n ≤ 256 := Nat.pow_le_pow_right (n := 2) (by omega) wf.1
  show pn (T 6 j) < 2 ^ n
  rw [ev]
  show (nI v).toNatClampNeg < _
  rw [nI_clamp (by omega)]; exact hv
theorem cnt_cong {c d : Nat → Bool} : ∀ (m i : Nat) (s : Int32), (∀ j, i ≤ j → j < i + m → c j = d j) → cntF c m i s = cntF d m i s
  | 0, _, _, _ => rfl
  | m + 1, i, s, h => by
    unfold cntF
    rw [h i (by omega) (by omega)]
    exact cnt_cong m (i + 1) _ (fun j h1 h2 => h j (by omega) (by omega))
theorem state_8 {T : TW} {n : Nat} {x : Int32} (wf : WF T n) : stateF T n n x = stateF T n 8 x := by
  unfold stateF
  rw [cnt_cong (c := cirB T n n) (d := cirB T n 8) n 0 0 (fun j _ hj => by unfold cirB; rw [circ_8 wf (by omega)])]
theorem pgs_bits {T : TW} : ∀ (m i u : Nat), (∀ j, i ≤ j → j < i + m → ∃ v, v < 6 ∧ T 3 j = nI v) → u < 64 → ∃ V, V < 64 ∧ orF (pgsF T) m i (nI u) = nI V ∧ ∀ k, k < 6 → (V.testBit k = true ↔ u.testBit k = true ∨ ∃ j, i ≤ j ∧ j < i + m ∧ T 3 j = nI k)
  | 0, i, u, _, hu => ⟨u, hu, rfl, fun k _ => ⟨Or.inl, fun q => q.elim id (fun ⟨j, h1, h2, _⟩ => absurd h1 (by omega))⟩⟩
  | m + 1, i, u, h, hu => by
    obtain ⟨v, hv, ev⟩ := h i (by omega) (by omega)
    have hlt : u ||| 2 ^ v < 64 := Nat.or_lt_two_pow (n := 6) hu (Nat.pow_lt_pow_right (a := 2) (by decide) hv)
    obtain ⟨V, h1, h2, h3⟩ := pgs_bits m (i + 1) (u ||| 2 ^ v) (fun j q1 q2 => h j (by omega) (by omega)) hlt
    refine ⟨V, h1, ?_, fun k hk => ?_⟩
    · unfold orF pgsF
      rw [ev, pg_bit v (by omega), fa_or]
      exact h2
    · rw [h3 k hk, Nat.testBit_or, Bool.or_eq_true, Nat.testBit_two_pow]
      constructor
      · rintro ((q | q) | ⟨j, q1, q2, q3⟩)
        · exact Or.inl q
        · exact Or.inr ⟨i, by omega, by omega, by rw [ev, of_decide_eq_true q]⟩
        · exact Or.inr ⟨j, by omega, by omega, q3⟩
      · rintro (q | ⟨j, q1, q2, q3⟩)
        · exact Or.inl (Or.inl q)
        · by_cases e : j = i
          · subst e
            rw [ev] at q3
            refine Or.inl (Or.inr (decide_eq_true ((nI_eq (by omega) (by omega)).mp q3)))
          · exact Or.inr ⟨j, by omega, by omega, q3⟩
theorem had_bits {T : TW} {k : Nat} : ∀ (m i u : Nat), i + m ≤ 8 → u < 256 → ∃ V, V < 256 ∧ orF (hadF T (nI k)) m i (nI u) = nI V ∧ (V ≠ 0 ↔ u ≠ 0 ∨ ∃ j, i ≤ j ∧ j < i + m ∧ T 3 j = nI k)
  | 0, i, u, _, hu => ⟨u, hu, rfl, ⟨Or.inl, fun q => q.elim id (fun ⟨j, h1, h2, _⟩ => absurd h1 (by omega))⟩⟩
  | m + 1, i, u, hi, hu => by
    by_cases e : T 3 i = nI k
    · have hlt : u ||| 2 ^ i < 256 := Nat.or_lt_two_pow (n := 8) hu (Nat.pow_lt_pow_right (a := 2) (by decide) (by omega))
      obtain ⟨V, h1, h2, h3⟩ := had_bits (T := T) (k := k) m (i + 1) (u ||| 2 ^ i) (by omega) hlt
      refine ⟨V, h1, ?_, ?_⟩
      · unfold orF hadF
        rw [if_pos e, pg_bit i (by omega), fa_or]
        exact h2
      · have hne : u ||| 2 ^ i ≠ 0 := fun q => by
          have : (u ||| 2 ^ i).testBit i = true := by rw [Nat.testBit_or, Nat.testBit_two_pow_self, Bool.or_true]
          rw [q, Nat.zero_testBit] at this
          cases this
        exact ⟨fun _ => Or.inr ⟨i, by omega, by omega, e⟩, fun _ => h3.mpr (Or.inl hne)⟩
    · obtain ⟨V, h1, h2, h3⟩ := had_bits (T := T) (k := k) m (i + 1) u (by omega) hu
      refine ⟨V, h1, ?_, ?_⟩
      · unfold orF hadF
        rw [if_neg e, Int32.or_zero]
        exact h2
      · rw [h3]
        constructor
        · rintro (q | ⟨j, q1, q2, q3⟩)
          · exact Or.inl q
          · exact Or.inr ⟨j, by omega, by omega, q3⟩
        · rintro (q | ⟨j, q1, q2, q3⟩)
          · exact Or.inl q
          · refine Or.inr ⟨j, ?_, by omega, q3⟩
            by_cases e2 : j = i
            · subst e2; exact absurd q3 e
            · omega
theorem bc_cnt : ∀ V, V < 64 → bcF (nI V) = cntF (fun k => V.testBit k) 6 0 0 := by decide +kernel
theorem pegs_6 {T : TW} {n : Nat} (wf : WF T n) : bcF (orF (pgsF T) n 0 0) = cntF (pghB T n) 6 0 0 := by
  have hn := wf.1
  obtain ⟨V, h1, h2, h3⟩ := pgs_bits (T := T) n 0 0 (fun j _ hj => (wf.2.2.2.2 j (by omega)).2.1) (by decide)
  have h2' : orF (pgsF T) n 0 0 = nI V := h2
  rw [h2', bc_cnt V h1]
  refine cnt_cong 6 0 0 (fun k _ hk => ?_)
  obtain ⟨U, u1, u2, u3⟩ := had_bits (T := T) (k := k) n 0 0 (by omega) (by decide)
  have u2' : orF (hadF T (nI k)) n 0 0 = nI U := u2
  have hU : nI U ≠ 0 ↔ U ≠ 0 := not_congr (nI_eq (b := 0) (by omega) (by decide))
  apply Bool.eq_iff_iff.mpr
  rw [pghB_iff, u2', hU, u3, h3 k (by omega)]
  constructor
  · rintro (q | q)
    · rw [Nat.zero_testBit] at q; cases q
    · exact Or.inr q
  · rintro (q | q)
    · exact absurd rfl q
    · exact Or.inr q
