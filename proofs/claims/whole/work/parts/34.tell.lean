abbrev Sg : Type := Bool × Nat
abbrev PR : Type := Nat ⊕ (Nat × TW × Nat)
def wWord (B : Nat → Nat) (L c : Nat) (s : Sg) : Sg := if s.1 = true ∧ tnF B L s.2 = c then (true, enF B L s.2) else (false, s.2)
def wNum (B : Nat → Nat) (L c : Nat) (s : Sg) : Sg := if s.1 = true ∧ nbF B L s.2 ≤ c then (true, enF B L s.2) else (false, s.2)
def wEnd (B : Nat → Nat) (L : Nat) (s : Sg) : Sg := if s.1 = true ∧ SM B L s.2 then (true, enF B L s.2) else (false, s.2)
def wPeg (B : Nat → Nat) (L : Nat) (s : Sg) : Sg := if s.1 = true ∧ (6 ≤ tnF B L s.2 ∧ tnF B L s.2 < 12) then (true, enF B L s.2) else (false, s.2)
def s1F (B : Nat → Nat) (L n p : Nat) : Sg := if n < 8 then (true, enF B L p) else (false, p)
def s4F (B : Nat → Nat) (L : Nat) (s : Sg) : Sg := if s.1 = true ∧ tnF B L s.2 = 17 then wNum B L 99 (true, enF B L s.2) else s
def s5F (B : Nat → Nat) (L : Nat) (s : Sg) : Sg := if s.1 = true ∧ tnF B L s.2 = 18 then wPeg B L (true, enF B L s.2) else s
def ageN (B : Nat → Nat) (L : Nat) (s : Sg) : Nat := if s.1 = true ∧ tnF B L s.2 = 17 then nbF B L (enF B L s.2) else 0
def pegN (B : Nat → Nat) (L : Nat) (s : Sg) : Nat := if s.1 = true ∧ tnF B L s.2 = 18 then tnF B L (enF B L s.2) - 6 else 0
def finF (s : Sg) (T : TW) (n : Nat) : PR := if s.1 = true then .inr (s.2, T, n) else .inl s.2
def s2F (B : Nat → Nat) (L n p : Nat) : Sg := wWord B L 16 (s1F B L n p)
def s3F (B : Nat → Nat) (L n p : Nat) : Sg := wNum B L 11 (s2F B L n p)
def perF (B : Nat → Nat) (L kd : Nat) (T : TW) (n p : Nat) : PR := finF (wEnd B L (s5F B L (s4F B L (s3F B L n p)))) (admF T n (nI kd) (nI (pegN B L (s4F B L (s3F B L n p)))) (nI (ageN B L (s3F B L n p))) (nI (nbF B L (s2F B L n p).2))) (n + 1)
def weiF (B : Nat → Nat) (L x : Nat) (T : TW) (n p : Nat) : PR := finF (wEnd B L (wNum B L 99 (wWord B L 19 (true, enF B L p)))) (tu T 1 x (nI (nbF B L (wWord B L 19 (true, enF B L p)).2))) n
def mstN (x : Nat) : Nat := if x = 3 then 99 else 9
def lawF (B : Nat → Nat) (L x : Nat) (T : TW) (n p : Nat) : PR := finF (wEnd B L (wNum B L (mstN x) (true, enF B L p))) (tu T 0 x (nI (nbF B L (enF B L p)))) n
def clauF (B : Nat → Nat) (L : Nat) (T : TW) (n p : Nat) : PR := if tnF B L p < 6 then perF B L (tnF B L p) T n p else if tnF B L p < 12 then weiF B L (tnF B L p - 6) T n p else if tnF B L p < 16 then lawF B L (tnF B L p - 12) T n p else .inl p
def telN (f : Nat → TW → Nat → PR) : PR → PR
  | .inl q => .inl q
  | .inr (q, T, n) => f q T n
def telF (B : Nat → Nat) (L : Nat) : Nat → Nat → TW → Nat → PR
  | 0, p, T, n => .inr (p, T, n)
  | m + 1, p, T, n => if soF B L p = 0 then .inr (p, T, n) else telN (telF B L m) (clauF B L T n p)
theorem wW_y {B : Nat → Nat} {L c q : Nat} (h : tnF B L q = c) : wWord B L c (true, q) = (true, enF B L q) := if_pos ⟨rfl, h⟩
theorem wW_n {B : Nat → Nat} {L c q : Nat} (h : ¬ tnF B L q = c) : wWord B L c (true, q) = (false, q) := if_neg (fun z => h z.2)
theorem wW_d {B : Nat → Nat} {L c q : Nat} : wWord B L c (false, q) = (false, q) := if_neg (fun z => absurd z.1 (show ¬ false = true by decide))
theorem wN_y {B : Nat → Nat} {L c q : Nat} (h : nbF B L q ≤ c) : wNum B L c (true, q) = (true, enF B L q) := if_pos ⟨rfl, h⟩
theorem wN_n {B : Nat → Nat} {L c q : Nat} (h : ¬ nbF B L q ≤ c) : wNum B L c (true, q) = (false, q) := if_neg (fun z => h z.2)
theorem wN_d {B : Nat → Nat} {L c q : Nat} : wNum B L c (false, q) = (false, q) := if_neg (fun z => absurd z.1 (show ¬ false = true by decide))
theorem wE_y {B : Nat → Nat} {L q : Nat} (h : SM B L q) : wEnd B L (true, q) = (true, enF B L q) := if_pos ⟨rfl, h⟩
theorem wE_n {B : Nat → Nat} {L q : Nat} (h : ¬ SM B L q) : wEnd B L (true, q) = (false, q) := if_neg (fun z => h z.2)
theorem wE_d {B : Nat → Nat} {L q : Nat} : wEnd B L (false, q) = (false, q) := if_neg (fun z => absurd z.1 (show ¬ false = true by decide))
theorem wP_y {B : Nat → Nat} {L q : Nat} (h : 6 ≤ tnF B L q ∧ tnF B L q < 12) : wPeg B L (true, q) = (true, enF B L q) := if_pos ⟨rfl, h⟩
theorem wP_n {B : Nat → Nat} {L q : Nat} (h : ¬ (6 ≤ tnF B L q ∧ tnF B L q < 12)) : wPeg B L (true, q) = (false, q) := if_neg (fun z => h z.2)
theorem s4_y {B : Nat → Nat} {L q : Nat} (h : tnF B L q = 17) : s4F B L (true, q) = wNum B L 99 (true, enF B L q) := if_pos ⟨rfl, h⟩
theorem s4_n {B : Nat → Nat} {L q : Nat} (h : ¬ tnF B L q = 17) : s4F B L (true, q) = (true, q) := if_neg (fun z => h z.2)
theorem s4_d {B : Nat → Nat} {L q : Nat} : s4F B L (false, q) = (false, q) := if_neg (fun z => absurd z.1 (show ¬ false = true by decide))
theorem s5_y {B : Nat → Nat} {L q : Nat} (h : tnF B L q = 18) : s5F B L (true, q) = wPeg B L (true, enF B L q) := if_pos ⟨rfl, h⟩
theorem s5_n {B : Nat → Nat} {L q : Nat} (h : ¬ tnF B L q = 18) : s5F B L (true, q) = (true, q) := if_neg (fun z => h z.2)
theorem s5_d {B : Nat → Nat} {L q : Nat} : s5F B L (false, q) = (false, q) := if_neg (fun z => absurd z.1 (show ¬ false = true by decide))
theorem ag_y {B : Nat → Nat} {L q : Nat} (h : tnF B L q = 17) : ageN B L (true, q) = nbF B L (enF B L q) := if_pos ⟨rfl, h⟩
theorem ag_n {B : Nat → Nat} {L q : Nat} (h : ¬ tnF B L q = 17) : ageN B L (true, q) = 0 := if_neg (fun z => h z.2)
theorem pg_y {B : Nat → Nat} {L q : Nat} (h : tnF B L q = 18) : pegN B L (true, q) = tnF B L (enF B L q) - 6 := if_pos ⟨rfl, h⟩
theorem pg_n {B : Nat → Nat} {L q : Nat} (h : ¬ tnF B L q = 18) : pegN B L (true, q) = 0 := if_neg (fun z => h z.2)
theorem fin_t {q : Nat} {T : TW} {n : Nat} : finF (true, q) T n = .inr (q, T, n) := if_pos rfl
theorem fin_f {q : Nat} {T : TW} {n : Nat} : finF (false, q) T n = .inl q := if_neg (fun z => absurd z (show ¬ false = true by decide))
theorem WF.law {T : TW} {n i v : Nat} (h : WF T n) (hi : i < 4) (hv : v ≤ mstN i) : WF (tu T 0 i (nI v)) n := by
  obtain ⟨h1, h2, h3, h4, h5⟩ := h
  unfold mstN at hv
  refine ⟨h1, fun j hj => ?_, ?_, fun j hj => ?_, fun p hp => ?_⟩
  · unfold tu
    split
    · rename_i z
      rw [if_neg (by omega)] at hv
      exact ⟨v, hv, rfl⟩
    · exact h2 j hj
  · unfold tu
    split
    · rename_i z
      rw [if_pos (by omega)] at hv
      exact ⟨v, hv, rfl⟩
    · exact h3
  · rw [tu_na (by omega)]; exact h4 j hj
  · rw [tu_na (b := 2) (by omega), tu_na (b := 3) (by omega), tu_na (b := 4) (by omega), tu_na (b := 5) (by omega), tu_na (b := 6) (by omega)]
    exact h5 p hp
theorem WF.wei {T : TW} {n i v : Nat} (h : WF T n) (hv : v ≤ 99) : WF (tu T 1 i (nI v)) n := by
  obtain ⟨h1, h2, h3, h4, h5⟩ := h
  refine ⟨h1, fun j hj => ?_, ?_, fun j hj => ?_, fun p hp => ?_⟩
  · rw [tu_na (by omega)]; exact h2 j hj
  · rw [tu_na (by omega)]; exact h3
  · unfold tu
    split
    · exact ⟨v, hv, rfl⟩
    · exact h4 j hj
  · rw [tu_na (b := 2) (by omega), tu_na (b := 3) (by omega), tu_na (b := 4) (by omega), tu_na (b := 5) (by omega), tu_na (b := 6) (by omega)]
    exact h5 p hp
theorem WF.adm {T : TW} {n kd pg ag pl : Nat} (h : WF T n) (hn : n < 8) (h1 : kd < 6) (h2 : pg < 6) (h3 : ag ≤ 99) (h4 : pl < 12) : WF (admF T n (nI kd) (nI pg) (nI ag) (nI pl)) (n + 1) := by
  obtain ⟨q1, q2, q3, q4, q5⟩ := h
  refine ⟨by omega, fun j hj => ?_, ?_, fun j hj => ?_, fun p hp => ?_⟩
  · have e := q2 j hj
    unfold admF
    simpa [tu] using e
  · have e := q3
    unfold admF
    simpa [tu] using e
  · have e := q4 j hj
    unfold admF
    simpa [tu] using e
  · by_cases e : p = n
    · subst e
      unfold admF
      refine ⟨⟨kd, h1, ?_⟩, ⟨pg, h2, ?_⟩, ⟨ag, h3, ?_⟩, ⟨pl, h4, ?_⟩, ⟨0, Nat.pow_pos (by omega), ?_⟩⟩ <;> simp [tu]
      rfl
    · obtain ⟨r1, r2, r3, r4, ⟨v, hv, ev⟩⟩ := q5 p (by omega)
      unfold admF
      refine ⟨?_, ?_, ?_, ?_, ⟨v, Nat.lt_of_lt_of_le hv (Nat.pow_le_pow_right (by omega) (by omega)), ?_⟩⟩
      · simpa [tu, e] using r1
      · simpa [tu, e] using r2
      · simpa [tu, e] using r3
      · simpa [tu, e] using r4
      · simpa [tu, e] using ev
def PRW : PR → Prop
  | .inl _ => True
  | .inr (_, T, n) => WF T n
theorem fin_wf {s : Sg} {T : TW} {n : Nat} (h : s.1 = true → WF T n) : PRW (finF s T n) := by
  unfold finF
  split
  · rename_i z; exact h z
  · trivial
theorem wE_1 {B : Nat → Nat} {L : Nat} {s : Sg} (h : (wEnd B L s).1 = true) : s.1 = true := by
  unfold wEnd at h
  split at h
  · rename_i z; exact z.1
  · exact absurd h (show ¬ false = true by decide)
theorem wN_1 {B : Nat → Nat} {L c : Nat} {s : Sg} (h : (wNum B L c s).1 = true) : s.1 = true ∧ nbF B L s.2 ≤ c := by
  unfold wNum at h
  split at h
  · rename_i z; exact z
  · exact absurd h (show ¬ false = true by decide)
theorem wW_1 {B : Nat → Nat} {L c : Nat} {s : Sg} (h : (wWord B L c s).1 = true) : s.1 = true := by
  unfold wWord at h
  split at h
  · rename_i z; exact z.1
  · exact absurd h (show ¬ false = true by decide)
theorem s5_1 {B : Nat → Nat} {L : Nat} {s : Sg} (h : (s5F B L s).1 = true) : s.1 = true ∧ pegN B L s < 6 := by
  unfold s5F at h
  unfold pegN
  split at h
  · rename_i z
    rw [if_pos z]
    unfold wPeg at h
    split at h
    · rename_i y
      have y2 : 6 ≤ tnF B L (enF B L s.2) ∧ tnF B L (enF B L s.2) < 12 := y.2
      exact ⟨z.1, by omega⟩
    · exact absurd h (show ¬ false = true by decide)
  · rename_i z
    rw [if_neg z]
    exact ⟨h, by decide⟩
theorem s4_1 {B : Nat → Nat} {L : Nat} {s : Sg} (h : (s4F B L s).1 = true) : s.1 = true ∧ ageN B L s ≤ 99 := by
  unfold s4F at h
  unfold ageN
  split at h
  · rename_i z
    rw [if_pos z]
    exact ⟨z.1, (wN_1 h).2⟩
  · rename_i z
    rw [if_neg z]
    exact ⟨h, by decide⟩
theorem clau_wf {B : Nat → Nat} {L : Nat} {T : TW} {n p : Nat} (wf : WF T n) : PRW (clauF B L T n p) := by
  unfold clauF
  split
  · rename_i h6
    refine fin_wf (fun h => ?_)
    obtain ⟨a1, a2⟩ := s5_1 (wE_1 h)
    obtain ⟨b1, b2⟩ := s4_1 a1
    obtain ⟨c1, c2⟩ := wN_1 (s := s2F B L n p) b1
    have d1 : (s1F B L n p).1 = true := wW_1 c1
    have hn : n < 8 := by
      unfold s1F at d1
      split at d1
      · assumption
      · exact absurd d1 (show ¬ false = true by decide)
    exact wf.adm hn h6 a2 b2 (by omega)
  · split
    · refine fin_wf (fun h => ?_)
      obtain ⟨a1, a2⟩ := wN_1 (wE_1 h)
      exact wf.wei a2
    · split
      · refine fin_wf (fun h => ?_)
        obtain ⟨a1, a2⟩ := wN_1 (wE_1 h)
        exact wf.law (by omega) a2
      · trivial
theorem CR.fs {g g' : pg_S} {t n a b c d : Nat} {T : TW} (h : CR g t T n) (f : FS a b c d g g') (h1 : ∀ x, t ≤ x → x < t + 9 → ¬ (a ≤ x ∧ x < b) ∧ ¬ (c ≤ x ∧ x < d)) : CR g' t T n := by
  have e : ∀ x, t ≤ x → x < t + 9 → g'.1 x = g.1 x := fun x p q => f.1 x (h1 x p q).1 (h1 x p q).2
  obtain ⟨q1, q2, q3, q4, q5⟩ := h
  refine ⟨q1, fun j hj => ?_, fun j hj => ?_, fun j hj => ?_, fun k hk1 hk2 j hj => ?_⟩
  · rw [e t (by omega) (by omega)]; exact q2 j hj
  · rw [e (t + 1) (by omega) (by omega)]; exact q3 j hj
  · rw [e (t + 2) (by omega) (by omega)]; exact q4 j hj
  · rw [e (t + 1 + k) (by omega) (by omega)]; exact q5 k hk1 hk2 j hj
/-- where the class stands after a sentence -/
def PKc (B : Nat → Nat) (L : Nat) (g : pg_S) : PR → Prop
  | .inl q => TK B L q g ∧ q ≤ L
  | .inr (q, T, n) => TK B L q g ∧ q ≤ L ∧ CR g 10 T n
def rI : PR → Int32
  | .inl _ => 0
  | .inr _ => 1
theorem pN {sc : pg_Sc} {g : pg_S} {K : Int32 → pg_S → Prop} {B : Nat → Nat} {L p : Nat} {f : Nat} (h : TP g B L) (t : TK B L p g) (hp : p ≤ L) (hf : f < 20) (k : ∀ g', TP g' B L → TK B L (if tnF B L p = f then enF B L p else p) g' → g'.1 28 6 = g.1 28 6 → FR 28 29 g g' → K (if tnF B L p = f then 1 else 0) g') : pg_Cal sc 9 mX4_passName [.ref 28, .int (nI f)] g (pg_ki K) := by
  refine tX4_passName h t hp hf (fun q => ?_) (fun q g' a b c d => ?_)
  · have kk := k g h (by rw [if_neg q]; exact t) rfl FR.rf
    rw [if_neg q] at kk
    exact kk
  · have kk := k g' a (by rw [if_pos q]; exact b) c d
    rw [if_pos q] at kk
    exact kk
theorem pS {sc : pg_Sc} {g : pg_S} {K : Int32 → pg_S → Prop} {B : Nat → Nat} {L p : Nat} (h : TP g B L) (t : TK B L p g) (hp : p ≤ L) (k : ∀ g', TP g' B L → TK B L (if SM B L p then enF B L p else p) g' → g'.1 28 6 = g.1 28 6 → FR 28 29 g g' → K (if SM B L p then 1 else 0) g') : pg_Cal sc 9 mX4_passSemicolon [.ref 28] g (pg_ki K) := by
  refine tX4_passSemicolon h t hp (fun q => ?_) (fun q g' a b c d => ?_)
  · have kk := k g h (by rw [if_neg q]; exact t) rfl FR.rf
    rw [if_neg q] at kk
    exact kk
  · have kk := k g' a (by rw [if_pos q]; exact b) c d
    rw [if_pos q] at kk
    exact kk
theorem pB {sc : pg_Sc} {g : pg_S} {K : Int32 → pg_S → Prop} {B : Nat → Nat} {L p : Nat} {f : Nat} (h : TP g B L) (t : TK B L p g) (hp : p ≤ L) (hf : f < 1000) (k : ∀ g', TP g' B L → TK B L (if nbF B L p ≤ f then enF B L p else p) g' → (nbF B L p ≤ f → g'.1 28 6 = nI (nbF B L p)) → FR 28 29 g g' → K (if nbF B L p ≤ f then 1 else 0) g') : pg_Cal sc 9 mX4_passNumber [.ref 28, .int (nI f)] g (pg_ki K) := by
  refine tX4_passNumber h t hp hf (fun q => ?_) (fun q g' a b c d => ?_)
  · have kk := k g h (by rw [if_neg q]; exact t) (fun z => absurd z q) FR.rf
    rw [if_neg q] at kk
    exact kk
  · have kk := k g' a (by rw [if_pos q]; exact b) (fun _ => c) d
    rw [if_pos q] at kk
    exact kk
theorem s1_y {B : Nat → Nat} {L n p : Nat} (h : n < 8) : s1F B L n p = (true, enF B L p) := if_pos h
theorem s1_n {B : Nat → Nat} {L n p : Nat} (h : ¬ n < 8) : s1F B L n p = (false, p) := if_neg h
theorem TP.fr {g g' : pg_S} {B : Nat → Nat} {L : Nat} (h : TP g B L) (f : FR 10 19 g g') : TP g' B L := by
  unfold TP at h ⊢
  rw [f.1 28 (by decide), f.1 29 (by decide)]
  exact h
theorem TK.fr {g g' : pg_S} {B : Nat → Nat} {L p : Nat} (h : TK B L p g) (f : FR 10 19 g g') : TK B L p g' := by
  unfold TK at h ⊢
  rw [f.1 28 (by decide)]
  exact h
theorem tn_val {g : pg_S} {B : Nat → Nat} {L p : Nat} (hL : L ≤ 200) (hp : p ≤ L) (t : TK B L p g) (h : tnF B L p < 20) : g.1 28 5 = nI (tnF B L p) := by
  rcases tn_at (B := B) hL hp with ⟨q, c, hc, hs, e, r⟩ | ⟨q, r⟩
  · rw [t.2.2.2.1 q, e, r]
  · omega
set_option maxHeartbeats 4000000 in
set_option maxRecDepth 20000 in
theorem tX4_tellPerson {sc : pg_Sc} {g : pg_S} {K : Int32 → pg_S → Prop} {B : Nat → Nat} {L kd p n : Nat} {T : TW} (h : CR g 10 T n) (hT : TP g B L) (t : TK B L p g) (hp : p ≤ L) (wn : n ≤ 8) (k : ∀ g', TP g' B L → PKc B L g' (perF B L kd T n p) → FS 10 19 28 29 g g' → K (rI (perF B L kd T n p)) g') : pg_Cal sc 10 mX4_tellPerson [.ref 28, .ref 10, .int (nI kd)] g (pg_ki K) := by
  refine pg_Cal.of rfl (Nat.le_of_ble_eq_true rfl) rfl ?_
  have b1 := en_le (B := B) hp
  have b2 := en_le (B := B) b1
  have b3 := en_le (B := B) b2
  have b4 := en_le (B := B) b3
  have b5 := en_le (B := B) b4
  have b6 := en_le (B := B) b5
  have b7 := en_le (B := B) b6
  have b8 := en_le (B := B) b7
  refine go_aload_n (pc' := 1) dX4_tellPerson_0 rfl rfl ?_
  refine go_getI (pc' := 4) dX4_tellPerson_1 rfl flRX4_51 rfl rfl ?_
  rw [c10_people h]
  refine go_bipush (pc' := 6) 8 dX4_tellPerson_4 rfl (by decide) ?_
  refine go_icmp_lt (pc' := 9) (tgt := 11) dX4_tellPerson_6 rfl (by decide) (fun h_6 => ?_) (fun h_6 => ?_)
  · have hn8 : n < 8 := (nI_ltI (b := 8) (by omega) (by decide)).mp h_6
    refine go_aload_n (pc' := 12) dX4_tellPerson_11 rfl rfl ?_
    refine go_cVv0 (pc' := 15) (M' := mX4_advance) (d' := 8) dX4_tellPerson_12 rfl cvRX4_34 rfl rfl (by decide) rfl (Nat.le_of_ble_eq_true rfl) ?_
    refine tX4_advance hT t.1 b1 (fun g1 T1 t1 n1 f1 => ?_)
    have F1 : FR 28 29 g g1 := f1
    refine go_aload_n (pc' := 16) dX4_tellPerson_15 rfl rfl ?_
    refine go_bipush (pc' := 18) 16 dX4_tellPerson_16 rfl (by decide) ?_
    refine go_cVi1 (pc' := 21) (M' := mX4_passName) (d' := 9) dX4_tellPerson_18 rfl cvRX4_56 rfl rfl (by decide) rfl (Nat.le_of_ble_eq_true rfl) ?_
    refine pN (f := 16) T1 t1 b1 (by decide) (fun g2 T2 t2 n2 f2 => ?_)
    have F2 : FR 28 29 g g2 := FR.tr F1 f2
    refine go_if_eq (pc' := 24) (tgt := 33) dX4_tellPerson_21 rfl (by decide) (fun h_21 => ?_) (fun h_21 => ?_)
    · have h_21 := pg_b0 h_21
      rw [if_neg h_21] at t2
      refine go_iconst (pc' := 34) 0 dX4_tellPerson_33 rfl (by decide) ?_
      refine go_iret dX4_tellPerson_34 (by first | exact pg_nar1 | exact pg_nar0 | exact pg_narB) ?_
      have e : perF B L kd T n p = .inl (enF B L p) := by
        unfold perF s3F s2F
        rw [s1_y hn8, wW_n h_21, wN_d, s4_d, s5_d, wE_d, fin_f]
      rw [e] at k
      exact k g2 T2 ⟨t2, by first | exact hp | exact en_le (by first | exact hp | assumption)⟩ (FS.r F2 (by decide) (by decide))
    · have h_21 := pg_b1 h_21
      rw [if_pos h_21] at t2
      refine go_aload_n (pc' := 25) dX4_tellPerson_24 rfl rfl ?_
      refine go_bipush (pc' := 27) 11 dX4_tellPerson_25 rfl (by decide) ?_
      refine go_cVi1 (pc' := 30) (M' := mX4_passNumber) (d' := 9) dX4_tellPerson_27 rfl cvRX4_60 rfl rfl (by decide) rfl (Nat.le_of_ble_eq_true rfl) ?_
      refine pB (f := 11) T2 t2 b2 (by decide) (fun g3 T3 t3 n3 f3 => ?_)
      have F3 : FR 28 29 g g3 := FR.tr F2 f3
      refine go_if_ne (pc' := 33) (tgt := 35) dX4_tellPerson_30 rfl (by decide) (fun h_30 => ?_) (fun h_30 => ?_)
      · have h_30 := pg_b1 h_30
        rw [if_pos h_30] at t3
        refine go_aload_n (pc' := 36) dX4_tellPerson_35 rfl rfl ?_
        refine go_getI (pc' := 39) dX4_tellPerson_36 rfl flRX4_31 rfl rfl ?_
        rw [n3 h_30]
        refine go_istore_n (pc' := 40) dX4_tellPerson_39 rfl (by decide) rfl ?_
        refine go_iconst (pc' := 41) 0 dX4_tellPerson_40 rfl (by decide) ?_
        refine go_istore (pc' := 43) dX4_tellPerson_41 rfl (by decide) rfl ?_
        refine go_aload_n (pc' := 44) dX4_tellPerson_43 rfl rfl ?_
        refine go_bipush (pc' := 46) 17 dX4_tellPerson_44 rfl (by decide) ?_
        refine go_cVi1 (pc' := 49) (M' := mX4_passName) (d' := 9) dX4_tellPerson_46 rfl cvRX4_56 rfl rfl (by decide) rfl (Nat.le_of_ble_eq_true rfl) ?_
        refine pN (f := 17) T3 t3 b3 (by decide) (fun g4 T4 t4 n4 f4 => ?_)
        have F4 : FR 28 29 g g4 := FR.tr F3 f4
        refine go_if_eq (pc' := 52) (tgt := 69) dX4_tellPerson_49 rfl (by decide) (fun h_49 => ?_) (fun h_49 => ?_)
        · have h_49 := pg_b0 h_49
          rw [if_neg h_49] at t4
          refine go_iconst (pc' := 70) 0 dX4_tellPerson_69 rfl (by decide) ?_
          refine go_istore (pc' := 72) dX4_tellPerson_70 rfl (by decide) rfl ?_
          refine go_aload_n (pc' := 73) dX4_tellPerson_72 rfl rfl ?_
          refine go_bipush (pc' := 75) 18 dX4_tellPerson_73 rfl (by decide) ?_
          refine go_cVi1 (pc' := 78) (M' := mX4_passName) (d' := 9) dX4_tellPerson_75 rfl cvRX4_56 rfl rfl (by decide) rfl (Nat.le_of_ble_eq_true rfl) ?_
          refine pN (f := 18) T4 t4 b3 (by decide) (fun g6 T6 t6 n6 f6 => ?_)
          have F6 : FR 28 29 g g6 := FR.tr F4 f6
          refine go_if_eq (pc' := 81) (tgt := 107) dX4_tellPerson_78 rfl (by decide) (fun h_78 => ?_) (fun h_78 => ?_)
          · have h_78 := pg_b0 h_78
            rw [if_neg h_78] at t6
            refine go_aload_n (pc' := 108) dX4_tellPerson_107 rfl rfl ?_
            refine go_cVi0 (pc' := 111) (M' := mX4_passSemicolon) (d' := 9) dX4_tellPerson_108 rfl cvRX4_63 rfl rfl (by decide) rfl (Nat.le_of_ble_eq_true rfl) ?_
            refine pS T6 t6 b3 (fun g8 T8 t8 n8 f8 => ?_)
            have F8 : FR 28 29 g g8 := FR.tr F6 f8
            refine go_if_ne (pc' := 114) (tgt := 116) dX4_tellPerson_111 rfl (by decide) (fun h_111 => ?_) (fun h_111 => ?_)
            · have h_111 := pg_b1 h_111
              rw [if_pos h_111] at t8
              refine go_aload_n (pc' := 117) dX4_tellPerson_116 rfl rfl ?_
              refine go_iload_n (pc' := 118) dX4_tellPerson_117 rfl rfl ?_
              refine go_iload (pc' := 120) dX4_tellPerson_118 rfl rfl ?_
              refine go_iload (pc' := 122) dX4_tellPerson_120 rfl rfl ?_
              refine go_iload_n (pc' := 123) dX4_tellPerson_122 rfl rfl ?_
              refine go_cVi4 (pc' := 126) (M' := mX5_admit) (d' := 1) dX4_tellPerson_123 rfl cvRX4_67 rfl rfl (by decide) rfl (Nat.le_of_ble_eq_true rfl) ?_
              refine tX5_admit_10 (h.fr F8 (by decide)) hn8 (fun g9 c9 f9 => ?_)
              have F9 : FS 10 19 28 29 g g9 := FS.tr (FS.r F8 (by decide) (by decide)) (FS.l f9 (by decide) (by decide))
              have T9 : TP g9 B L := T8.fr f9
              have t9 := t8.fr f9
              refine go_pop (pc' := 127) dX4_tellPerson_126 rfl rfl ?_
              refine go_iconst (pc' := 128) 1 dX4_tellPerson_127 rfl (by decide) ?_
              refine go_iret dX4_tellPerson_128 (by first | exact pg_nar1 | exact pg_nar0 | exact pg_narB) ?_
              have e : perF B L kd T n p = .inr ((enF B L (enF B L (enF B L (enF B L p)))), admF T n (nI kd) (nI (0)) (nI (0)) (nI (nbF B L (enF B L (enF B L p)))), n + 1) := by
                unfold perF s3F s2F
                rw [s1_y hn8, wW_y h_21, wN_y h_30, s4_n h_49, s5_n h_78, wE_y h_111, fin_t, ag_n h_49, pg_n h_78]
              rw [e] at k
              exact k g9 T9 ⟨t9, by first | exact en_le (by assumption), c9⟩ F9
            · have h_111 := pg_b0 h_111
              rw [if_neg h_111] at t8
              refine go_iconst (pc' := 115) 0 dX4_tellPerson_114 rfl (by decide) ?_
              refine go_iret dX4_tellPerson_115 (by first | exact pg_nar1 | exact pg_nar0 | exact pg_narB) ?_
              have e : perF B L kd T n p = .inl (enF B L (enF B L (enF B L p))) := by
                unfold perF s3F s2F
                rw [s1_y hn8, wW_y h_21, wN_y h_30, s4_n h_49, s5_n h_78, wE_n h_111, fin_f]
              rw [e] at k
              exact k g8 T8 ⟨t8, by first | exact hp | exact en_le (by first | exact hp | assumption)⟩ (FS.r F8 (by decide) (by decide))
          · have h_78 := pg_b1 h_78
            rw [if_pos h_78] at t6
            refine go_aload_n (pc' := 82) dX4_tellPerson_81 rfl rfl ?_
            refine go_bipush (pc' := 84) 6 dX4_tellPerson_82 rfl (by decide) ?_
            refine go_bipush (pc' := 86) 6 dX4_tellPerson_84 rfl (by decide) ?_
            refine go_cVi2 (pc' := 89) (M' := mX4_isNameFrom) (d' := 1) dX4_tellPerson_86 rfl cvRX4_37 rfl rfl (by decide) rfl (Nat.le_of_ble_eq_true rfl) ?_
            refine tX4_isNameFrom (f := 6) (c := 6) T6 t6 b4 (by decide) ?_
            refine go_if_ne (pc' := 92) (tgt := 94) dX4_tellPerson_89 rfl (by decide) (fun h_89 => ?_) (fun h_89 => ?_)
            · have h_89 := pg_b1 h_89
              have hnm : g6.1 28 5 = nI (tnF B L (enF B L (enF B L (enF B L (enF B L p))))) := tn_val (T6.2.1) b4 t6 (by omega)
              refine go_aload_n (pc' := 95) dX4_tellPerson_94 rfl rfl ?_
              refine go_getI (pc' := 98) dX4_tellPerson_95 rfl flRX4_28 rfl rfl ?_
              rw [hnm]
              refine go_bipush (pc' := 100) 6 dX4_tellPerson_98 rfl (by decide) ?_
              refine go_isub (pc' := 101) dX4_tellPerson_100 rfl ?_
              rw [show (6 : Int32) = nI 6 from rfl, pk_sub h_89.1]
              refine go_istore (pc' := 103) dX4_tellPerson_101 rfl (by decide) rfl ?_
              refine go_aload_n (pc' := 104) dX4_tellPerson_103 rfl rfl ?_
              refine go_cVv0 (pc' := 107) (M' := mX4_advance) (d' := 8) dX4_tellPerson_104 rfl cvRX4_34 rfl rfl (by decide) rfl (Nat.le_of_ble_eq_true rfl) ?_
              refine tX4_advance T6 t6.1 (en_le b4) (fun g7 T7 t7 n7 f7 => ?_)
              have F7 : FR 28 29 g g7 := FR.tr F6 f7
              refine go_aload_n (pc' := 108) dX4_tellPerson_107 rfl rfl ?_
              refine go_cVi0 (pc' := 111) (M' := mX4_passSemicolon) (d' := 9) dX4_tellPerson_108 rfl cvRX4_63 rfl rfl (by decide) rfl (Nat.le_of_ble_eq_true rfl) ?_
              refine pS T7 t7 b5 (fun g8 T8 t8 n8 f8 => ?_)
              have F8 : FR 28 29 g g8 := FR.tr F7 f8
              refine go_if_ne (pc' := 114) (tgt := 116) dX4_tellPerson_111 rfl (by decide) (fun h_111 => ?_) (fun h_111 => ?_)
              · have h_111 := pg_b1 h_111
                rw [if_pos h_111] at t8
                refine go_aload_n (pc' := 117) dX4_tellPerson_116 rfl rfl ?_
                refine go_iload_n (pc' := 118) dX4_tellPerson_117 rfl rfl ?_
                refine go_iload (pc' := 120) dX4_tellPerson_118 rfl rfl ?_
                refine go_iload (pc' := 122) dX4_tellPerson_120 rfl rfl ?_
                refine go_iload_n (pc' := 123) dX4_tellPerson_122 rfl rfl ?_
                refine go_cVi4 (pc' := 126) (M' := mX5_admit) (d' := 1) dX4_tellPerson_123 rfl cvRX4_67 rfl rfl (by decide) rfl (Nat.le_of_ble_eq_true rfl) ?_
                refine tX5_admit_10 (h.fr F8 (by decide)) hn8 (fun g9 c9 f9 => ?_)
                have F9 : FS 10 19 28 29 g g9 := FS.tr (FS.r F8 (by decide) (by decide)) (FS.l f9 (by decide) (by decide))
                have T9 : TP g9 B L := T8.fr f9
                have t9 := t8.fr f9
                refine go_pop (pc' := 127) dX4_tellPerson_126 rfl rfl ?_
                refine go_iconst (pc' := 128) 1 dX4_tellPerson_127 rfl (by decide) ?_
                refine go_iret dX4_tellPerson_128 (by first | exact pg_nar1 | exact pg_nar0 | exact pg_narB) ?_
                have e : perF B L kd T n p = .inr ((enF B L (enF B L (enF B L (enF B L (enF B L (enF B L p)))))), admF T n (nI kd) (nI (tnF B L (enF B L (enF B L (enF B L (enF B L p)))) - 6)) (nI (0)) (nI (nbF B L (enF B L (enF B L p)))), n + 1) := by
                  unfold perF s3F s2F
                  rw [s1_y hn8, wW_y h_21, wN_y h_30, s4_n h_49, s5_y h_78, wP_y h_89, wE_y h_111, fin_t, ag_n h_49, pg_y h_78]
                rw [e] at k
                exact k g9 T9 ⟨t9, by first | exact en_le (by assumption), c9⟩ F9
              · have h_111 := pg_b0 h_111
                rw [if_neg h_111] at t8
                refine go_iconst (pc' := 115) 0 dX4_tellPerson_114 rfl (by decide) ?_
                refine go_iret dX4_tellPerson_115 (by first | exact pg_nar1 | exact pg_nar0 | exact pg_narB) ?_
                have e : perF B L kd T n p = .inl (enF B L (enF B L (enF B L (enF B L (enF B L p))))) := by
                  unfold perF s3F s2F
                  rw [s1_y hn8, wW_y h_21, wN_y h_30, s4_n h_49, s5_y h_78, wP_y h_89, wE_n h_111, fin_f]
                rw [e] at k
                exact k g8 T8 ⟨t8, by first | exact hp | exact en_le (by first | exact hp | assumption)⟩ (FS.r F8 (by decide) (by decide))
            · have h_89 := pg_b0 h_89
              refine go_iconst (pc' := 93) 0 dX4_tellPerson_92 rfl (by decide) ?_
              refine go_iret dX4_tellPerson_93 (by first | exact pg_nar1 | exact pg_nar0 | exact pg_narB) ?_
              have e : perF B L kd T n p = .inl (enF B L (enF B L (enF B L (enF B L p)))) := by
                unfold perF s3F s2F
                rw [s1_y hn8, wW_y h_21, wN_y h_30, s4_n h_49, s5_y h_78, wP_n h_89, wE_d, fin_f]
              rw [e] at k
              exact k g6 T6 ⟨t6, by first | exact hp | exact en_le (by first | exact hp | assumption)⟩ (FS.r F6 (by decide) (by decide))
        · have h_49 := pg_b1 h_49
          rw [if_pos h_49] at t4
          refine go_aload_n (pc' := 53) dX4_tellPerson_52 rfl rfl ?_
          refine go_bipush (pc' := 55) 99 dX4_tellPerson_53 rfl (by decide) ?_
          refine go_cVi1 (pc' := 58) (M' := mX4_passNumber) (d' := 9) dX4_tellPerson_55 rfl cvRX4_60 rfl rfl (by decide) rfl (Nat.le_of_ble_eq_true rfl) ?_
          refine pB (f := 99) T4 t4 b4 (by decide) (fun g5 T5 t5 n5 f5 => ?_)
          have F5 : FR 28 29 g g5 := FR.tr F4 f5
          refine go_if_ne (pc' := 61) (tgt := 63) dX4_tellPerson_58 rfl (by decide) (fun h_58 => ?_) (fun h_58 => ?_)
          · have h_58 := pg_b1 h_58
            rw [if_pos h_58] at t5
            refine go_aload_n (pc' := 64) dX4_tellPerson_63 rfl rfl ?_
            refine go_getI (pc' := 67) dX4_tellPerson_64 rfl flRX4_31 rfl rfl ?_
            rw [n5 h_58]
            refine go_istore (pc' := 69) dX4_tellPerson_67 rfl (by decide) rfl ?_
            refine go_iconst (pc' := 70) 0 dX4_tellPerson_69 rfl (by decide) ?_
            refine go_istore (pc' := 72) dX4_tellPerson_70 rfl (by decide) rfl ?_
            refine go_aload_n (pc' := 73) dX4_tellPerson_72 rfl rfl ?_
            refine go_bipush (pc' := 75) 18 dX4_tellPerson_73 rfl (by decide) ?_
            refine go_cVi1 (pc' := 78) (M' := mX4_passName) (d' := 9) dX4_tellPerson_75 rfl cvRX4_56 rfl rfl (by decide) rfl (Nat.le_of_ble_eq_true rfl) ?_
            refine pN (f := 18) T5 t5 b5 (by decide) (fun g6 T6 t6 n6 f6 => ?_)
            have F6 : FR 28 29 g g6 := FR.tr F5 f6
            refine go_if_eq (pc' := 81) (tgt := 107) dX4_tellPerson_78 rfl (by decide) (fun h_78 => ?_) (fun h_78 => ?_)
            · have h_78 := pg_b0 h_78
              rw [if_neg h_78] at t6
              refine go_aload_n (pc' := 108) dX4_tellPerson_107 rfl rfl ?_
              refine go_cVi0 (pc' := 111) (M' := mX4_passSemicolon) (d' := 9) dX4_tellPerson_108 rfl cvRX4_63 rfl rfl (by decide) rfl (Nat.le_of_ble_eq_true rfl) ?_
              refine pS T6 t6 b5 (fun g8 T8 t8 n8 f8 => ?_)
              have F8 : FR 28 29 g g8 := FR.tr F6 f8
              refine go_if_ne (pc' := 114) (tgt := 116) dX4_tellPerson_111 rfl (by decide) (fun h_111 => ?_) (fun h_111 => ?_)
              · have h_111 := pg_b1 h_111
                rw [if_pos h_111] at t8
                refine go_aload_n (pc' := 117) dX4_tellPerson_116 rfl rfl ?_
                refine go_iload_n (pc' := 118) dX4_tellPerson_117 rfl rfl ?_
                refine go_iload (pc' := 120) dX4_tellPerson_118 rfl rfl ?_
                refine go_iload (pc' := 122) dX4_tellPerson_120 rfl rfl ?_
                refine go_iload_n (pc' := 123) dX4_tellPerson_122 rfl rfl ?_
                refine go_cVi4 (pc' := 126) (M' := mX5_admit) (d' := 1) dX4_tellPerson_123 rfl cvRX4_67 rfl rfl (by decide) rfl (Nat.le_of_ble_eq_true rfl) ?_
                refine tX5_admit_10 (h.fr F8 (by decide)) hn8 (fun g9 c9 f9 => ?_)
                have F9 : FS 10 19 28 29 g g9 := FS.tr (FS.r F8 (by decide) (by decide)) (FS.l f9 (by decide) (by decide))
                have T9 : TP g9 B L := T8.fr f9
                have t9 := t8.fr f9
                refine go_pop (pc' := 127) dX4_tellPerson_126 rfl rfl ?_
                refine go_iconst (pc' := 128) 1 dX4_tellPerson_127 rfl (by decide) ?_
                refine go_iret dX4_tellPerson_128 (by first | exact pg_nar1 | exact pg_nar0 | exact pg_narB) ?_
                have e : perF B L kd T n p = .inr ((enF B L (enF B L (enF B L (enF B L (enF B L (enF B L p)))))), admF T n (nI kd) (nI (0)) (nI (nbF B L (enF B L (enF B L (enF B L (enF B L p)))))) (nI (nbF B L (enF B L (enF B L p)))), n + 1) := by
                  unfold perF s3F s2F
                  rw [s1_y hn8, wW_y h_21, wN_y h_30, s4_y h_49, wN_y h_58, s5_n h_78, wE_y h_111, fin_t, ag_y h_49, pg_n h_78]
                rw [e] at k
                exact k g9 T9 ⟨t9, by first | exact en_le (by assumption), c9⟩ F9
              · have h_111 := pg_b0 h_111
                rw [if_neg h_111] at t8
                refine go_iconst (pc' := 115) 0 dX4_tellPerson_114 rfl (by decide) ?_
                refine go_iret dX4_tellPerson_115 (by first | exact pg_nar1 | exact pg_nar0 | exact pg_narB) ?_
                have e : perF B L kd T n p = .inl (enF B L (enF B L (enF B L (enF B L (enF B L p))))) := by
                  unfold perF s3F s2F
                  rw [s1_y hn8, wW_y h_21, wN_y h_30, s4_y h_49, wN_y h_58, s5_n h_78, wE_n h_111, fin_f]
                rw [e] at k
                exact k g8 T8 ⟨t8, by first | exact hp | exact en_le (by first | exact hp | assumption)⟩ (FS.r F8 (by decide) (by decide))
            · have h_78 := pg_b1 h_78
              rw [if_pos h_78] at t6
              refine go_aload_n (pc' := 82) dX4_tellPerson_81 rfl rfl ?_
              refine go_bipush (pc' := 84) 6 dX4_tellPerson_82 rfl (by decide) ?_
              refine go_bipush (pc' := 86) 6 dX4_tellPerson_84 rfl (by decide) ?_
              refine go_cVi2 (pc' := 89) (M' := mX4_isNameFrom) (d' := 1) dX4_tellPerson_86 rfl cvRX4_37 rfl rfl (by decide) rfl (Nat.le_of_ble_eq_true rfl) ?_
              refine tX4_isNameFrom (f := 6) (c := 6) T6 t6 b6 (by decide) ?_
              refine go_if_ne (pc' := 92) (tgt := 94) dX4_tellPerson_89 rfl (by decide) (fun h_89 => ?_) (fun h_89 => ?_)
              · have h_89 := pg_b1 h_89
                have hnm : g6.1 28 5 = nI (tnF B L (enF B L (enF B L (enF B L (enF B L (enF B L (enF B L p))))))) := tn_val (T6.2.1) b6 t6 (by omega)
                refine go_aload_n (pc' := 95) dX4_tellPerson_94 rfl rfl ?_
                refine go_getI (pc' := 98) dX4_tellPerson_95 rfl flRX4_28 rfl rfl ?_
                rw [hnm]
                refine go_bipush (pc' := 100) 6 dX4_tellPerson_98 rfl (by decide) ?_
                refine go_isub (pc' := 101) dX4_tellPerson_100 rfl ?_
                rw [show (6 : Int32) = nI 6 from rfl, pk_sub h_89.1]
                refine go_istore (pc' := 103) dX4_tellPerson_101 rfl (by decide) rfl ?_
                refine go_aload_n (pc' := 104) dX4_tellPerson_103 rfl rfl ?_
                refine go_cVv0 (pc' := 107) (M' := mX4_advance) (d' := 8) dX4_tellPerson_104 rfl cvRX4_34 rfl rfl (by decide) rfl (Nat.le_of_ble_eq_true rfl) ?_
                refine tX4_advance T6 t6.1 (en_le b6) (fun g7 T7 t7 n7 f7 => ?_)
                have F7 : FR 28 29 g g7 := FR.tr F6 f7
                refine go_aload_n (pc' := 108) dX4_tellPerson_107 rfl rfl ?_
                refine go_cVi0 (pc' := 111) (M' := mX4_passSemicolon) (d' := 9) dX4_tellPerson_108 rfl cvRX4_63 rfl rfl (by decide) rfl (Nat.le_of_ble_eq_true rfl) ?_
                refine pS T7 t7 b7 (fun g8 T8 t8 n8 f8 => ?_)
                have F8 : FR 28 29 g g8 := FR.tr F7 f8
                refine go_if_ne (pc' := 114) (tgt := 116) dX4_tellPerson_111 rfl (by decide) (fun h_111 => ?_) (fun h_111 => ?_)
                · have h_111 := pg_b1 h_111
                  rw [if_pos h_111] at t8
                  refine go_aload_n (pc' := 117) dX4_tellPerson_116 rfl rfl ?_
                  refine go_iload_n (pc' := 118) dX4_tellPerson_117 rfl rfl ?_
                  refine go_iload (pc' := 120) dX4_tellPerson_118 rfl rfl ?_
                  refine go_iload (pc' := 122) dX4_tellPerson_120 rfl rfl ?_
                  refine go_iload_n (pc' := 123) dX4_tellPerson_122 rfl rfl ?_
                  refine go_cVi4 (pc' := 126) (M' := mX5_admit) (d' := 1) dX4_tellPerson_123 rfl cvRX4_67 rfl rfl (by decide) rfl (Nat.le_of_ble_eq_true rfl) ?_
                  refine tX5_admit_10 (h.fr F8 (by decide)) hn8 (fun g9 c9 f9 => ?_)
                  have F9 : FS 10 19 28 29 g g9 := FS.tr (FS.r F8 (by decide) (by decide)) (FS.l f9 (by decide) (by decide))
                  have T9 : TP g9 B L := T8.fr f9
                  have t9 := t8.fr f9
                  refine go_pop (pc' := 127) dX4_tellPerson_126 rfl rfl ?_
                  refine go_iconst (pc' := 128) 1 dX4_tellPerson_127 rfl (by decide) ?_
                  refine go_iret dX4_tellPerson_128 (by first | exact pg_nar1 | exact pg_nar0 | exact pg_narB) ?_
                  have e : perF B L kd T n p = .inr ((enF B L (enF B L (enF B L (enF B L (enF B L (enF B L (enF B L (enF B L p)))))))), admF T n (nI kd) (nI (tnF B L (enF B L (enF B L (enF B L (enF B L (enF B L (enF B L p)))))) - 6)) (nI (nbF B L (enF B L (enF B L (enF B L (enF B L p)))))) (nI (nbF B L (enF B L (enF B L p)))), n + 1) := by
                    unfold perF s3F s2F
                    rw [s1_y hn8, wW_y h_21, wN_y h_30, s4_y h_49, wN_y h_58, s5_y h_78, wP_y h_89, wE_y h_111, fin_t, ag_y h_49, pg_y h_78]
                  rw [e] at k
                  exact k g9 T9 ⟨t9, by first | exact en_le (by assumption), c9⟩ F9
                · have h_111 := pg_b0 h_111
                  rw [if_neg h_111] at t8
                  refine go_iconst (pc' := 115) 0 dX4_tellPerson_114 rfl (by decide) ?_
                  refine go_iret dX4_tellPerson_115 (by first | exact pg_nar1 | exact pg_nar0 | exact pg_narB) ?_
                  have e : perF B L kd T n p = .inl (enF B L (enF B L (enF B L (enF B L (enF B L (enF B L (enF B L p))))))) := by
                    unfold perF s3F s2F
                    rw [s1_y hn8, wW_y h_21, wN_y h_30, s4_y h_49, wN_y h_58, s5_y h_78, wP_y h_89, wE_n h_111, fin_f]
                  rw [e] at k
                  exact k g8 T8 ⟨t8, by first | exact hp | exact en_le (by first | exact hp | assumption)⟩ (FS.r F8 (by decide) (by decide))
              · have h_89 := pg_b0 h_89
                refine go_iconst (pc' := 93) 0 dX4_tellPerson_92 rfl (by decide) ?_
                refine go_iret dX4_tellPerson_93 (by first | exact pg_nar1 | exact pg_nar0 | exact pg_narB) ?_
                have e : perF B L kd T n p = .inl (enF B L (enF B L (enF B L (enF B L (enF B L (enF B L p)))))) := by
                  unfold perF s3F s2F
                  rw [s1_y hn8, wW_y h_21, wN_y h_30, s4_y h_49, wN_y h_58, s5_y h_78, wP_n h_89, wE_d, fin_f]
                rw [e] at k
                exact k g6 T6 ⟨t6, by first | exact hp | exact en_le (by first | exact hp | assumption)⟩ (FS.r F6 (by decide) (by decide))
          · have h_58 := pg_b0 h_58
            rw [if_neg h_58] at t5
            refine go_iconst (pc' := 62) 0 dX4_tellPerson_61 rfl (by decide) ?_
            refine go_iret dX4_tellPerson_62 (by first | exact pg_nar1 | exact pg_nar0 | exact pg_narB) ?_
            have e : perF B L kd T n p = .inl (enF B L (enF B L (enF B L (enF B L p)))) := by
              unfold perF s3F s2F
              rw [s1_y hn8, wW_y h_21, wN_y h_30, s4_y h_49, wN_n h_58, s5_d, wE_d, fin_f]
            rw [e] at k
            exact k g5 T5 ⟨t5, by first | exact hp | exact en_le (by first | exact hp | assumption)⟩ (FS.r F5 (by decide) (by decide))
      · have h_30 := pg_b0 h_30
        rw [if_neg h_30] at t3
        refine go_iconst (pc' := 34) 0 dX4_tellPerson_33 rfl (by decide) ?_
        refine go_iret dX4_tellPerson_34 (by first | exact pg_nar1 | exact pg_nar0 | exact pg_narB) ?_
        have e : perF B L kd T n p = .inl (enF B L (enF B L p)) := by
          unfold perF s3F s2F
          rw [s1_y hn8, wW_y h_21, wN_n h_30, s4_d, s5_d, wE_d, fin_f]
        rw [e] at k
        exact k g3 T3 ⟨t3, by first | exact hp | exact en_le (by first | exact hp | assumption)⟩ (FS.r F3 (by decide) (by decide))
  · have hn8 : ¬ n < 8 := fun q => h_6 (nI_lt (b := 8) q (by decide))
    refine go_iconst (pc' := 10) 0 dX4_tellPerson_9 rfl (by decide) ?_
    refine go_iret dX4_tellPerson_10 (by first | exact pg_nar1 | exact pg_nar0 | exact pg_narB) ?_
    have e : perF B L kd T n p = .inl p := by
      unfold perF s3F s2F
      rw [s1_n hn8, wW_d, wN_d, s4_d, s5_d, wE_d, fin_f]
    rw [e] at k
    exact k g hT ⟨t, by first | exact hp | exact en_le (by first | exact hp | assumption)⟩ (FS.rf)

set_option maxHeartbeats 4000000 in
set_option maxRecDepth 20000 in
theorem tX4_tellWeight {sc : pg_Sc} {g : pg_S} {K : Int32 → pg_S → Prop} {B : Nat → Nat} {L x p n : Nat} {T : TW} (h : CR g 10 T n) (hT : TP g B L) (t : TK B L p g) (hp : p ≤ L) (hx : x < 6) (k : ∀ g', TP g' B L → PKc B L g' (weiF B L x T n p) → FS 10 19 28 29 g g' → K (rI (weiF B L x T n p)) g') : pg_Cal sc 10 mX4_tellWeight [.ref 28, .ref 10, .int (nI x)] g (pg_ki K) := by
  refine pg_Cal.of rfl (Nat.le_of_ble_eq_true rfl) rfl ?_
  have b1 := en_le (B := B) hp
  have b2 := en_le (B := B) b1
  have b3 := en_le (B := B) b2
  have b4 := en_le (B := B) b3
  have b5 := en_le (B := B) b4
  have b6 := en_le (B := B) b5
  have b7 := en_le (B := B) b6
  have b8 := en_le (B := B) b7
  refine go_aload_n (pc' := 1) dX4_tellWeight_0 rfl rfl ?_
  refine go_cVv0 (pc' := 4) (M' := mX4_advance) (d' := 8) dX4_tellWeight_1 rfl cvRX4_34 rfl rfl (by decide) rfl (Nat.le_of_ble_eq_true rfl) ?_
  refine tX4_advance hT t.1 b1 (fun g1 T1 t1 n1 f1 => ?_)
  have F1 : FR 28 29 g g1 := f1
  refine go_aload_n (pc' := 5) dX4_tellWeight_4 rfl rfl ?_
  refine go_bipush (pc' := 7) 19 dX4_tellWeight_5 rfl (by decide) ?_
  refine go_cVi1 (pc' := 10) (M' := mX4_passName) (d' := 9) dX4_tellWeight_7 rfl cvRX4_56 rfl rfl (by decide) rfl (Nat.le_of_ble_eq_true rfl) ?_
  refine pN (f := 19) T1 t1 b1 (by decide) (fun g2 T2 t2 n2 f2 => ?_)
  have F2 : FR 28 29 g g2 := FR.tr F1 f2
  refine go_if_eq (pc' := 13) (tgt := 29) dX4_tellWeight_10 rfl (by decide) (fun h_10 => ?_) (fun h_10 => ?_)
  · have h_10 := pg_b0 h_10
    rw [if_neg h_10] at t2
    refine go_iconst (pc' := 30) 0 dX4_tellWeight_29 rfl (by decide) ?_
    refine go_iret dX4_tellWeight_30 (by first | exact pg_nar1 | exact pg_nar0 | exact pg_narB) ?_
    have e : weiF B L x T n p = .inl (enF B L p) := by
      unfold weiF
      rw [wW_n h_10, wN_d, wE_d, fin_f]
    rw [e] at k
    exact k g2 T2 ⟨t2, b1⟩ (FS.r F2 (by decide) (by decide))
  · have h_10 := pg_b1 h_10
    rw [if_pos h_10] at t2
    refine go_aload_n (pc' := 14) dX4_tellWeight_13 rfl rfl ?_
    refine go_bipush (pc' := 16) 99 dX4_tellWeight_14 rfl (by decide) ?_
    refine go_cVi1 (pc' := 19) (M' := mX4_passNumber) (d' := 9) dX4_tellWeight_16 rfl cvRX4_60 rfl rfl (by decide) rfl (Nat.le_of_ble_eq_true rfl) ?_
    refine pB (f := 99) T2 t2 b2 (by decide) (fun g3 T3 t3 n3 f3 => ?_)
    have F3 : FR 28 29 g g3 := FR.tr F2 f3
    refine go_if_eq (pc' := 22) (tgt := 29) dX4_tellWeight_19 rfl (by decide) (fun h_19 => ?_) (fun h_19 => ?_)
    · have h_19 := pg_b0 h_19
      rw [if_neg h_19] at t3
      refine go_iconst (pc' := 30) 0 dX4_tellWeight_29 rfl (by decide) ?_
      refine go_iret dX4_tellWeight_30 (by first | exact pg_nar1 | exact pg_nar0 | exact pg_narB) ?_
      have e : weiF B L x T n p = .inl (enF B L (enF B L p)) := by
        unfold weiF
        rw [wW_y h_10, wN_n h_19, wE_d, fin_f]
      rw [e] at k
      exact k g3 T3 ⟨t3, b2⟩ (FS.r F3 (by decide) (by decide))
    · have h_19 := pg_b1 h_19
      rw [if_pos h_19] at t3
      refine go_aload_n (pc' := 23) dX4_tellWeight_22 rfl rfl ?_
      refine go_cVi0 (pc' := 26) (M' := mX4_passSemicolon) (d' := 9) dX4_tellWeight_23 rfl cvRX4_63 rfl rfl (by decide) rfl (Nat.le_of_ble_eq_true rfl) ?_
      refine pS T3 t3 b3 (fun g4 T4 t4 n4 f4 => ?_)
      have F4 : FR 28 29 g g4 := FR.tr F3 f4
      refine go_if_ne (pc' := 29) (tgt := 31) dX4_tellWeight_26 rfl (by decide) (fun h_26 => ?_) (fun h_26 => ?_)
      · have h_26 := pg_b1 h_26
        rw [if_pos h_26] at t4
        refine go_aload_n (pc' := 32) dX4_tellWeight_31 rfl rfl ?_
        refine go_getR (pc' := 35) dX4_tellWeight_32 rfl flRX4_71 rfl rfl ?_
        refine go_iload_n (pc' := 36) dX4_tellWeight_35 rfl rfl ?_
        refine go_aload_n (pc' := 37) dX4_tellWeight_36 rfl rfl ?_
        refine go_getI (pc' := 40) dX4_tellWeight_37 rfl flRX4_31 rfl rfl ?_
        rw [n4.trans (n3 h_19)]
        refine go_iast (pc' := 41) x dX4_tellWeight_40 rfl rfl rfl (by omega) (by decide) ?_
        refine go_iconst (pc' := 42) 1 dX4_tellWeight_41 rfl (by decide) ?_
        refine go_iret dX4_tellWeight_42 (by first | exact pg_nar1 | exact pg_nar0 | exact pg_narB) ?_
        have e : weiF B L x T n p = .inr ((enF B L (enF B L (enF B L (enF B L p)))), tu T 1 x (nI (nbF B L (enF B L (enF B L p)))), n) := by
          unfold weiF
          rw [wW_y h_10, wN_y h_19, wE_y h_26, fin_t]
        rw [e] at k
        have f5 : FR 10 19 g4 (pg_ui g4.1 12 x (nI (nbF B L (enF B L (enF B L p)))), g4.2) := FR.ui (by decide)
        exact k _ (T4.fr f5) ⟨t4.fr f5, b4, (h.fr F4 (by decide)).weight⟩ (FS.tr (FS.r F4 (by decide) (by decide)) (FS.l f5 (by decide) (by decide)))
      · have h_26 := pg_b0 h_26
        rw [if_neg h_26] at t4
        refine go_iconst (pc' := 30) 0 dX4_tellWeight_29 rfl (by decide) ?_
        refine go_iret dX4_tellWeight_30 (by first | exact pg_nar1 | exact pg_nar0 | exact pg_narB) ?_
        have e : weiF B L x T n p = .inl (enF B L (enF B L (enF B L p))) := by
          unfold weiF
          rw [wW_y h_10, wN_y h_19, wE_n h_26, fin_f]
        rw [e] at k
        exact k g4 T4 ⟨t4, b3⟩ (FS.r F4 (by decide) (by decide))

theorem mst_n : ∀ x, x < 4 → pg_t1.getD x 0 = nI (mstN x) ∧ mstN x < 1000 := by decide +kernel
set_option maxHeartbeats 4000000 in
set_option maxRecDepth 20000 in
theorem tX4_tellLaw {sc : pg_Sc} {g : pg_S} {K : Int32 → pg_S → Prop} {B : Nat → Nat} {L x p n : Nat} {T : TW} (h : CR g 10 T n) (hT : TP g B L) (t : TK B L p g) (hp : p ≤ L) (hx : x < 4) (k : ∀ g', TP g' B L → PKc B L g' (lawF B L x T n p) → FS 10 19 28 29 g g' → K (rI (lawF B L x T n p)) g') : pg_Cal sc 10 mX4_tellLaw [.ref 28, .ref 10, .int (nI x)] g (pg_ki K) := by
  refine pg_Cal.of rfl (Nat.le_of_ble_eq_true rfl) rfl ?_
  have b1 := en_le (B := B) hp
  have b2 := en_le (B := B) b1
  have b3 := en_le (B := B) b2
  have b4 := en_le (B := B) b3
  have b5 := en_le (B := B) b4
  have b6 := en_le (B := B) b5
  have b7 := en_le (B := B) b6
  have b8 := en_le (B := B) b7
  refine go_aload_n (pc' := 1) dX4_tellLaw_0 rfl rfl ?_
  refine go_cVv0 (pc' := 4) (M' := mX4_advance) (d' := 8) dX4_tellLaw_1 rfl cvRX4_34 rfl rfl (by decide) rfl (Nat.le_of_ble_eq_true rfl) ?_
  refine tX4_advance hT t.1 b1 (fun g1 T1 t1 n1 f1 => ?_)
  have F1 : FR 28 29 g g1 := f1
  refine go_aload_n (pc' := 5) dX4_tellLaw_4 rfl rfl ?_
  refine go_gs1 (pc' := 8) dX4_tellLaw_5 rfl rfl ?_
  refine go_iload_n (pc' := 9) dX4_tellLaw_8 rfl rfl ?_
  refine go_ro1 (pc' := 10) x dX4_tellLaw_9 rfl rfl hx ?_
  rw [(mst_n x hx).1]
  refine go_cVi1 (pc' := 13) (M' := mX4_passNumber) (d' := 9) dX4_tellLaw_10 rfl cvRX4_60 rfl rfl (by decide) rfl (Nat.le_of_ble_eq_true rfl) ?_
  refine pB (f := mstN x) T1 t1 b1 (mst_n x hx).2 (fun g3 T3 t3 n3 f3 => ?_)
  have F3 : FR 28 29 g g3 := FR.tr F1 f3
  refine go_if_eq (pc' := 16) (tgt := 23) dX4_tellLaw_13 rfl (by decide) (fun h_13 => ?_) (fun h_13 => ?_)
  · have h_13 := pg_b0 h_13
    rw [if_neg h_13] at t3
    refine go_iconst (pc' := 24) 0 dX4_tellLaw_23 rfl (by decide) ?_
    refine go_iret dX4_tellLaw_24 (by first | exact pg_nar1 | exact pg_nar0 | exact pg_narB) ?_
    have e : lawF B L x T n p = .inl (enF B L p) := by
      unfold lawF
      rw [wN_n h_13, wE_d, fin_f]
    rw [e] at k
    exact k g3 T3 ⟨t3, b1⟩ (FS.r F3 (by decide) (by decide))
  · have h_13 := pg_b1 h_13
    rw [if_pos h_13] at t3
    refine go_aload_n (pc' := 17) dX4_tellLaw_16 rfl rfl ?_
    refine go_cVi0 (pc' := 20) (M' := mX4_passSemicolon) (d' := 9) dX4_tellLaw_17 rfl cvRX4_63 rfl rfl (by decide) rfl (Nat.le_of_ble_eq_true rfl) ?_
    refine pS T3 t3 b2 (fun g4 T4 t4 n4 f4 => ?_)
    have F4 : FR 28 29 g g4 := FR.tr F3 f4
    refine go_if_ne (pc' := 23) (tgt := 25) dX4_tellLaw_20 rfl (by decide) (fun h_20 => ?_) (fun h_20 => ?_)
    · have h_20 := pg_b1 h_20
      rw [if_pos h_20] at t4
      refine go_aload_n (pc' := 26) dX4_tellLaw_25 rfl rfl ?_
      refine go_getR (pc' := 29) dX4_tellLaw_26 rfl flRX4_78 rfl rfl ?_
      refine go_iload_n (pc' := 30) dX4_tellLaw_29 rfl rfl ?_
      refine go_aload_n (pc' := 31) dX4_tellLaw_30 rfl rfl ?_
      refine go_getI (pc' := 34) dX4_tellLaw_31 rfl flRX4_31 rfl rfl ?_
      rw [n4.trans (n3 h_13)]
      refine go_iast (pc' := 35) x dX4_tellLaw_34 rfl rfl rfl (by omega) (by decide) ?_
      refine go_iconst (pc' := 36) 1 dX4_tellLaw_35 rfl (by decide) ?_
      refine go_iret dX4_tellLaw_36 (by first | exact pg_nar1 | exact pg_nar0 | exact pg_narB) ?_
      have e : lawF B L x T n p = .inr ((enF B L (enF B L (enF B L p))), tu T 0 x (nI (nbF B L (enF B L p))), n) := by
        unfold lawF
        rw [wN_y h_13, wE_y h_20, fin_t]
      rw [e] at k
      have f5 : FR 10 19 g4 (pg_ui g4.1 11 x (nI (nbF B L (enF B L p))), g4.2) := FR.ui (by decide)
      exact k _ (T4.fr f5) ⟨t4.fr f5, b3, (h.fr F4 (by decide)).law⟩ (FS.tr (FS.r F4 (by decide) (by decide)) (FS.l f5 (by decide) (by decide)))
    · have h_20 := pg_b0 h_20
      rw [if_neg h_20] at t4
      refine go_iconst (pc' := 24) 0 dX4_tellLaw_23 rfl (by decide) ?_
      refine go_iret dX4_tellLaw_24 (by first | exact pg_nar1 | exact pg_nar0 | exact pg_narB) ?_
      have e : lawF B L x T n p = .inl (enF B L (enF B L p)) := by
        unfold lawF
        rw [wN_y h_13, wE_n h_20, fin_f]
      rw [e] at k
      exact k g4 T4 ⟨t4, b2⟩ (FS.r F4 (by decide) (by decide))

def PKe (g : pg_S) : PR → Prop
  | .inl _ => True
  | .inr (_, T, n) => CR g 10 T n ∧ WF T n
def tI (B : Nat → Nat) (L : Nat) : PR → Int32
  | .inl q => nI (skF B L q)
  | .inr _ => -1
set_option maxHeartbeats 4000000 in
set_option maxRecDepth 20000 in
theorem ltl0 {sc : pg_Sc} {K : Int32 → pg_S → Prop} {B : Nat → Nat} {L q : Nat} {x : Int32} {g : pg_S} (t : TK B L q g) (k : K (nI (skF B L q)) g) : pg_Go sc 11 mX4_tell 13 [(0, .ref 28), (1, .ref 10), (2, .int 0), (3, .int x)] [] g (pg_ki K) := by
  refine go_iload_n (pc' := 14) dX4_tell_13 rfl rfl ?_
  refine go_sipush (pc' := 17) 200 dX4_tell_14 rfl (by decide) ?_
  refine go_icmp_ge (pc' := 20) (tgt := 117) dX4_tell_17 rfl (by decide) (fun h_17 => ?_) (fun h_17 => ?_)
  · refine go_iload_n (pc' := 118) dX4_tell_117 rfl rfl ?_
    refine go_if_eq (pc' := 121) (tgt := 125) dX4_tell_118 rfl (by decide) (fun h_118 => ?_) (fun h_118 => absurd (rfl) h_118)
    refine go_aload_n (pc' := 126) dX4_tell_125 rfl rfl ?_
    refine go_getI (pc' := 129) dX4_tell_126 rfl flRX4_22 rfl rfl ?_
    rw [t.2.1]
    refine go_iret dX4_tell_129 (pg_narI _) ?_
    exact k
  · refine go_iload_n (pc' := 21) dX4_tell_20 rfl rfl ?_
    refine go_if_eq (pc' := 24) (tgt := 117) dX4_tell_21 rfl (by decide) (fun h_21 => ?_) (fun h_21 => absurd (rfl) h_21)
    refine go_iload_n (pc' := 118) dX4_tell_117 rfl rfl ?_
    refine go_if_eq (pc' := 121) (tgt := 125) dX4_tell_118 rfl (by decide) (fun h_118 => ?_) (fun h_118 => absurd (rfl) h_118)
    refine go_aload_n (pc' := 126) dX4_tell_125 rfl rfl ?_
    refine go_getI (pc' := 129) dX4_tell_126 rfl flRX4_22 rfl rfl ?_
    rw [t.2.1]
    refine go_iret dX4_tell_129 (pg_narI _) ?_
    exact k

set_option maxHeartbeats 4000000 in
set_option maxRecDepth 20000 in
theorem ltl {sc : pg_Sc} {K : Int32 → pg_S → Prop} {B : Nat → Nat} {L : Nat} : ∀ (m : Nat) (i p : Nat) (T : TW) (n : Nat) (g : pg_S), i + m = 200 → p ≤ L → WF T n → CR g 10 T n → TP g B L → TK B L p g → (∀ g', PKe g' (telF B L m p T n) → FS 10 19 28 29 g g' → K (tI B L (telF B L m p T n)) g') → pg_Go sc 11 mX4_tell 13 [(0, .ref 28), (1, .ref 10), (2, .int 1), (3, .int (nI i))] [] g (pg_ki K) := by
  intro m
  induction m with
  | zero =>
    intro i p T n g hi hp wf h hT t k
    obtain rfl : i = 200 := by omega
    refine go_iload_n (pc' := 14) dX4_tell_13 rfl rfl ?_
    refine go_sipush (pc' := 17) 200 dX4_tell_14 rfl (by decide) ?_
    refine go_icmp_ge (pc' := 20) (tgt := 117) dX4_tell_17 rfl (by decide) (fun h_17 => ?_) (fun h_17 => absurd (Int32.le_refl _) h_17)
    refine go_iload_n (pc' := 118) dX4_tell_117 rfl rfl ?_
    refine go_if_eq (pc' := 121) (tgt := 125) dX4_tell_118 rfl (by decide) (fun h_118 => absurd h_118 (by decide)) (fun h_118 => ?_)
    refine go_iconst (pc' := 122) (-1) dX4_tell_121 rfl (by decide) ?_
    refine go_goto (pc' := 129) dX4_tell_122 (by decide) ?_
    refine go_iret dX4_tell_129 (pg_narI _) ?_
    exact k g ⟨h, wf⟩ FS.rf
  | succ m ih =>
    intro i p T n g hi hp wf h hT t k
    have hL := hT.2.1
    have hin : i < 200 := by omega
    have h3 := so_le B L p
    refine go_iload_n (pc' := 14) dX4_tell_13 rfl rfl ?_
    refine go_sipush (pc' := 17) 200 dX4_tell_14 rfl (by decide) ?_
    refine go_icmp_ge (pc' := 20) (tgt := 117) dX4_tell_17 rfl (by decide) (fun h_17 => absurd h_17 (nI_ge (b := 200) hin (by decide))) (fun h_17 => ?_)
    refine go_iload_n (pc' := 21) dX4_tell_20 rfl rfl ?_
    refine go_if_eq (pc' := 24) (tgt := 117) dX4_tell_21 rfl (by decide) (fun h_21 => absurd h_21 (by decide)) (fun h_21 => ?_)
    refine go_aload_n (pc' := 25) dX4_tell_24 rfl rfl ?_
    refine go_getI (pc' := 28) dX4_tell_25 rfl flRX4_25 rfl rfl ?_
    rw [t.2.2.1]
    refine go_if_eq (pc' := 31) (tgt := 117) dX4_tell_28 rfl (by decide) (fun h_28 => ?_) (fun h_28 => ?_)
    · have hso : soF B L p = 0 := (nI_eq (b := 0) (by omega) (by decide)).mp h_28
      refine go_iload_n (pc' := 118) dX4_tell_117 rfl rfl ?_
      refine go_if_eq (pc' := 121) (tgt := 125) dX4_tell_118 rfl (by decide) (fun h_118 => absurd h_118 (by decide)) (fun h_118 => ?_)
      refine go_iconst (pc' := 122) (-1) dX4_tell_121 rfl (by decide) ?_
      refine go_goto (pc' := 129) dX4_tell_122 (by decide) ?_
      refine go_iret dX4_tell_129 (pg_narI _) ?_
      have er : telF B L (m + 1) p T n = .inr (p, T, n) := if_pos hso
      rw [er] at k
      exact k g ⟨h, wf⟩ FS.rf
    · have hso : ¬ soF B L p = 0 := fun q => h_28 (by rw [q]; rfl)
      refine go_aload_n (pc' := 32) dX4_tell_31 rfl rfl ?_
      refine go_iconst (pc' := 33) 0 dX4_tell_32 rfl (by decide) ?_
      refine go_bipush (pc' := 35) 6 dX4_tell_33 rfl (by decide) ?_
      refine go_cVi2 (pc' := 38) (M' := mX4_isNameFrom) (d' := 1) dX4_tell_35 rfl cvRX4_37 rfl rfl (by decide) rfl (Nat.le_of_ble_eq_true rfl) ?_
      refine tX4_isNameFrom (f := 0) (c := 6) hT t hp (by decide) ?_
      refine go_if_eq (pc' := 41) (tgt := 56) dX4_tell_38 rfl (by decide) (fun h_38 => ?_) (fun h_38 => ?_)
      · have h_38 := pg_b0 h_38
        refine go_aload_n (pc' := 57) dX4_tell_56 rfl rfl ?_
        refine go_bipush (pc' := 59) 6 dX4_tell_57 rfl (by decide) ?_
        refine go_bipush (pc' := 61) 6 dX4_tell_59 rfl (by decide) ?_
        refine go_cVi2 (pc' := 64) (M' := mX4_isNameFrom) (d' := 1) dX4_tell_61 rfl cvRX4_37 rfl rfl (by decide) rfl (Nat.le_of_ble_eq_true rfl) ?_
        refine tX4_isNameFrom (f := 6) (c := 6) hT t hp (by decide) ?_
        refine go_if_eq (pc' := 67) (tgt := 83) dX4_tell_64 rfl (by decide) (fun h_64 => ?_) (fun h_64 => ?_)
        · have h_64 := pg_b0 h_64
          refine go_aload_n (pc' := 84) dX4_tell_83 rfl rfl ?_
          refine go_bipush (pc' := 86) 12 dX4_tell_84 rfl (by decide) ?_
          refine go_iconst (pc' := 87) 4 dX4_tell_86 rfl (by decide) ?_
          refine go_cVi2 (pc' := 90) (M' := mX4_isNameFrom) (d' := 1) dX4_tell_87 rfl cvRX4_37 rfl rfl (by decide) rfl (Nat.le_of_ble_eq_true rfl) ?_
          refine tX4_isNameFrom (f := 12) (c := 4) hT t hp (by decide) ?_
          refine go_if_eq (pc' := 93) (tgt := 109) dX4_tell_90 rfl (by decide) (fun h_90 => ?_) (fun h_90 => ?_)
          · have h_90 := pg_b0 h_90
            refine go_iconst (pc' := 110) 0 dX4_tell_109 rfl (by decide) ?_
            refine go_istore_n (pc' := 111) dX4_tell_110 rfl (by decide) rfl ?_
            refine go_iinc (pc' := 114) _ dX4_tell_111 rfl rfl (pg_inc _) (by decide) rfl ?_
            refine go_goto (pc' := 13) dX4_tell_114 (by decide) ?_
            have ec : clauF B L T n p = .inl p := by
              unfold clauF
              rw [if_neg (by omega), if_neg (by omega), if_neg (by omega)]
            have er : telF B L (m + 1) p T n = .inl p := by
              show (if soF B L p = 0 then _ else telN (telF B L m) (clauF B L T n p)) = _
              rw [if_neg hso, ec]; rfl
            rw [er] at k
            refine go_sub [0, 1, 2, 3] rfl ?_
            exact ltl0 t (k g trivial FS.rf)
          · have h_90 := pg_b1 h_90
            refine go_aload_n (pc' := 94) dX4_tell_93 rfl rfl ?_
            refine go_aload_n (pc' := 95) dX4_tell_94 rfl rfl ?_
            refine go_aload_n (pc' := 96) dX4_tell_95 rfl rfl ?_
            refine go_getI (pc' := 99) dX4_tell_96 rfl flRX4_28 rfl rfl ?_
            rw [tn_val hL hp t (by omega)]
            refine go_bipush (pc' := 101) 12 dX4_tell_99 rfl (by decide) ?_
            refine go_isub (pc' := 102) dX4_tell_101 rfl ?_
            rw [show (12 : Int32) = nI 12 from rfl, pk_sub h_90.1]
            refine go_cVi2 (pc' := 105) (M' := mX4_tellLaw) (d' := 10) dX4_tell_102 rfl cvRX4_48 rfl rfl (by decide) rfl (Nat.le_of_ble_eq_true rfl) ?_
            refine tX4_tellLaw h hT t hp (by omega) (fun g1 T1 pk1 F1 => ?_)
            refine go_istore_n (pc' := 106) dX4_tell_105 rfl (by decide) rfl ?_
            refine go_goto (pc' := 111) dX4_tell_106 (by decide) ?_
            refine go_iinc (pc' := 114) _ dX4_tell_111 rfl rfl (pg_inc _) (by decide) rfl ?_
            refine go_goto (pc' := 13) dX4_tell_114 (by decide) ?_
            have ec : clauF B L T n p = lawF B L (tnF B L p - 12) T n p := by
              unfold clauF
              rw [if_neg (by omega), if_neg (by omega), if_pos (by omega)]
            have hw := clau_wf (B := B) (L := L) (p := p) wf
            have er : telF B L (m + 1) p T n = telN (telF B L m) (clauF B L T n p) := if_neg hso
            rw [er, ec] at k
            rw [ec] at hw
            generalize lawF B L (tnF B L p - 12) T n p = r at k hw pk1
            match r, pk1, hw, k with
            | .inl q, pk1, hw, k => exact ltl0 pk1.1 (k g1 trivial F1)
            | .inr (q, T', n'), pk1, hw, k => exact ih (i + 1) q T' n' g1 (by omega) pk1.2.1 hw pk1.2.2 T1 pk1.1 (fun g' z1 z2 => k g' z1 (FS.tr F1 z2))
        · have h_64 := pg_b1 h_64
          refine go_aload_n (pc' := 68) dX4_tell_67 rfl rfl ?_
          refine go_aload_n (pc' := 69) dX4_tell_68 rfl rfl ?_
          refine go_aload_n (pc' := 70) dX4_tell_69 rfl rfl ?_
          refine go_getI (pc' := 73) dX4_tell_70 rfl flRX4_28 rfl rfl ?_
          rw [tn_val hL hp t (by omega)]
          refine go_bipush (pc' := 75) 6 dX4_tell_73 rfl (by decide) ?_
          refine go_isub (pc' := 76) dX4_tell_75 rfl ?_
          rw [show (6 : Int32) = nI 6 from rfl, pk_sub h_64.1]
          refine go_cVi2 (pc' := 79) (M' := mX4_tellWeight) (d' := 10) dX4_tell_76 rfl cvRX4_45 rfl rfl (by decide) rfl (Nat.le_of_ble_eq_true rfl) ?_
          refine tX4_tellWeight h hT t hp (by omega) (fun g1 T1 pk1 F1 => ?_)
          refine go_istore_n (pc' := 80) dX4_tell_79 rfl (by decide) rfl ?_
          refine go_goto (pc' := 111) dX4_tell_80 (by decide) ?_
          refine go_iinc (pc' := 114) _ dX4_tell_111 rfl rfl (pg_inc _) (by decide) rfl ?_
          refine go_goto (pc' := 13) dX4_tell_114 (by decide) ?_
          have ec : clauF B L T n p = weiF B L (tnF B L p - 6) T n p := by
            unfold clauF
            rw [if_neg (by omega), if_pos (by omega)]
          have hw := clau_wf (B := B) (L := L) (p := p) wf
          have er : telF B L (m + 1) p T n = telN (telF B L m) (clauF B L T n p) := if_neg hso
          rw [er, ec] at k
          rw [ec] at hw
          generalize weiF B L (tnF B L p - 6) T n p = r at k hw pk1
          match r, pk1, hw, k with
          | .inl q, pk1, hw, k => exact ltl0 pk1.1 (k g1 trivial F1)
          | .inr (q, T', n'), pk1, hw, k => exact ih (i + 1) q T' n' g1 (by omega) pk1.2.1 hw pk1.2.2 T1 pk1.1 (fun g' z1 z2 => k g' z1 (FS.tr F1 z2))
      · have h_38 := pg_b1 h_38
        refine go_aload_n (pc' := 42) dX4_tell_41 rfl rfl ?_
        refine go_aload_n (pc' := 43) dX4_tell_42 rfl rfl ?_
        refine go_aload_n (pc' := 44) dX4_tell_43 rfl rfl ?_
        refine go_getI (pc' := 47) dX4_tell_44 rfl flRX4_28 rfl rfl ?_
        rw [tn_val hL hp t (by omega)]
        refine go_iconst (pc' := 48) 0 dX4_tell_47 rfl (by decide) ?_
        refine go_isub (pc' := 49) dX4_tell_48 rfl ?_
        rw [Int32.sub_zero]
        refine go_cVi2 (pc' := 52) (M' := mX4_tellPerson) (d' := 10) dX4_tell_49 rfl cvRX4_41 rfl rfl (by decide) rfl (Nat.le_of_ble_eq_true rfl) ?_
        refine tX4_tellPerson h hT t hp wf.1 (fun g1 T1 pk1 F1 => ?_)
        refine go_istore_n (pc' := 53) dX4_tell_52 rfl (by decide) rfl ?_
        refine go_goto (pc' := 111) dX4_tell_53 (by decide) ?_
        refine go_iinc (pc' := 114) _ dX4_tell_111 rfl rfl (pg_inc _) (by decide) rfl ?_
        refine go_goto (pc' := 13) dX4_tell_114 (by decide) ?_
        have ec : clauF B L T n p = perF B L (tnF B L p) T n p := by
          unfold clauF
          rw [if_pos (by omega)]
        have hw := clau_wf (B := B) (L := L) (p := p) wf
        have er : telF B L (m + 1) p T n = telN (telF B L m) (clauF B L T n p) := if_neg hso
        rw [er, ec] at k
        rw [ec] at hw
        generalize perF B L (tnF B L p) T n p = r at k hw pk1
        match r, pk1, hw, k with
        | .inl q, pk1, hw, k => exact ltl0 pk1.1 (k g1 trivial F1)
        | .inr (q, T', n'), pk1, hw, k => exact ih (i + 1) q T' n' g1 (by omega) pk1.2.1 hw pk1.2.2 T1 pk1.1 (fun g' z1 z2 => k g' z1 (FS.tr F1 z2))

set_option maxHeartbeats 4000000 in
set_option maxRecDepth 20000 in
theorem tX4_tell {sc : pg_Sc} {g : pg_S} {K : Int32 → pg_S → Prop} {B : Nat → Nat} {L n : Nat} {T : TW} (h : CR g 10 T n) (wf : WF T n) (hT : TP g B L) (k : ∀ g', PKe g' (telF B L 200 0 T n) → FS 10 19 28 29 g g' → K (tI B L (telF B L 200 0 T n)) g') : pg_Cal sc 11 mX4_tell [.ref 28, .ref 10] g (pg_ki K) := by
  refine pg_Cal.of rfl (Nat.le_of_ble_eq_true rfl) rfl ?_
  refine go_iconst (pc' := 1) 1 dX4_tell_0 rfl (by decide) ?_
  refine go_istore_n (pc' := 2) dX4_tell_1 rfl (by decide) rfl ?_
  refine go_aload_n (pc' := 3) dX4_tell_2 rfl rfl ?_
  refine go_iconst (pc' := 4) 0 dX4_tell_3 rfl (by decide) ?_
  refine go_putI (pc' := 7) dX4_tell_4 rfl flRX4_19 rfl rfl ft4_2 ?_
  refine go_gen (fun g1 e1 => ?_)
  have f1 : FR 28 29 g g1 := by rw [e1]; exact FR.ui (by decide)
  refine go_aload_n (pc' := 8) dX4_tell_7 rfl rfl ?_
  refine go_cVv0 (pc' := 11) (M' := mX4_advance) (d' := 8) dX4_tell_8 rfl cvRX4_34 rfl rfl (by decide) rfl (Nat.le_of_ble_eq_true rfl) ?_
  refine tX4_advance (B := B) (L := L) (p := 0) (by rw [e1]; exact hT.ui (by decide)) (by rw [e1]; simp [pg_ui_at]; rfl) (Nat.zero_le _) (fun g2 T2 t2 n2 f2 => ?_)
  have fa := FR.tr f1 f2
  refine go_iconst (pc' := 12) 0 dX4_tell_11 rfl (by decide) ?_
  refine go_istore_n (pc' := 13) dX4_tell_12 rfl (by decide) rfl ?_
  exact ltl 200 0 0 T n g2 (by omega) (Nat.zero_le _) wf (h.fr fa (by decide)) T2 t2 (fun g' z1 z2 => k g' z1 (FS.tr (FS.r fa (by decide) (by decide)) z2))

