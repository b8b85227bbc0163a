def orF (f : Nat → Int32) : Nat → Nat → Int32 → Int32
  | 0, _, s => s
  | m + 1, i, s => orF f m (i + 1) (s ||| f i)
def cntF (c : Nat → Bool) : Nat → Nat → Int32 → Int32
  | 0, _, s => s
  | m + 1, i, s => cntF c m (i + 1) (if c i = true then s + 1 else s)
def addF (f : Nat → Int32) : Nat → Nat → Int32 → Int32
  | 0, _, s => s
  | m + 1, i, s => addF f m (i + 1) (s + f i)
def lonF (T : TW) (p : Nat) : Int32 := if T 6 p = 0 then (1 : Int32) <<< (nI p &&& 31) else 0
def plcF (T : TW) (p : Nat) : Int32 := (1 : Int32) <<< (T 5 p &&& 31)
def pgsF (T : TW) (p : Nat) : Int32 := (1 : Int32) <<< (T 3 p &&& 31)
def hadF (T : TW) (x : Int32) (p : Nat) : Int32 := if T 3 p = x then (1 : Int32) <<< (nI p &&& 31) else 0
def rstF (T : TW) (p q k : Nat) : Int32 := if leanF T p (nI k) = leanF T q (nI k) then 0 else (1 : Int32) <<< (nI k &&& 31)
def besF (T : TW) (p o : Nat) : Bool := decide (o ≠ p ∧ T 5 o = T 5 p)
theorem besF_iff {T : TW} {p o : Nat} : besF T p o = true ↔ o ≠ p ∧ T 5 o = T 5 p := decide_eq_true_iff
def circJ (T : TW) : Nat → Nat → Int32 → Int32
  | 0, _, s => s
  | m + 1, i, s => circJ T m (i + 1) (if s >>> (nI i &&& 31) &&& 1 = 1 then s ||| T 6 i else s)
def circR (T : TW) (n : Nat) : Nat → Int32 → Int32
  | 0, s => s
  | r + 1, s => circR T n r (circJ T n 0 s)
def circF (T : TW) (n r p : Nat) : Int32 := circR T n r ((1 : Int32) <<< (nI p &&& 31))
def cirB (T : TW) (n r p : Nat) : Bool := decide (circF T n r p &&& ((1 : Int32) <<< (nI p &&& 31) - 1) = 0)
theorem cirB_iff {T : TW} {n r p : Nat} : cirB T n r p = true ↔ circF T n r p &&& ((1 : Int32) <<< (nI p &&& 31) - 1) = 0 := decide_eq_true_iff
set_option maxHeartbeats 4000000 in
set_option maxRecDepth 20000 in
theorem lX5_strangers_1 {sc : pg_Sc} {K : Int32 → pg_S → Prop} {g : pg_S} {T : TW} {n : Nat} (h : CR g 1 T n) (wf : WF T n) : ∀ (m : Nat) (i : Nat) (s : Int32), i + m = n → K (orF (lonF T) m i s) g → pg_Go sc 1 mX5_strangers 4 [(0, .ref 1), (1, .int s), (2, .int (nI i))] [] g (pg_ki K) := by
  intro m
  induction m with
  | zero =>
    intro i s hi k
    obtain rfl : i = n := by omega
    refine go_iload_n (pc' := 5) dX5_strangers_4 rfl rfl ?_
    refine go_aload_n (pc' := 6) dX5_strangers_5 rfl rfl ?_
    refine go_getI (pc' := 9) dX5_strangers_6 rfl flRX5_36 rfl rfl ?_
    rw [c1_people h]
    refine go_icmp_ge (pc' := 12) (tgt := 33) dX5_strangers_9 rfl (by decide) (fun h_9 => ?_) (fun h_9 => absurd (Int32.le_refl _) h_9)
    refine go_iload_n (pc' := 34) dX5_strangers_33 rfl rfl ?_
    refine go_iret dX5_strangers_34 (pg_narI _) ?_
    exact k
  | succ m ih =>
    intro i s hi k
    have hn := wf.1
    have hin : i < n := by omega
    simp only [orF, lonF] at k
    refine go_iload_n (pc' := 5) dX5_strangers_4 rfl rfl ?_
    refine go_aload_n (pc' := 6) dX5_strangers_5 rfl rfl ?_
    refine go_getI (pc' := 9) dX5_strangers_6 rfl flRX5_36 rfl rfl ?_
    rw [c1_people h]
    refine go_icmp_ge (pc' := 12) (tgt := 33) dX5_strangers_9 rfl (by decide) (fun h_9 => absurd h_9 (nI_ge hin (by omega))) (fun h_9 => ?_)
    refine go_aload_n (pc' := 13) dX5_strangers_12 rfl rfl ?_
    refine go_getR (pc' := 16) dX5_strangers_13 rfl flRX5_30 rfl rfl ?_
    refine go_iload_n (pc' := 17) dX5_strangers_16 rfl rfl ?_
    refine go_iald (pc' := 18) _ dX5_strangers_17 rfl rfl rfl (by omega) (by decide) ?_
    rw [c1_know h (by omega)]
    refine go_if_ne (pc' := 21) (tgt := 27) dX5_strangers_18 rfl (by decide) (fun h_18 => ?_) (fun h_18 => ?_)
    · refine go_iinc (pc' := 30) _ dX5_strangers_27 rfl rfl (pg_inc _) (by decide) rfl ?_
      refine go_goto (pc' := 4) dX5_strangers_30 (by decide) ?_
      rw [if_neg h_18, Int32.or_zero] at k
      exact ih (i + 1) _ (by omega) k
    · refine go_iload_n (pc' := 22) dX5_strangers_21 rfl rfl ?_
      refine go_iconst (pc' := 23) 1 dX5_strangers_22 rfl (by decide) ?_
      refine go_iload_n (pc' := 24) dX5_strangers_23 rfl rfl ?_
      refine go_ishl (pc' := 25) dX5_strangers_24 rfl ?_
      refine go_ior (pc' := 26) dX5_strangers_25 rfl ?_
      refine go_istore_n (pc' := 27) dX5_strangers_26 rfl (by decide) rfl ?_
      refine go_iinc (pc' := 30) _ dX5_strangers_27 rfl rfl (pg_inc _) (by decide) rfl ?_
      refine go_goto (pc' := 4) dX5_strangers_30 (by decide) ?_
      rw [if_pos h_18] at k
      exact ih (i + 1) _ (by omega) k

set_option maxHeartbeats 4000000 in
set_option maxRecDepth 20000 in
theorem tX5_strangers_1 {sc : pg_Sc} {g : pg_S} {K : Int32 → pg_S → Prop} {T : TW} {n : Nat} (h : CR g 1 T n) (wf : WF T n) (k : K (orF (lonF T) n 0 0) g) : pg_Cal sc 1 mX5_strangers [.ref 1] g (pg_ki K) := by
  refine pg_Cal.of rfl (Nat.le_of_ble_eq_true rfl) rfl ?_
  refine go_iconst (pc' := 1) 0 dX5_strangers_0 rfl (by decide) ?_
  refine go_istore_n (pc' := 2) dX5_strangers_1 rfl (by decide) rfl ?_
  refine go_iconst (pc' := 3) 0 dX5_strangers_2 rfl (by decide) ?_
  refine go_istore_n (pc' := 4) dX5_strangers_3 rfl (by decide) rfl ?_
  exact lX5_strangers_1 h wf n 0 0 (by omega) k

set_option maxHeartbeats 4000000 in
set_option maxRecDepth 20000 in
theorem lX5_pegsHad_1 {sc : pg_Sc} {K : Int32 → pg_S → Prop} {g : pg_S} {T : TW} {n : Nat} (h : CR g 1 T n) (wf : WF T n) : ∀ (m : Nat) (i : Nat) (s : Int32), i + m = n → K (orF (pgsF T) m i s) g → pg_Go sc 1 mX5_pegsHad 4 [(0, .ref 1), (1, .int s), (2, .int (nI i))] [] g (pg_ki K) := by
  intro m
  induction m with
  | zero =>
    intro i s hi k
    obtain rfl : i = n := by omega
    refine go_iload_n (pc' := 5) dX5_pegsHad_4 rfl rfl ?_
    refine go_aload_n (pc' := 6) dX5_pegsHad_5 rfl rfl ?_
    refine go_getI (pc' := 9) dX5_pegsHad_6 rfl flRX5_36 rfl rfl ?_
    rw [c1_people h]
    refine go_icmp_ge (pc' := 12) (tgt := 29) dX5_pegsHad_9 rfl (by decide) (fun h_9 => ?_) (fun h_9 => absurd (Int32.le_refl _) h_9)
    refine go_iload_n (pc' := 30) dX5_pegsHad_29 rfl rfl ?_
    refine go_iret dX5_pegsHad_30 (pg_narI _) ?_
    exact k
  | succ m ih =>
    intro i s hi k
    have hn := wf.1
    have hin : i < n := by omega
    simp only [orF, pgsF] at k
    refine go_iload_n (pc' := 5) dX5_pegsHad_4 rfl rfl ?_
    refine go_aload_n (pc' := 6) dX5_pegsHad_5 rfl rfl ?_
    refine go_getI (pc' := 9) dX5_pegsHad_6 rfl flRX5_36 rfl rfl ?_
    rw [c1_people h]
    refine go_icmp_ge (pc' := 12) (tgt := 29) dX5_pegsHad_9 rfl (by decide) (fun h_9 => absurd h_9 (nI_ge hin (by omega))) (fun h_9 => ?_)
    refine go_iload_n (pc' := 13) dX5_pegsHad_12 rfl rfl ?_
    refine go_iconst (pc' := 14) 1 dX5_pegsHad_13 rfl (by decide) ?_
    refine go_aload_n (pc' := 15) dX5_pegsHad_14 rfl rfl ?_
    refine go_getR (pc' := 18) dX5_pegsHad_15 rfl flRX5_21 rfl rfl ?_
    refine go_iload_n (pc' := 19) dX5_pegsHad_18 rfl rfl ?_
    refine go_iald (pc' := 20) _ dX5_pegsHad_19 rfl rfl rfl (by omega) (by decide) ?_
    rw [c1_peg h (by omega)]
    refine go_ishl (pc' := 21) dX5_pegsHad_20 rfl ?_
    refine go_ior (pc' := 22) dX5_pegsHad_21 rfl ?_
    refine go_istore_n (pc' := 23) dX5_pegsHad_22 rfl (by decide) rfl ?_
    refine go_iinc (pc' := 26) _ dX5_pegsHad_23 rfl rfl (pg_inc _) (by decide) rfl ?_
    refine go_goto (pc' := 4) dX5_pegsHad_26 (by decide) ?_
    exact ih (i + 1) _ (by omega) k

set_option maxHeartbeats 4000000 in
set_option maxRecDepth 20000 in
theorem tX5_pegsHad_1 {sc : pg_Sc} {g : pg_S} {K : Int32 → pg_S → Prop} {T : TW} {n : Nat} (h : CR g 1 T n) (wf : WF T n) (k : K (orF (pgsF T) n 0 0) g) : pg_Cal sc 1 mX5_pegsHad [.ref 1] g (pg_ki K) := by
  refine pg_Cal.of rfl (Nat.le_of_ble_eq_true rfl) rfl ?_
  refine go_iconst (pc' := 1) 0 dX5_pegsHad_0 rfl (by decide) ?_
  refine go_istore_n (pc' := 2) dX5_pegsHad_1 rfl (by decide) rfl ?_
  refine go_iconst (pc' := 3) 0 dX5_pegsHad_2 rfl (by decide) ?_
  refine go_istore_n (pc' := 4) dX5_pegsHad_3 rfl (by decide) rfl ?_
  exact lX5_pegsHad_1 h wf n 0 0 (by omega) k

set_option maxHeartbeats 4000000 in
set_option maxRecDepth 20000 in
theorem lX5_peopleOfPeg_1 {sc : pg_Sc} {K : Int32 → pg_S → Prop} {g : pg_S} {T : TW} {n : Nat} {x : Int32} (h : CR g 1 T n) (wf : WF T n) : ∀ (m : Nat) (i : Nat) (s : Int32), i + m = n → K (orF (hadF T x) m i s) g → pg_Go sc 1 mX5_peopleOfPeg 4 [(0, .ref 1), (1, .int x), (2, .int s), (3, .int (nI i))] [] g (pg_ki K) := by
  intro m
  induction m with
  | zero =>
    intro i s hi k
    obtain rfl : i = n := by omega
    refine go_iload_n (pc' := 5) dX5_peopleOfPeg_4 rfl rfl ?_
    refine go_aload_n (pc' := 6) dX5_peopleOfPeg_5 rfl rfl ?_
    refine go_getI (pc' := 9) dX5_peopleOfPeg_6 rfl flRX5_36 rfl rfl ?_
    rw [c1_people h]
    refine go_icmp_ge (pc' := 12) (tgt := 34) dX5_peopleOfPeg_9 rfl (by decide) (fun h_9 => ?_) (fun h_9 => absurd (Int32.le_refl _) h_9)
    refine go_iload_n (pc' := 35) dX5_peopleOfPeg_34 rfl rfl ?_
    refine go_iret dX5_peopleOfPeg_35 (pg_narI _) ?_
    exact k
  | succ m ih =>
    intro i s hi k
    have hn := wf.1
    have hin : i < n := by omega
    simp only [orF, hadF] at k
    refine go_iload_n (pc' := 5) dX5_peopleOfPeg_4 rfl rfl ?_
    refine go_aload_n (pc' := 6) dX5_peopleOfPeg_5 rfl rfl ?_
    refine go_getI (pc' := 9) dX5_peopleOfPeg_6 rfl flRX5_36 rfl rfl ?_
    rw [c1_people h]
    refine go_icmp_ge (pc' := 12) (tgt := 34) dX5_peopleOfPeg_9 rfl (by decide) (fun h_9 => absurd h_9 (nI_ge hin (by omega))) (fun h_9 => ?_)
    refine go_aload_n (pc' := 13) dX5_peopleOfPeg_12 rfl rfl ?_
    refine go_getR (pc' := 16) dX5_peopleOfPeg_13 rfl flRX5_21 rfl rfl ?_
    refine go_iload_n (pc' := 17) dX5_peopleOfPeg_16 rfl rfl ?_
    refine go_iald (pc' := 18) _ dX5_peopleOfPeg_17 rfl rfl rfl (by omega) (by decide) ?_
    rw [c1_peg h (by omega)]
    refine go_iload_n (pc' := 19) dX5_peopleOfPeg_18 rfl rfl ?_
    refine go_icmp_ne (pc' := 22) (tgt := 28) dX5_peopleOfPeg_19 rfl (by decide) (fun h_19 => ?_) (fun h_19 => ?_)
    · refine go_iinc (pc' := 31) _ dX5_peopleOfPeg_28 rfl rfl (pg_inc _) (by decide) rfl ?_
      refine go_goto (pc' := 4) dX5_peopleOfPeg_31 (by decide) ?_
      rw [if_neg h_19, Int32.or_zero] at k
      exact ih (i + 1) _ (by omega) k
    · refine go_iload_n (pc' := 23) dX5_peopleOfPeg_22 rfl rfl ?_
      refine go_iconst (pc' := 24) 1 dX5_peopleOfPeg_23 rfl (by decide) ?_
      refine go_iload_n (pc' := 25) dX5_peopleOfPeg_24 rfl rfl ?_
      refine go_ishl (pc' := 26) dX5_peopleOfPeg_25 rfl ?_
      refine go_ior (pc' := 27) dX5_peopleOfPeg_26 rfl ?_
      refine go_istore_n (pc' := 28) dX5_peopleOfPeg_27 rfl (by decide) rfl ?_
      refine go_iinc (pc' := 31) _ dX5_peopleOfPeg_28 rfl rfl (pg_inc _) (by decide) rfl ?_
      refine go_goto (pc' := 4) dX5_peopleOfPeg_31 (by decide) ?_
      rw [if_pos h_19] at k
      exact ih (i + 1) _ (by omega) k

set_option maxHeartbeats 4000000 in
set_option maxRecDepth 20000 in
theorem tX5_peopleOfPeg_1 {sc : pg_Sc} {g : pg_S} {K : Int32 → pg_S → Prop} {T : TW} {n : Nat} {x : Int32} (h : CR g 1 T n) (wf : WF T n) (k : K (orF (hadF T x) n 0 0) g) : pg_Cal sc 1 mX5_peopleOfPeg [.ref 1, .int x] g (pg_ki K) := by
  refine pg_Cal.of rfl (Nat.le_of_ble_eq_true rfl) rfl ?_
  refine go_iconst (pc' := 1) 0 dX5_peopleOfPeg_0 rfl (by decide) ?_
  refine go_istore_n (pc' := 2) dX5_peopleOfPeg_1 rfl (by decide) rfl ?_
  refine go_iconst (pc' := 3) 0 dX5_peopleOfPeg_2 rfl (by decide) ?_
  refine go_istore_n (pc' := 4) dX5_peopleOfPeg_3 rfl (by decide) rfl ?_
  exact lX5_peopleOfPeg_1 h wf n 0 0 (by omega) k

set_option maxHeartbeats 4000000 in
set_option maxRecDepth 20000 in
theorem lX5_placesTaken_1 {sc : pg_Sc} {K : Int32 → pg_S → Prop} {g : pg_S} {T : TW} {n : Nat} (h : CR g 1 T n) (wf : WF T n) : ∀ (m : Nat) (i : Nat) (s : Int32), i + m = n → K (orF (plcF T) m i s) g → pg_Go sc 1 mX5_placesTaken 4 [(0, .ref 1), (1, .int s), (2, .int (nI i))] [] g (pg_ki K) := by
  intro m
  induction m with
  | zero =>
    intro i s hi k
    obtain rfl : i = n := by omega
    refine go_iload_n (pc' := 5) dX5_placesTaken_4 rfl rfl ?_
    refine go_aload_n (pc' := 6) dX5_placesTaken_5 rfl rfl ?_
    refine go_getI (pc' := 9) dX5_placesTaken_6 rfl flRX5_36 rfl rfl ?_
    rw [c1_people h]
    refine go_icmp_ge (pc' := 12) (tgt := 29) dX5_placesTaken_9 rfl (by decide) (fun h_9 => ?_) (fun h_9 => absurd (Int32.le_refl _) h_9)
    refine go_iload_n (pc' := 30) dX5_placesTaken_29 rfl rfl ?_
    refine go_iret dX5_placesTaken_30 (pg_narI _) ?_
    exact k
  | succ m ih =>
    intro i s hi k
    have hn := wf.1
    have hin : i < n := by omega
    simp only [orF, plcF] at k
    refine go_iload_n (pc' := 5) dX5_placesTaken_4 rfl rfl ?_
    refine go_aload_n (pc' := 6) dX5_placesTaken_5 rfl rfl ?_
    refine go_getI (pc' := 9) dX5_placesTaken_6 rfl flRX5_36 rfl rfl ?_
    rw [c1_people h]
    refine go_icmp_ge (pc' := 12) (tgt := 29) dX5_placesTaken_9 rfl (by decide) (fun h_9 => absurd h_9 (nI_ge hin (by omega))) (fun h_9 => ?_)
    refine go_iload_n (pc' := 13) dX5_placesTaken_12 rfl rfl ?_
    refine go_iconst (pc' := 14) 1 dX5_placesTaken_13 rfl (by decide) ?_
    refine go_aload_n (pc' := 15) dX5_placesTaken_14 rfl rfl ?_
    refine go_getR (pc' := 18) dX5_placesTaken_15 rfl flRX5_27 rfl rfl ?_
    refine go_iload_n (pc' := 19) dX5_placesTaken_18 rfl rfl ?_
    refine go_iald (pc' := 20) _ dX5_placesTaken_19 rfl rfl rfl (by omega) (by decide) ?_
    rw [c1_place h (by omega)]
    refine go_ishl (pc' := 21) dX5_placesTaken_20 rfl ?_
    refine go_ior (pc' := 22) dX5_placesTaken_21 rfl ?_
    refine go_istore_n (pc' := 23) dX5_placesTaken_22 rfl (by decide) rfl ?_
    refine go_iinc (pc' := 26) _ dX5_placesTaken_23 rfl rfl (pg_inc _) (by decide) rfl ?_
    refine go_goto (pc' := 4) dX5_placesTaken_26 (by decide) ?_
    exact ih (i + 1) _ (by omega) k

set_option maxHeartbeats 4000000 in
set_option maxRecDepth 20000 in
theorem tX5_placesTaken_1 {sc : pg_Sc} {g : pg_S} {K : Int32 → pg_S → Prop} {T : TW} {n : Nat} (h : CR g 1 T n) (wf : WF T n) (k : K (orF (plcF T) n 0 0) g) : pg_Cal sc 1 mX5_placesTaken [.ref 1] g (pg_ki K) := by
  refine pg_Cal.of rfl (Nat.le_of_ble_eq_true rfl) rfl ?_
  refine go_iconst (pc' := 1) 0 dX5_placesTaken_0 rfl (by decide) ?_
  refine go_istore_n (pc' := 2) dX5_placesTaken_1 rfl (by decide) rfl ?_
  refine go_iconst (pc' := 3) 0 dX5_placesTaken_2 rfl (by decide) ?_
  refine go_istore_n (pc' := 4) dX5_placesTaken_3 rfl (by decide) rfl ?_
  exact lX5_placesTaken_1 h wf n 0 0 (by omega) k

set_option maxHeartbeats 4000000 in
set_option maxRecDepth 20000 in
theorem lX5_othersBeside_1 {sc : pg_Sc} {K : Int32 → pg_S → Prop} {g : pg_S} {T : TW} {n : Nat} {p : Nat} (h : CR g 1 T n) (wf : WF T n) (hp : p < n) : ∀ (m : Nat) (i : Nat) (s : Int32), i + m = n → K (cntF (besF T p) m i s) g → pg_Go sc 1 mX5_othersBeside 4 [(0, .ref 1), (1, .int (nI p)), (2, .int s), (3, .int (nI i))] [] g (pg_ki K) := by
  intro m
  induction m with
  | zero =>
    intro i s hi k
    obtain rfl : i = n := by omega
    refine go_iload_n (pc' := 5) dX5_othersBeside_4 rfl rfl ?_
    refine go_aload_n (pc' := 6) dX5_othersBeside_5 rfl rfl ?_
    refine go_getI (pc' := 9) dX5_othersBeside_6 rfl flRX5_36 rfl rfl ?_
    rw [c1_people h]
    refine go_icmp_ge (pc' := 12) (tgt := 41) dX5_othersBeside_9 rfl (by decide) (fun h_9 => ?_) (fun h_9 => absurd (Int32.le_refl _) h_9)
    refine go_iload_n (pc' := 42) dX5_othersBeside_41 rfl rfl ?_
    refine go_iret dX5_othersBeside_42 (pg_narI _) ?_
    exact k
  | succ m ih =>
    intro i s hi k
    have hn := wf.1
    have hin : i < n := by omega
    simp only [cntF] at k
    refine go_iload_n (pc' := 5) dX5_othersBeside_4 rfl rfl ?_
    refine go_aload_n (pc' := 6) dX5_othersBeside_5 rfl rfl ?_
    refine go_getI (pc' := 9) dX5_othersBeside_6 rfl flRX5_36 rfl rfl ?_
    rw [c1_people h]
    refine go_icmp_ge (pc' := 12) (tgt := 41) dX5_othersBeside_9 rfl (by decide) (fun h_9 => absurd h_9 (nI_ge hin (by omega))) (fun h_9 => ?_)
    refine go_iload_n (pc' := 13) dX5_othersBeside_12 rfl rfl ?_
    refine go_iload_n (pc' := 14) dX5_othersBeside_13 rfl rfl ?_
    refine go_icmp_eq (pc' := 17) (tgt := 35) dX5_othersBeside_14 rfl (by decide) (fun h_14 => ?_) (fun h_14 => ?_)
    · refine go_iinc (pc' := 38) _ dX5_othersBeside_35 rfl rfl (pg_inc _) (by decide) rfl ?_
      refine go_goto (pc' := 4) dX5_othersBeside_38 (by decide) ?_
      rw [if_neg (fun q => (besF_iff.mp q).1 ((nI_eq (by omega) (by omega)).mp h_14))] at k
      exact ih (i + 1) _ (by omega) k
    · refine go_aload_n (pc' := 18) dX5_othersBeside_17 rfl rfl ?_
      refine go_getR (pc' := 21) dX5_othersBeside_18 rfl flRX5_27 rfl rfl ?_
      refine go_iload_n (pc' := 22) dX5_othersBeside_21 rfl rfl ?_
      refine go_iald (pc' := 23) _ dX5_othersBeside_22 rfl rfl rfl (by omega) (by decide) ?_
      rw [c1_place h (by omega)]
      refine go_aload_n (pc' := 24) dX5_othersBeside_23 rfl rfl ?_
      refine go_getR (pc' := 27) dX5_othersBeside_24 rfl flRX5_27 rfl rfl ?_
      refine go_iload_n (pc' := 28) dX5_othersBeside_27 rfl rfl ?_
      refine go_iald (pc' := 29) _ dX5_othersBeside_28 rfl rfl rfl (by omega) (by decide) ?_
      rw [c1_place h (by omega)]
      refine go_icmp_ne (pc' := 32) (tgt := 35) dX5_othersBeside_29 rfl (by decide) (fun h_29 => ?_) (fun h_29 => ?_)
      · refine go_iinc (pc' := 38) _ dX5_othersBeside_35 rfl rfl (pg_inc _) (by decide) rfl ?_
        refine go_goto (pc' := 4) dX5_othersBeside_38 (by decide) ?_
        rw [if_neg (fun q => h_29 (besF_iff.mp q).2)] at k
        exact ih (i + 1) _ (by omega) k
      · refine go_iinc (pc' := 35) _ dX5_othersBeside_32 rfl rfl (pg_inc' _) (by decide) rfl ?_
        refine go_iinc (pc' := 38) _ dX5_othersBeside_35 rfl rfl (pg_inc _) (by decide) rfl ?_
        refine go_goto (pc' := 4) dX5_othersBeside_38 (by decide) ?_
        rw [if_pos (besF_iff.mpr ⟨fun q => h_14 (by rw [q]), h_29⟩)] at k
        exact ih (i + 1) _ (by omega) k

set_option maxHeartbeats 4000000 in
set_option maxRecDepth 20000 in
theorem tX5_othersBeside_1 {sc : pg_Sc} {g : pg_S} {K : Int32 → pg_S → Prop} {T : TW} {n : Nat} {p : Nat} (h : CR g 1 T n) (wf : WF T n) (hp : p < n) (k : K (cntF (besF T p) n 0 0) g) : pg_Cal sc 1 mX5_othersBeside [.ref 1, .int (nI p)] g (pg_ki K) := by
  refine pg_Cal.of rfl (Nat.le_of_ble_eq_true rfl) rfl ?_
  refine go_iconst (pc' := 1) 0 dX5_othersBeside_0 rfl (by decide) ?_
  refine go_istore_n (pc' := 2) dX5_othersBeside_1 rfl (by decide) rfl ?_
  refine go_iconst (pc' := 3) 0 dX5_othersBeside_2 rfl (by decide) ?_
  refine go_istore_n (pc' := 4) dX5_othersBeside_3 rfl (by decide) rfl ?_
  exact lX5_othersBeside_1 h wf hp n 0 0 (by omega) k

set_option maxHeartbeats 4000000 in
set_option maxRecDepth 20000 in
theorem lX5_placesTaken_10 {sc : pg_Sc} {K : Int32 → pg_S → Prop} {g : pg_S} {T : TW} {n : Nat} (h : CR g 10 T n) (wf : WF T n) : ∀ (m : Nat) (i : Nat) (s : Int32), i + m = n → K (orF (plcF T) m i s) g → pg_Go sc 1 mX5_placesTaken 4 [(0, .ref 10), (1, .int s), (2, .int (nI i))] [] g (pg_ki K) := by
  intro m
  induction m with
  | zero =>
    intro i s hi k
    obtain rfl : i = n := by omega
    refine go_iload_n (pc' := 5) dX5_placesTaken_4 rfl rfl ?_
    refine go_aload_n (pc' := 6) dX5_placesTaken_5 rfl rfl ?_
    refine go_getI (pc' := 9) dX5_placesTaken_6 rfl flRX5_36 rfl rfl ?_
    rw [c10_people h]
    refine go_icmp_ge (pc' := 12) (tgt := 29) dX5_placesTaken_9 rfl (by decide) (fun h_9 => ?_) (fun h_9 => absurd (Int32.le_refl _) h_9)
    refine go_iload_n (pc' := 30) dX5_placesTaken_29 rfl rfl ?_
    refine go_iret dX5_placesTaken_30 (pg_narI _) ?_
    exact k
  | succ m ih =>
    intro i s hi k
    have hn := wf.1
    have hin : i < n := by omega
    simp only [orF, plcF] at k
    refine go_iload_n (pc' := 5) dX5_placesTaken_4 rfl rfl ?_
    refine go_aload_n (pc' := 6) dX5_placesTaken_5 rfl rfl ?_
    refine go_getI (pc' := 9) dX5_placesTaken_6 rfl flRX5_36 rfl rfl ?_
    rw [c10_people h]
    refine go_icmp_ge (pc' := 12) (tgt := 29) dX5_placesTaken_9 rfl (by decide) (fun h_9 => absurd h_9 (nI_ge hin (by omega))) (fun h_9 => ?_)
    refine go_iload_n (pc' := 13) dX5_placesTaken_12 rfl rfl ?_
    refine go_iconst (pc' := 14) 1 dX5_placesTaken_13 rfl (by decide) ?_
    refine go_aload_n (pc' := 15) dX5_placesTaken_14 rfl rfl ?_
    refine go_getR (pc' := 18) dX5_placesTaken_15 rfl flRX5_27 rfl rfl ?_
    refine go_iload_n (pc' := 19) dX5_placesTaken_18 rfl rfl ?_
    refine go_iald (pc' := 20) _ dX5_placesTaken_19 rfl rfl rfl (by omega) (by decide) ?_
    rw [c10_place h (by omega)]
    refine go_ishl (pc' := 21) dX5_placesTaken_20 rfl ?_
    refine go_ior (pc' := 22) dX5_placesTaken_21 rfl ?_
    refine go_istore_n (pc' := 23) dX5_placesTaken_22 rfl (by decide) rfl ?_
    refine go_iinc (pc' := 26) _ dX5_placesTaken_23 rfl rfl (pg_inc _) (by decide) rfl ?_
    refine go_goto (pc' := 4) dX5_placesTaken_26 (by decide) ?_
    exact ih (i + 1) _ (by omega) k

set_option maxHeartbeats 4000000 in
set_option maxRecDepth 20000 in
theorem tX5_placesTaken_10 {sc : pg_Sc} {g : pg_S} {K : Int32 → pg_S → Prop} {T : TW} {n : Nat} (h : CR g 10 T n) (wf : WF T n) (k : K (orF (plcF T) n 0 0) g) : pg_Cal sc 1 mX5_placesTaken [.ref 10] g (pg_ki K) := by
  refine pg_Cal.of rfl (Nat.le_of_ble_eq_true rfl) rfl ?_
  refine go_iconst (pc' := 1) 0 dX5_placesTaken_0 rfl (by decide) ?_
  refine go_istore_n (pc' := 2) dX5_placesTaken_1 rfl (by decide) rfl ?_
  refine go_iconst (pc' := 3) 0 dX5_placesTaken_2 rfl (by decide) ?_
  refine go_istore_n (pc' := 4) dX5_placesTaken_3 rfl (by decide) rfl ?_
  exact lX5_placesTaken_10 h wf n 0 0 (by omega) k

set_option maxHeartbeats 4000000 in
set_option maxRecDepth 20000 in
theorem lX5_othersBeside_10 {sc : pg_Sc} {K : Int32 → pg_S → Prop} {g : pg_S} {T : TW} {n : Nat} {p : Nat} (h : CR g 10 T n) (wf : WF T n) (hp : p < n) : ∀ (m : Nat) (i : Nat) (s : Int32), i + m = n → K (cntF (besF T p) m i s) g → pg_Go sc 1 mX5_othersBeside 4 [(0, .ref 10), (1, .int (nI p)), (2, .int s), (3, .int (nI i))] [] g (pg_ki K) := by
  intro m
  induction m with
  | zero =>
    intro i s hi k
    obtain rfl : i = n := by omega
    refine go_iload_n (pc' := 5) dX5_othersBeside_4 rfl rfl ?_
    refine go_aload_n (pc' := 6) dX5_othersBeside_5 rfl rfl ?_
    refine go_getI (pc' := 9) dX5_othersBeside_6 rfl flRX5_36 rfl rfl ?_
    rw [c10_people h]
    refine go_icmp_ge (pc' := 12) (tgt := 41) dX5_othersBeside_9 rfl (by decide) (fun h_9 => ?_) (fun h_9 => absurd (Int32.le_refl _) h_9)
    refine go_iload_n (pc' := 42) dX5_othersBeside_41 rfl rfl ?_
    refine go_iret dX5_othersBeside_42 (pg_narI _) ?_
    exact k
  | succ m ih =>
    intro i s hi k
    have hn := wf.1
    have hin : i < n := by omega
    simp only [cntF] at k
    refine go_iload_n (pc' := 5) dX5_othersBeside_4 rfl rfl ?_
    refine go_aload_n (pc' := 6) dX5_othersBeside_5 rfl rfl ?_
    refine go_getI (pc' := 9) dX5_othersBeside_6 rfl flRX5_36 rfl rfl ?_
    rw [c10_people h]
    refine go_icmp_ge (pc' := 12) (tgt := 41) dX5_othersBeside_9 rfl (by decide) (fun h_9 => absurd h_9 (nI_ge hin (by omega))) (fun h_9 => ?_)
    refine go_iload_n (pc' := 13) dX5_othersBeside_12 rfl rfl ?_
    refine go_iload_n (pc' := 14) dX5_othersBeside_13 rfl rfl ?_
    refine go_icmp_eq (pc' := 17) (tgt := 35) dX5_othersBeside_14 rfl (by decide) (fun h_14 => ?_) (fun h_14 => ?_)
    · refine go_iinc (pc' := 38) _ dX5_othersBeside_35 rfl rfl (pg_inc _) (by decide) rfl ?_
      refine go_goto (pc' := 4) dX5_othersBeside_38 (by decide) ?_
      rw [if_neg (fun q => (besF_iff.mp q).1 ((nI_eq (by omega) (by omega)).mp h_14))] at k
      exact ih (i + 1) _ (by omega) k
    · refine go_aload_n (pc' := 18) dX5_othersBeside_17 rfl rfl ?_
      refine go_getR (pc' := 21) dX5_othersBeside_18 rfl flRX5_27 rfl rfl ?_
      refine go_iload_n (pc' := 22) dX5_othersBeside_21 rfl rfl ?_
      refine go_iald (pc' := 23) _ dX5_othersBeside_22 rfl rfl rfl (by omega) (by decide) ?_
      rw [c10_place h (by omega)]
      refine go_aload_n (pc' := 24) dX5_othersBeside_23 rfl rfl ?_
      refine go_getR (pc' := 27) dX5_othersBeside_24 rfl flRX5_27 rfl rfl ?_
      refine go_iload_n (pc' := 28) dX5_othersBeside_27 rfl rfl ?_
      refine go_iald (pc' := 29) _ dX5_othersBeside_28 rfl rfl rfl (by omega) (by decide) ?_
      rw [c10_place h (by omega)]
      refine go_icmp_ne (pc' := 32) (tgt := 35) dX5_othersBeside_29 rfl (by decide) (fun h_29 => ?_) (fun h_29 => ?_)
      · refine go_iinc (pc' := 38) _ dX5_othersBeside_35 rfl rfl (pg_inc _) (by decide) rfl ?_
        refine go_goto (pc' := 4) dX5_othersBeside_38 (by decide) ?_
        rw [if_neg (fun q => h_29 (besF_iff.mp q).2)] at k
        exact ih (i + 1) _ (by omega) k
      · refine go_iinc (pc' := 35) _ dX5_othersBeside_32 rfl rfl (pg_inc' _) (by decide) rfl ?_
        refine go_iinc (pc' := 38) _ dX5_othersBeside_35 rfl rfl (pg_inc _) (by decide) rfl ?_
        refine go_goto (pc' := 4) dX5_othersBeside_38 (by decide) ?_
        rw [if_pos (besF_iff.mpr ⟨fun q => h_14 (by rw [q]), h_29⟩)] at k
        exact ih (i + 1) _ (by omega) k

set_option maxHeartbeats 4000000 in
set_option maxRecDepth 20000 in
theorem tX5_othersBeside_10 {sc : pg_Sc} {g : pg_S} {K : Int32 → pg_S → Prop} {T : TW} {n : Nat} {p : Nat} (h : CR g 10 T n) (wf : WF T n) (hp : p < n) (k : K (cntF (besF T p) n 0 0) g) : pg_Cal sc 1 mX5_othersBeside [.ref 10, .int (nI p)] g (pg_ki K) := by
  refine pg_Cal.of rfl (Nat.le_of_ble_eq_true rfl) rfl ?_
  refine go_iconst (pc' := 1) 0 dX5_othersBeside_0 rfl (by decide) ?_
  refine go_istore_n (pc' := 2) dX5_othersBeside_1 rfl (by decide) rfl ?_
  refine go_iconst (pc' := 3) 0 dX5_othersBeside_2 rfl (by decide) ?_
  refine go_istore_n (pc' := 4) dX5_othersBeside_3 rfl (by decide) rfl ?_
  exact lX5_othersBeside_10 h wf hp n 0 0 (by omega) k

set_option maxHeartbeats 4000000 in
set_option maxRecDepth 20000 in
theorem lX5_wholeWeight {sc : pg_Sc} {K : Int32 → pg_S → Prop} {g : pg_S} {T : TW} {n : Nat} (h : CR g 1 T n) (wf : WF T n) : ∀ (m : Nat) (i : Nat) (s : Int32), i + m = 6 → K (addF (T 1) m i s) g → pg_Go sc 1 mX5_wholeWeight 4 [(0, .ref 1), (1, .int s), (2, .int (nI i))] [] g (pg_ki K) := by
  intro m
  induction m with
  | zero =>
    intro i s hi k
    obtain rfl : i = 6 := by omega
    refine go_iload_n (pc' := 5) dX5_wholeWeight_4 rfl rfl ?_
    refine go_bipush (pc' := 7) 6 dX5_wholeWeight_5 rfl (by decide) ?_
    refine go_icmp_ge (pc' := 10) (tgt := 25) dX5_wholeWeight_7 rfl (by decide) (fun h_7 => ?_) (fun h_7 => absurd (Int32.le_refl _) h_7)
    refine go_iload_n (pc' := 26) dX5_wholeWeight_25 rfl rfl ?_
    refine go_iret dX5_wholeWeight_26 (pg_narI _) ?_
    exact k
  | succ m ih =>
    intro i s hi k
    have hn := wf.1
    have hin : i < 6 := by omega
    simp only [addF] at k
    refine go_iload_n (pc' := 5) dX5_wholeWeight_4 rfl rfl ?_
    refine go_bipush (pc' := 7) 6 dX5_wholeWeight_5 rfl (by decide) ?_
    refine go_icmp_ge (pc' := 10) (tgt := 25) dX5_wholeWeight_7 rfl (by decide) (fun h_7 => absurd h_7 (nI_ge (b := 6) hin (by decide))) (fun h_7 => ?_)
    refine go_iload_n (pc' := 11) dX5_wholeWeight_10 rfl rfl ?_
    refine go_aload_n (pc' := 12) dX5_wholeWeight_11 rfl rfl ?_
    refine go_getR (pc' := 15) dX5_wholeWeight_12 rfl flRX5_15 rfl rfl ?_
    refine go_iload_n (pc' := 16) dX5_wholeWeight_15 rfl rfl ?_
    refine go_iald (pc' := 17) _ dX5_wholeWeight_16 rfl rfl rfl (by omega) (by decide) ?_
    rw [c1_weight h (by first | decide | omega)]
    refine go_iadd (pc' := 18) dX5_wholeWeight_17 rfl ?_
    refine go_istore_n (pc' := 19) dX5_wholeWeight_18 rfl (by decide) rfl ?_
    refine go_iinc (pc' := 22) _ dX5_wholeWeight_19 rfl rfl (pg_inc _) (by decide) rfl ?_
    refine go_goto (pc' := 4) dX5_wholeWeight_22 (by decide) ?_
    exact ih (i + 1) _ (by omega) k

set_option maxHeartbeats 4000000 in
set_option maxRecDepth 20000 in
theorem tX5_wholeWeight_1 {sc : pg_Sc} {g : pg_S} {K : Int32 → pg_S → Prop} {T : TW} {n : Nat} (h : CR g 1 T n) (wf : WF T n) (k : K (addF (T 1) 6 0 0) g) : pg_Cal sc 1 mX5_wholeWeight [.ref 1] g (pg_ki K) := by
  refine pg_Cal.of rfl (Nat.le_of_ble_eq_true rfl) rfl ?_
  refine go_iconst (pc' := 1) 0 dX5_wholeWeight_0 rfl (by decide) ?_
  refine go_istore_n (pc' := 2) dX5_wholeWeight_1 rfl (by decide) rfl ?_
  refine go_iconst (pc' := 3) 0 dX5_wholeWeight_2 rfl (by decide) ?_
  refine go_istore_n (pc' := 4) dX5_wholeWeight_3 rfl (by decide) rfl ?_
  exact lX5_wholeWeight h wf 6 0 0 (by omega) k

set_option maxHeartbeats 4000000 in
set_option maxRecDepth 20000 in
theorem lX7_weights {sc : pg_Sc} {K : Int32 → pg_S → Prop} {g : pg_S} {T : TW} {n : Nat} (h : MR g 60 T n) (wf : WF T n) : ∀ (m : Nat) (i : Nat) (s : Int32), i + m = 6 → K (addF (T 1) m i s) g → pg_Go sc 1 mX7_weights 4 [(0, .ref 59), (1, .int s), (2, .int (nI i))] [] g (pg_ki K) := by
  intro m
  induction m with
  | zero =>
    intro i s hi k
    obtain rfl : i = 6 := by omega
    refine go_iload_n (pc' := 5) dX7_weights_4 rfl rfl ?_
    refine go_bipush (pc' := 7) 6 dX7_weights_5 rfl (by decide) ?_
    refine go_icmp_ge (pc' := 10) (tgt := 28) dX7_weights_7 rfl (by decide) (fun h_7 => ?_) (fun h_7 => absurd (Int32.le_refl _) h_7)
    refine go_iload_n (pc' := 29) dX7_weights_28 rfl rfl ?_
    refine go_iret dX7_weights_29 (pg_narI _) ?_
    exact k
  | succ m ih =>
    intro i s hi k
    have hn := wf.1
    have hin : i < 6 := by omega
    simp only [addF] at k
    refine go_iload_n (pc' := 5) dX7_weights_4 rfl rfl ?_
    refine go_bipush (pc' := 7) 6 dX7_weights_5 rfl (by decide) ?_
    refine go_icmp_ge (pc' := 10) (tgt := 28) dX7_weights_7 rfl (by decide) (fun h_7 => absurd h_7 (nI_ge (b := 6) hin (by decide))) (fun h_7 => ?_)
    refine go_iload_n (pc' := 11) dX7_weights_10 rfl rfl ?_
    refine go_aload_n (pc' := 12) dX7_weights_11 rfl rfl ?_
    refine go_getR (pc' := 15) dX7_weights_12 rfl flRX7_7 rfl rfl ?_
    refine go_bipush (pc' := 17) 7 dX7_weights_15 rfl (by decide) ?_
    refine go_iload_n (pc' := 18) dX7_weights_17 rfl rfl ?_
    refine go_iadd (pc' := 19) dX7_weights_18 rfl ?_
    refine go_iald (pc' := 20) (7 + i) dX7_weights_19 rfl rfl (by rw [show (7 : Int32) = nI 7 from rfl, nI_add]) (by omega) (by decide) ?_
    rw [m60_weight h hin]
    refine go_iadd (pc' := 21) dX7_weights_20 rfl ?_
    refine go_istore_n (pc' := 22) dX7_weights_21 rfl (by decide) rfl ?_
    refine go_iinc (pc' := 25) _ dX7_weights_22 rfl rfl (pg_inc _) (by decide) rfl ?_
    refine go_goto (pc' := 4) dX7_weights_25 (by decide) ?_
    exact ih (i + 1) _ (by omega) k

set_option maxHeartbeats 4000000 in
set_option maxRecDepth 20000 in
theorem tX7_weights {sc : pg_Sc} {g : pg_S} {K : Int32 → pg_S → Prop} {T : TW} {n : Nat} (h : MR g 60 T n) (wf : WF T n) (k : K (addF (T 1) 6 0 0) g) : pg_Cal sc 1 mX7_weights [.ref 59] g (pg_ki K) := by
  refine pg_Cal.of rfl (Nat.le_of_ble_eq_true rfl) rfl ?_
  refine go_iconst (pc' := 1) 0 dX7_weights_0 rfl (by decide) ?_
  refine go_istore_n (pc' := 2) dX7_weights_1 rfl (by decide) rfl ?_
  refine go_iconst (pc' := 3) 0 dX7_weights_2 rfl (by decide) ?_
  refine go_istore_n (pc' := 4) dX7_weights_3 rfl (by decide) rfl ?_
  exact lX7_weights h wf 6 0 0 (by omega) k

set_option maxHeartbeats 4000000 in
set_option maxRecDepth 20000 in
theorem lX5_rests {sc : pg_Sc} {K : Int32 → pg_S → Prop} {g : pg_S} {T : TW} {n : Nat} {p q : Nat} (h : CR g 1 T n) (wf : WF T n) (hp : p < n) (hq : q < n) : ∀ (m : Nat) (i : Nat) (s : Int32), i + m = 10 → K (orF (rstF T p q) m i s) g → pg_Go sc 2 mX5_restsOfDifference 5 [(0, .ref 1), (1, .int (nI p)), (2, .int (nI q)), (3, .int s), (4, .int (nI i))] [] g (pg_ki K) := by
  intro m
  induction m with
  | zero =>
    intro i s hi k
    obtain rfl : i = 10 := by omega
    refine go_iload (pc' := 7) dX5_restsOfDifference_5 rfl rfl ?_
    refine go_bipush (pc' := 9) 10 dX5_restsOfDifference_7 rfl (by decide) ?_
    refine go_icmp_ge (pc' := 12) (tgt := 42) dX5_restsOfDifference_9 rfl (by decide) (fun h_9 => ?_) (fun h_9 => absurd (Int32.le_refl _) h_9)
    refine go_iload_n (pc' := 43) dX5_restsOfDifference_42 rfl rfl ?_
    refine go_iret dX5_restsOfDifference_43 (pg_narI _) ?_
    exact k
  | succ m ih =>
    intro i s hi k
    have hn := wf.1
    have hin : i < 10 := by omega
    simp only [orF, rstF] at k
    refine go_iload (pc' := 7) dX5_restsOfDifference_5 rfl rfl ?_
    refine go_bipush (pc' := 9) 10 dX5_restsOfDifference_7 rfl (by decide) ?_
    refine go_icmp_ge (pc' := 12) (tgt := 42) dX5_restsOfDifference_9 rfl (by decide) (fun h_9 => absurd h_9 (nI_ge (b := 10) hin (by decide))) (fun h_9 => ?_)
    refine go_aload_n (pc' := 13) dX5_restsOfDifference_12 rfl rfl ?_
    refine go_iload_n (pc' := 14) dX5_restsOfDifference_13 rfl rfl ?_
    refine go_iload (pc' := 16) dX5_restsOfDifference_14 rfl rfl ?_
    refine go_cVi2 (pc' := 19) (M' := mX5_leanAt) (d' := 1) dX5_restsOfDifference_16 rfl cvRX5_71 rfl rfl (by decide) rfl (Nat.le_of_ble_eq_true rfl) ?_
    refine tX5_leanAt_1 h wf hp ?_
    refine go_aload_n (pc' := 20) dX5_restsOfDifference_19 rfl rfl ?_
    refine go_iload_n (pc' := 21) dX5_restsOfDifference_20 rfl rfl ?_
    refine go_iload (pc' := 23) dX5_restsOfDifference_21 rfl rfl ?_
    refine go_cVi2 (pc' := 26) (M' := mX5_leanAt) (d' := 1) dX5_restsOfDifference_23 rfl cvRX5_71 rfl rfl (by decide) rfl (Nat.le_of_ble_eq_true rfl) ?_
    refine tX5_leanAt_1 h wf hq ?_
    refine go_icmp_eq (pc' := 29) (tgt := 36) dX5_restsOfDifference_26 rfl (by decide) (fun h_26 => ?_) (fun h_26 => ?_)
    · refine go_iinc (pc' := 39) _ dX5_restsOfDifference_36 rfl rfl (pg_inc _) (by decide) rfl ?_
      refine go_goto (pc' := 5) dX5_restsOfDifference_39 (by decide) ?_
      rw [if_pos h_26, Int32.or_zero] at k
      exact ih (i + 1) _ (by omega) k
    · refine go_iload_n (pc' := 30) dX5_restsOfDifference_29 rfl rfl ?_
      refine go_iconst (pc' := 31) 1 dX5_restsOfDifference_30 rfl (by decide) ?_
      refine go_iload (pc' := 33) dX5_restsOfDifference_31 rfl rfl ?_
      refine go_ishl (pc' := 34) dX5_restsOfDifference_33 rfl ?_
      refine go_ior (pc' := 35) dX5_restsOfDifference_34 rfl ?_
      refine go_istore_n (pc' := 36) dX5_restsOfDifference_35 rfl (by decide) rfl ?_
      refine go_iinc (pc' := 39) _ dX5_restsOfDifference_36 rfl rfl (pg_inc _) (by decide) rfl ?_
      refine go_goto (pc' := 5) dX5_restsOfDifference_39 (by decide) ?_
      rw [if_neg h_26] at k
      exact ih (i + 1) _ (by omega) k

set_option maxHeartbeats 4000000 in
set_option maxRecDepth 20000 in
theorem tX5_rests {sc : pg_Sc} {g : pg_S} {K : Int32 → pg_S → Prop} {T : TW} {n : Nat} {p q : Nat} (h : CR g 1 T n) (wf : WF T n) (hp : p < n) (hq : q < n) (k : K (orF (rstF T p q) 10 0 0) g) : pg_Cal sc 2 mX5_restsOfDifference [.ref 1, .int (nI p), .int (nI q)] g (pg_ki K) := by
  refine pg_Cal.of rfl (Nat.le_of_ble_eq_true rfl) rfl ?_
  refine go_iconst (pc' := 1) 0 dX5_restsOfDifference_0 rfl (by decide) ?_
  refine go_istore_n (pc' := 2) dX5_restsOfDifference_1 rfl (by decide) rfl ?_
  refine go_iconst (pc' := 3) 0 dX5_restsOfDifference_2 rfl (by decide) ?_
  refine go_istore (pc' := 5) dX5_restsOfDifference_3 rfl (by decide) rfl ?_
  exact lX5_rests h wf hp hq 10 0 0 (by omega) k

set_option maxHeartbeats 4000000 in
set_option maxRecDepth 20000 in
theorem lX7_unlikeAt {sc : pg_Sc} {K : Int32 → pg_S → Prop} {g : pg_S} {T : TW} {n : Nat} {p q : Nat} (h : MR g 60 T n) (wf : WF T n) (hp : p < n) (hq : q < n) : ∀ (m : Nat) (i : Nat) (s : Int32), i + m = 10 → K (orF (rstF T p q) m i s) g → pg_Go sc 3 mX7_unlikeAt 5 [(0, .ref 59), (1, .int (nI p)), (2, .int (nI q)), (3, .int s), (4, .int (nI i))] [] g (pg_ki K) := by
  intro m
  induction m with
  | zero =>
    intro i s hi k
    obtain rfl : i = 10 := by omega
    refine go_iload (pc' := 7) dX7_unlikeAt_5 rfl rfl ?_
    refine go_bipush (pc' := 9) 10 dX7_unlikeAt_7 rfl (by decide) ?_
    refine go_icmp_ge (pc' := 12) (tgt := 46) dX7_unlikeAt_9 rfl (by decide) (fun h_9 => ?_) (fun h_9 => absurd (Int32.le_refl _) h_9)
    refine go_iload_n (pc' := 47) dX7_unlikeAt_46 rfl rfl ?_
    refine go_iret dX7_unlikeAt_47 (pg_narI _) ?_
    exact k
  | succ m ih =>
    intro i s hi k
    have hn := wf.1
    have hin : i < 10 := by omega
    simp only [orF, rstF] at k
    refine go_iload (pc' := 7) dX7_unlikeAt_5 rfl rfl ?_
    refine go_bipush (pc' := 9) 10 dX7_unlikeAt_7 rfl (by decide) ?_
    refine go_icmp_ge (pc' := 12) (tgt := 46) dX7_unlikeAt_9 rfl (by decide) (fun h_9 => absurd h_9 (nI_ge (b := 10) hin (by decide))) (fun h_9 => ?_)
    refine go_iload_n (pc' := 13) dX7_unlikeAt_12 rfl rfl ?_
    refine go_aload_n (pc' := 14) dX7_unlikeAt_13 rfl rfl ?_
    refine go_iload_n (pc' := 15) dX7_unlikeAt_14 rfl rfl ?_
    refine go_iload (pc' := 17) dX7_unlikeAt_15 rfl rfl ?_
    refine go_cVi2 (pc' := 20) (M' := mX7_leaning) (d' := 2) dX7_unlikeAt_17 rfl cvRX7_226 rfl rfl (by decide) rfl (Nat.le_of_ble_eq_true rfl) ?_
    refine tX7_leaning h wf hp ?_
    refine go_aload_n (pc' := 21) dX7_unlikeAt_20 rfl rfl ?_
    refine go_iload_n (pc' := 22) dX7_unlikeAt_21 rfl rfl ?_
    refine go_iload (pc' := 24) dX7_unlikeAt_22 rfl rfl ?_
    refine go_cVi2 (pc' := 27) (M' := mX7_leaning) (d' := 2) dX7_unlikeAt_24 rfl cvRX7_226 rfl rfl (by decide) rfl (Nat.le_of_ble_eq_true rfl) ?_
    refine tX7_leaning h wf hq ?_
    refine go_icmp_ne (pc' := 30) (tgt := 34) dX7_unlikeAt_27 rfl (by decide) (fun h_27 => ?_) (fun h_27 => ?_)
    · refine go_iconst (pc' := 35) 1 dX7_unlikeAt_34 rfl (by decide) ?_
      refine go_iload (pc' := 37) dX7_unlikeAt_35 rfl rfl ?_
      refine go_ishl (pc' := 38) dX7_unlikeAt_37 rfl ?_
      refine go_ior (pc' := 39) dX7_unlikeAt_38 rfl ?_
      refine go_istore_n (pc' := 40) dX7_unlikeAt_39 rfl (by decide) rfl ?_
      refine go_iinc (pc' := 43) _ dX7_unlikeAt_40 rfl rfl (pg_inc _) (by decide) rfl ?_
      refine go_goto (pc' := 5) dX7_unlikeAt_43 (by decide) ?_
      rw [if_neg h_27] at k
      exact ih (i + 1) _ (by omega) k
    · refine go_iconst (pc' := 31) 0 dX7_unlikeAt_30 rfl (by decide) ?_
      refine go_goto (pc' := 38) dX7_unlikeAt_31 (by decide) ?_
      refine go_ior (pc' := 39) dX7_unlikeAt_38 rfl ?_
      refine go_istore_n (pc' := 40) dX7_unlikeAt_39 rfl (by decide) rfl ?_
      refine go_iinc (pc' := 43) _ dX7_unlikeAt_40 rfl rfl (pg_inc _) (by decide) rfl ?_
      refine go_goto (pc' := 5) dX7_unlikeAt_43 (by decide) ?_
      rw [if_pos h_27] at k
      exact ih (i + 1) _ (by omega) k

set_option maxHeartbeats 4000000 in
set_option maxRecDepth 20000 in
theorem tX7_unlikeAt {sc : pg_Sc} {g : pg_S} {K : Int32 → pg_S → Prop} {T : TW} {n : Nat} {p q : Nat} (h : MR g 60 T n) (wf : WF T n) (hp : p < n) (hq : q < n) (k : K (orF (rstF T p q) 10 0 0) g) : pg_Cal sc 3 mX7_unlikeAt [.ref 59, .int (nI p), .int (nI q)] g (pg_ki K) := by
  refine pg_Cal.of rfl (Nat.le_of_ble_eq_true rfl) rfl ?_
  refine go_iconst (pc' := 1) 0 dX7_unlikeAt_0 rfl (by decide) ?_
  refine go_istore_n (pc' := 2) dX7_unlikeAt_1 rfl (by decide) rfl ?_
  refine go_iconst (pc' := 3) 0 dX7_unlikeAt_2 rfl (by decide) ?_
  refine go_istore (pc' := 5) dX7_unlikeAt_3 rfl (by decide) rfl ?_
  exact lX7_unlikeAt h wf hp hq 10 0 0 (by omega) k

set_option maxHeartbeats 4000000 in
set_option maxRecDepth 20000 in
theorem lX7_lonelySet {sc : pg_Sc} {K : Int32 → pg_S → Prop} {g : pg_S} {T : TW} {n : Nat} (h : MR g 60 T n) (wf : WF T n) : ∀ (m : Nat) (i : Nat) (s : Int32), i + m = n → K (orF (lonF T) m i s) g → pg_Go sc 2 mX7_lonelySet 4 [(0, .ref 59), (1, .int s), (2, .int (nI i))] [] g (pg_ki K) := by
  intro m
  induction m with
  | zero =>
    intro i s hi k
    obtain rfl : i = n := by omega
    refine go_iload_n (pc' := 5) dX7_lonelySet_4 rfl rfl ?_
    refine go_aload_n (pc' := 6) dX7_lonelySet_5 rfl rfl ?_
    refine go_getR (pc' := 9) dX7_lonelySet_6 rfl flRX7_7 rfl rfl ?_
    refine go_iconst (pc' := 10) 5 dX7_lonelySet_9 rfl (by decide) ?_
    refine go_iald (pc' := 11) 5 dX7_lonelySet_10 rfl rfl rfl (by decide) (by decide) ?_
    rw [m60_people h]
    refine go_icmp_ge (pc' := 14) (tgt := 39) dX7_lonelySet_11 rfl (by decide) (fun h_11 => ?_) (fun h_11 => absurd (Int32.le_refl _) h_11)
    refine go_iload_n (pc' := 40) dX7_lonelySet_39 rfl rfl ?_
    refine go_iret dX7_lonelySet_40 (pg_narI _) ?_
    exact k
  | succ m ih =>
    intro i s hi k
    have hn := wf.1
    have hin : i < n := by omega
    simp only [orF, lonF] at k
    refine go_iload_n (pc' := 5) dX7_lonelySet_4 rfl rfl ?_
    refine go_aload_n (pc' := 6) dX7_lonelySet_5 rfl rfl ?_
    refine go_getR (pc' := 9) dX7_lonelySet_6 rfl flRX7_7 rfl rfl ?_
    refine go_iconst (pc' := 10) 5 dX7_lonelySet_9 rfl (by decide) ?_
    refine go_iald (pc' := 11) 5 dX7_lonelySet_10 rfl rfl rfl (by decide) (by decide) ?_
    rw [m60_people h]
    refine go_icmp_ge (pc' := 14) (tgt := 39) dX7_lonelySet_11 rfl (by decide) (fun h_11 => absurd h_11 (nI_ge hin (by omega))) (fun h_11 => ?_)
    refine go_iload_n (pc' := 15) dX7_lonelySet_14 rfl rfl ?_
    refine go_aload_n (pc' := 16) dX7_lonelySet_15 rfl rfl ?_
    refine go_iload_n (pc' := 17) dX7_lonelySet_16 rfl rfl ?_
    refine go_iconst (pc' := 18) 4 dX7_lonelySet_17 rfl (by decide) ?_
    refine go_cVi2 (pc' := 21) (M' := mX7_its) (d' := 1) dX7_lonelySet_18 rfl cvRX7_217 rfl rfl (by decide) rfl (Nat.le_of_ble_eq_true rfl) ?_
    refine tX7_its4 h wf hin ?_
    refine go_if_ne (pc' := 24) (tgt := 30) dX7_lonelySet_21 rfl (by decide) (fun h_21 => ?_) (fun h_21 => ?_)
    · refine go_iconst (pc' := 31) 0 dX7_lonelySet_30 rfl (by decide) ?_
      refine go_ior (pc' := 32) dX7_lonelySet_31 rfl ?_
      refine go_istore_n (pc' := 33) dX7_lonelySet_32 rfl (by decide) rfl ?_
      refine go_iinc (pc' := 36) _ dX7_lonelySet_33 rfl rfl (pg_inc _) (by decide) rfl ?_
      refine go_goto (pc' := 4) dX7_lonelySet_36 (by decide) ?_
      rw [if_neg h_21] at k
      exact ih (i + 1) _ (by omega) k
    · refine go_iconst (pc' := 25) 1 dX7_lonelySet_24 rfl (by decide) ?_
      refine go_iload_n (pc' := 26) dX7_lonelySet_25 rfl rfl ?_
      refine go_ishl (pc' := 27) dX7_lonelySet_26 rfl ?_
      refine go_goto (pc' := 31) dX7_lonelySet_27 (by decide) ?_
      refine go_ior (pc' := 32) dX7_lonelySet_31 rfl ?_
      refine go_istore_n (pc' := 33) dX7_lonelySet_32 rfl (by decide) rfl ?_
      refine go_iinc (pc' := 36) _ dX7_lonelySet_33 rfl rfl (pg_inc _) (by decide) rfl ?_
      refine go_goto (pc' := 4) dX7_lonelySet_36 (by decide) ?_
      rw [if_pos h_21] at k
      exact ih (i + 1) _ (by omega) k

set_option maxHeartbeats 4000000 in
set_option maxRecDepth 20000 in
theorem tX7_lonelySet {sc : pg_Sc} {g : pg_S} {K : Int32 → pg_S → Prop} {T : TW} {n : Nat} (h : MR g 60 T n) (wf : WF T n) (k : K (orF (lonF T) n 0 0) g) : pg_Cal sc 2 mX7_lonelySet [.ref 59] g (pg_ki K) := by
  refine pg_Cal.of rfl (Nat.le_of_ble_eq_true rfl) rfl ?_
  refine go_iconst (pc' := 1) 0 dX7_lonelySet_0 rfl (by decide) ?_
  refine go_istore_n (pc' := 2) dX7_lonelySet_1 rfl (by decide) rfl ?_
  refine go_iconst (pc' := 3) 0 dX7_lonelySet_2 rfl (by decide) ?_
  refine go_istore_n (pc' := 4) dX7_lonelySet_3 rfl (by decide) rfl ?_
  exact lX7_lonelySet h wf n 0 0 (by omega) k

set_option maxHeartbeats 4000000 in
set_option maxRecDepth 20000 in
theorem lX7_placeSet {sc : pg_Sc} {K : Int32 → pg_S → Prop} {g : pg_S} {T : TW} {n : Nat} (h : MR g 60 T n) (wf : WF T n) : ∀ (m : Nat) (i : Nat) (s : Int32), i + m = n → K (orF (plcF T) m i s) g → pg_Go sc 2 mX7_placeSet 4 [(0, .ref 59), (1, .int s), (2, .int (nI i))] [] g (pg_ki K) := by
  intro m
  induction m with
  | zero =>
    intro i s hi k
    obtain rfl : i = n := by omega
    refine go_iload_n (pc' := 5) dX7_placeSet_4 rfl rfl ?_
    refine go_aload_n (pc' := 6) dX7_placeSet_5 rfl rfl ?_
    refine go_getR (pc' := 9) dX7_placeSet_6 rfl flRX7_7 rfl rfl ?_
    refine go_iconst (pc' := 10) 5 dX7_placeSet_9 rfl (by decide) ?_
    refine go_iald (pc' := 11) 5 dX7_placeSet_10 rfl rfl rfl (by decide) (by decide) ?_
    rw [m60_people h]
    refine go_icmp_ge (pc' := 14) (tgt := 31) dX7_placeSet_11 rfl (by decide) (fun h_11 => ?_) (fun h_11 => absurd (Int32.le_refl _) h_11)
    refine go_iload_n (pc' := 32) dX7_placeSet_31 rfl rfl ?_
    refine go_iret dX7_placeSet_32 (pg_narI _) ?_
    exact k
  | succ m ih =>
    intro i s hi k
    have hn := wf.1
    have hin : i < n := by omega
    simp only [orF, plcF] at k
    refine go_iload_n (pc' := 5) dX7_placeSet_4 rfl rfl ?_
    refine go_aload_n (pc' := 6) dX7_placeSet_5 rfl rfl ?_
    refine go_getR (pc' := 9) dX7_placeSet_6 rfl flRX7_7 rfl rfl ?_
    refine go_iconst (pc' := 10) 5 dX7_placeSet_9 rfl (by decide) ?_
    refine go_iald (pc' := 11) 5 dX7_placeSet_10 rfl rfl rfl (by decide) (by decide) ?_
    rw [m60_people h]
    refine go_icmp_ge (pc' := 14) (tgt := 31) dX7_placeSet_11 rfl (by decide) (fun h_11 => absurd h_11 (nI_ge hin (by omega))) (fun h_11 => ?_)
    refine go_iload_n (pc' := 15) dX7_placeSet_14 rfl rfl ?_
    refine go_iconst (pc' := 16) 1 dX7_placeSet_15 rfl (by decide) ?_
    refine go_aload_n (pc' := 17) dX7_placeSet_16 rfl rfl ?_
    refine go_iload_n (pc' := 18) dX7_placeSet_17 rfl rfl ?_
    refine go_iconst (pc' := 19) 3 dX7_placeSet_18 rfl (by decide) ?_
    refine go_cVi2 (pc' := 22) (M' := mX7_its) (d' := 1) dX7_placeSet_19 rfl cvRX7_217 rfl rfl (by decide) rfl (Nat.le_of_ble_eq_true rfl) ?_
    refine tX7_its3 h wf hin ?_
    refine go_ishl (pc' := 23) dX7_placeSet_22 rfl ?_
    refine go_ior (pc' := 24) dX7_placeSet_23 rfl ?_
    refine go_istore_n (pc' := 25) dX7_placeSet_24 rfl (by decide) rfl ?_
    refine go_iinc (pc' := 28) _ dX7_placeSet_25 rfl rfl (pg_inc _) (by decide) rfl ?_
    refine go_goto (pc' := 4) dX7_placeSet_28 (by decide) ?_
    exact ih (i + 1) _ (by omega) k

set_option maxHeartbeats 4000000 in
set_option maxRecDepth 20000 in
theorem tX7_placeSet {sc : pg_Sc} {g : pg_S} {K : Int32 → pg_S → Prop} {T : TW} {n : Nat} (h : MR g 60 T n) (wf : WF T n) (k : K (orF (plcF T) n 0 0) g) : pg_Cal sc 2 mX7_placeSet [.ref 59] g (pg_ki K) := by
  refine pg_Cal.of rfl (Nat.le_of_ble_eq_true rfl) rfl ?_
  refine go_iconst (pc' := 1) 0 dX7_placeSet_0 rfl (by decide) ?_
  refine go_istore_n (pc' := 2) dX7_placeSet_1 rfl (by decide) rfl ?_
  refine go_iconst (pc' := 3) 0 dX7_placeSet_2 rfl (by decide) ?_
  refine go_istore_n (pc' := 4) dX7_placeSet_3 rfl (by decide) rfl ?_
  exact lX7_placeSet h wf n 0 0 (by omega) k

set_option maxHeartbeats 4000000 in
set_option maxRecDepth 20000 in
theorem lX7_hadBy {sc : pg_Sc} {K : Int32 → pg_S → Prop} {g : pg_S} {T : TW} {n : Nat} {x : Int32} (h : MR g 60 T n) (wf : WF T n) : ∀ (m : Nat) (i : Nat) (s : Int32), i + m = n → K (orF (hadF T x) m i s) g → pg_Go sc 2 mX7_hadBy 4 [(0, .ref 59), (1, .int x), (2, .int s), (3, .int (nI i))] [] g (pg_ki K) := by
  intro m
  induction m with
  | zero =>
    intro i s hi k
    obtain rfl : i = n := by omega
    refine go_iload_n (pc' := 5) dX7_hadBy_4 rfl rfl ?_
    refine go_aload_n (pc' := 6) dX7_hadBy_5 rfl rfl ?_
    refine go_getR (pc' := 9) dX7_hadBy_6 rfl flRX7_7 rfl rfl ?_
    refine go_iconst (pc' := 10) 5 dX7_hadBy_9 rfl (by decide) ?_
    refine go_iald (pc' := 11) 5 dX7_hadBy_10 rfl rfl rfl (by decide) (by decide) ?_
    rw [m60_people h]
    refine go_icmp_ge (pc' := 14) (tgt := 40) dX7_hadBy_11 rfl (by decide) (fun h_11 => ?_) (fun h_11 => absurd (Int32.le_refl _) h_11)
    refine go_iload_n (pc' := 41) dX7_hadBy_40 rfl rfl ?_
    refine go_iret dX7_hadBy_41 (pg_narI _) ?_
    exact k
  | succ m ih =>
    intro i s hi k
    have hn := wf.1
    have hin : i < n := by omega
    simp only [orF, hadF] at k
    refine go_iload_n (pc' := 5) dX7_hadBy_4 rfl rfl ?_
    refine go_aload_n (pc' := 6) dX7_hadBy_5 rfl rfl ?_
    refine go_getR (pc' := 9) dX7_hadBy_6 rfl flRX7_7 rfl rfl ?_
    refine go_iconst (pc' := 10) 5 dX7_hadBy_9 rfl (by decide) ?_
    refine go_iald (pc' := 11) 5 dX7_hadBy_10 rfl rfl rfl (by decide) (by decide) ?_
    rw [m60_people h]
    refine go_icmp_ge (pc' := 14) (tgt := 40) dX7_hadBy_11 rfl (by decide) (fun h_11 => absurd h_11 (nI_ge hin (by omega))) (fun h_11 => ?_)
    refine go_iload_n (pc' := 15) dX7_hadBy_14 rfl rfl ?_
    refine go_aload_n (pc' := 16) dX7_hadBy_15 rfl rfl ?_
    refine go_iload_n (pc' := 17) dX7_hadBy_16 rfl rfl ?_
    refine go_iconst (pc' := 18) 1 dX7_hadBy_17 rfl (by decide) ?_
    refine go_cVi2 (pc' := 21) (M' := mX7_its) (d' := 1) dX7_hadBy_18 rfl cvRX7_217 rfl rfl (by decide) rfl (Nat.le_of_ble_eq_true rfl) ?_
    refine tX7_its1 h wf hin ?_
    refine go_iload_n (pc' := 22) dX7_hadBy_21 rfl rfl ?_
    refine go_icmp_ne (pc' := 25) (tgt := 31) dX7_hadBy_22 rfl (by decide) (fun h_22 => ?_) (fun h_22 => ?_)
    · refine go_iconst (pc' := 32) 0 dX7_hadBy_31 rfl (by decide) ?_
      refine go_ior (pc' := 33) dX7_hadBy_32 rfl ?_
      refine go_istore_n (pc' := 34) dX7_hadBy_33 rfl (by decide) rfl ?_
      refine go_iinc (pc' := 37) _ dX7_hadBy_34 rfl rfl (pg_inc _) (by decide) rfl ?_
      refine go_goto (pc' := 4) dX7_hadBy_37 (by decide) ?_
      rw [if_neg h_22] at k
      exact ih (i + 1) _ (by omega) k
    · refine go_iconst (pc' := 26) 1 dX7_hadBy_25 rfl (by decide) ?_
      refine go_iload_n (pc' := 27) dX7_hadBy_26 rfl rfl ?_
      refine go_ishl (pc' := 28) dX7_hadBy_27 rfl ?_
      refine go_goto (pc' := 32) dX7_hadBy_28 (by decide) ?_
      refine go_ior (pc' := 33) dX7_hadBy_32 rfl ?_
      refine go_istore_n (pc' := 34) dX7_hadBy_33 rfl (by decide) rfl ?_
      refine go_iinc (pc' := 37) _ dX7_hadBy_34 rfl rfl (pg_inc _) (by decide) rfl ?_
      refine go_goto (pc' := 4) dX7_hadBy_37 (by decide) ?_
      rw [if_pos h_22] at k
      exact ih (i + 1) _ (by omega) k

set_option maxHeartbeats 4000000 in
set_option maxRecDepth 20000 in
theorem tX7_hadBy {sc : pg_Sc} {g : pg_S} {K : Int32 → pg_S → Prop} {T : TW} {n : Nat} {x : Int32} (h : MR g 60 T n) (wf : WF T n) (k : K (orF (hadF T x) n 0 0) g) : pg_Cal sc 2 mX7_hadBy [.ref 59, .int x] g (pg_ki K) := by
  refine pg_Cal.of rfl (Nat.le_of_ble_eq_true rfl) rfl ?_
  refine go_iconst (pc' := 1) 0 dX7_hadBy_0 rfl (by decide) ?_
  refine go_istore_n (pc' := 2) dX7_hadBy_1 rfl (by decide) rfl ?_
  refine go_iconst (pc' := 3) 0 dX7_hadBy_2 rfl (by decide) ?_
  refine go_istore_n (pc' := 4) dX7_hadBy_3 rfl (by decide) rfl ?_
  exact lX7_hadBy h wf n 0 0 (by omega) k

set_option maxHeartbeats 4000000 in
set_option maxRecDepth 20000 in
theorem lX7_besides {sc : pg_Sc} {K : Int32 → pg_S → Prop} {g : pg_S} {T : TW} {n : Nat} {p : Nat} (h : MR g 60 T n) (wf : WF T n) (hp : p < n) : ∀ (m : Nat) (i : Nat) (s : Int32), i + m = n → K (cntF (besF T p) m i s) g → pg_Go sc 2 mX7_besides 4 [(0, .ref 59), (1, .int (nI p)), (2, .int s), (3, .int (nI i))] [] g (pg_ki K) := by
  intro m
  induction m with
  | zero =>
    intro i s hi k
    obtain rfl : i = n := by omega
    refine go_iload_n (pc' := 5) dX7_besides_4 rfl rfl ?_
    refine go_aload_n (pc' := 6) dX7_besides_5 rfl rfl ?_
    refine go_getR (pc' := 9) dX7_besides_6 rfl flRX7_7 rfl rfl ?_
    refine go_iconst (pc' := 10) 5 dX7_besides_9 rfl (by decide) ?_
    refine go_iald (pc' := 11) 5 dX7_besides_10 rfl rfl rfl (by decide) (by decide) ?_
    rw [m60_people h]
    refine go_icmp_ge (pc' := 14) (tgt := 48) dX7_besides_11 rfl (by decide) (fun h_11 => ?_) (fun h_11 => absurd (Int32.le_refl _) h_11)
    refine go_iload_n (pc' := 49) dX7_besides_48 rfl rfl ?_
    refine go_iret dX7_besides_49 (pg_narI _) ?_
    exact k
  | succ m ih =>
    intro i s hi k
    have hn := wf.1
    have hin : i < n := by omega
    simp only [cntF] at k
    refine go_iload_n (pc' := 5) dX7_besides_4 rfl rfl ?_
    refine go_aload_n (pc' := 6) dX7_besides_5 rfl rfl ?_
    refine go_getR (pc' := 9) dX7_besides_6 rfl flRX7_7 rfl rfl ?_
    refine go_iconst (pc' := 10) 5 dX7_besides_9 rfl (by decide) ?_
    refine go_iald (pc' := 11) 5 dX7_besides_10 rfl rfl rfl (by decide) (by decide) ?_
    rw [m60_people h]
    refine go_icmp_ge (pc' := 14) (tgt := 48) dX7_besides_11 rfl (by decide) (fun h_11 => absurd h_11 (nI_ge hin (by omega))) (fun h_11 => ?_)
    refine go_iload_n (pc' := 15) dX7_besides_14 rfl rfl ?_
    refine go_iload_n (pc' := 16) dX7_besides_15 rfl rfl ?_
    refine go_iload_n (pc' := 17) dX7_besides_16 rfl rfl ?_
    refine go_icmp_eq (pc' := 20) (tgt := 39) dX7_besides_17 rfl (by decide) (fun h_17 => ?_) (fun h_17 => ?_)
    · refine go_iconst (pc' := 40) 0 dX7_besides_39 rfl (by decide) ?_
      refine go_iadd (pc' := 41) dX7_besides_40 rfl ?_
      refine go_istore_n (pc' := 42) dX7_besides_41 rfl (by decide) rfl ?_
      refine go_iinc (pc' := 45) _ dX7_besides_42 rfl rfl (pg_inc _) (by decide) rfl ?_
      refine go_goto (pc' := 4) dX7_besides_45 (by decide) ?_
      rw [if_neg (fun q => (besF_iff.mp q).1 ((nI_eq (by omega) (by omega)).mp h_17))] at k
      rw [Int32.add_zero]
      exact ih (i + 1) _ (by omega) k
    · refine go_aload_n (pc' := 21) dX7_besides_20 rfl rfl ?_
      refine go_iload_n (pc' := 22) dX7_besides_21 rfl rfl ?_
      refine go_iconst (pc' := 23) 3 dX7_besides_22 rfl (by decide) ?_
      refine go_cVi2 (pc' := 26) (M' := mX7_its) (d' := 1) dX7_besides_23 rfl cvRX7_217 rfl rfl (by decide) rfl (Nat.le_of_ble_eq_true rfl) ?_
      refine tX7_its3 h wf hin ?_
      refine go_aload_n (pc' := 27) dX7_besides_26 rfl rfl ?_
      refine go_iload_n (pc' := 28) dX7_besides_27 rfl rfl ?_
      refine go_iconst (pc' := 29) 3 dX7_besides_28 rfl (by decide) ?_
      refine go_cVi2 (pc' := 32) (M' := mX7_its) (d' := 1) dX7_besides_29 rfl cvRX7_217 rfl rfl (by decide) rfl (Nat.le_of_ble_eq_true rfl) ?_
      refine tX7_its3 h wf hp ?_
      refine go_icmp_ne (pc' := 35) (tgt := 39) dX7_besides_32 rfl (by decide) (fun h_32 => ?_) (fun h_32 => ?_)
      · refine go_iconst (pc' := 40) 0 dX7_besides_39 rfl (by decide) ?_
        refine go_iadd (pc' := 41) dX7_besides_40 rfl ?_
        refine go_istore_n (pc' := 42) dX7_besides_41 rfl (by decide) rfl ?_
        refine go_iinc (pc' := 45) _ dX7_besides_42 rfl rfl (pg_inc _) (by decide) rfl ?_
        refine go_goto (pc' := 4) dX7_besides_45 (by decide) ?_
        rw [if_neg (fun q => h_32 (besF_iff.mp q).2)] at k
        rw [Int32.add_zero]
        exact ih (i + 1) _ (by omega) k
      · refine go_iconst (pc' := 36) 1 dX7_besides_35 rfl (by decide) ?_
        refine go_goto (pc' := 40) dX7_besides_36 (by decide) ?_
        refine go_iadd (pc' := 41) dX7_besides_40 rfl ?_
        refine go_istore_n (pc' := 42) dX7_besides_41 rfl (by decide) rfl ?_
        refine go_iinc (pc' := 45) _ dX7_besides_42 rfl rfl (pg_inc _) (by decide) rfl ?_
        refine go_goto (pc' := 4) dX7_besides_45 (by decide) ?_
        rw [if_pos (besF_iff.mpr ⟨fun q => h_17 (by rw [q]), h_32⟩)] at k
        exact ih (i + 1) _ (by omega) k

set_option maxHeartbeats 4000000 in
set_option maxRecDepth 20000 in
theorem tX7_besides {sc : pg_Sc} {g : pg_S} {K : Int32 → pg_S → Prop} {T : TW} {n : Nat} {p : Nat} (h : MR g 60 T n) (wf : WF T n) (hp : p < n) (k : K (cntF (besF T p) n 0 0) g) : pg_Cal sc 2 mX7_besides [.ref 59, .int (nI p)] g (pg_ki K) := by
  refine pg_Cal.of rfl (Nat.le_of_ble_eq_true rfl) rfl ?_
  refine go_iconst (pc' := 1) 0 dX7_besides_0 rfl (by decide) ?_
  refine go_istore_n (pc' := 2) dX7_besides_1 rfl (by decide) rfl ?_
  refine go_iconst (pc' := 3) 0 dX7_besides_2 rfl (by decide) ?_
  refine go_istore_n (pc' := 4) dX7_besides_3 rfl (by decide) rfl ?_
  exact lX7_besides h wf hp n 0 0 (by omega) k

set_option maxHeartbeats 4000000 in
set_option maxRecDepth 20000 in
theorem lci_c {sc : pg_Sc} {Q : pg_Q} {g : pg_S} {T : TW} {n : Nat} {x r : Int32} (h : CR g 1 T n) (wf : WF T n) : ∀ (m : Nat) (i : Nat) (s : Int32), i + m = n → pg_Go sc 1 mX5_circleOf 52 [(0, .ref 1), (1, .int x), (2, .int (circJ T m i s)), (3, .int r), (4, .int (nI n))] [] g Q → pg_Go sc 1 mX5_circleOf 17 [(0, .ref 1), (1, .int x), (2, .int s), (3, .int r), (4, .int (nI i))] [] g Q := by
  intro m
  induction m with
  | zero =>
    intro i s hi k
    obtain rfl : i = n := by omega
    refine go_iload (pc' := 19) dX5_circleOf_17 rfl rfl ?_
    refine go_aload_n (pc' := 20) dX5_circleOf_19 rfl rfl ?_
    refine go_getI (pc' := 23) dX5_circleOf_20 rfl flRX5_36 rfl rfl ?_
    rw [c1_people h]
    refine go_icmp_ge (pc' := 26) (tgt := 52) dX5_circleOf_23 rfl (by decide) (fun h_23 => ?_) (fun h_23 => absurd (Int32.le_refl _) h_23)
    exact k
  | succ m ih =>
    intro i s hi k
    have hn := wf.1
    have hin : i < n := by omega
    simp only [circJ] at k
    refine go_iload (pc' := 19) dX5_circleOf_17 rfl rfl ?_
    refine go_aload_n (pc' := 20) dX5_circleOf_19 rfl rfl ?_
    refine go_getI (pc' := 23) dX5_circleOf_20 rfl flRX5_36 rfl rfl ?_
    rw [c1_people h]
    refine go_icmp_ge (pc' := 26) (tgt := 52) dX5_circleOf_23 rfl (by decide) (fun h_23 => absurd h_23 (nI_ge hin (by omega))) (fun h_23 => ?_)
    refine go_iload_n (pc' := 27) dX5_circleOf_26 rfl rfl ?_
    refine go_iload (pc' := 29) dX5_circleOf_27 rfl rfl ?_
    refine go_ishr (pc' := 30) dX5_circleOf_29 rfl ?_
    refine go_iconst (pc' := 31) 1 dX5_circleOf_30 rfl (by decide) ?_
    refine go_iand (pc' := 32) dX5_circleOf_31 rfl ?_
    refine go_iconst (pc' := 33) 1 dX5_circleOf_32 rfl (by decide) ?_
    refine go_icmp_ne (pc' := 36) (tgt := 46) dX5_circleOf_33 rfl (by decide) (fun h_33 => ?_) (fun h_33 => ?_)
    · refine go_iinc (pc' := 49) _ dX5_circleOf_46 rfl rfl (pg_inc _) (by decide) rfl ?_
      refine go_goto (pc' := 17) dX5_circleOf_49 (by decide) ?_
      rw [if_neg h_33] at k
      exact ih (i + 1) _ (by omega) k
    · refine go_iload_n (pc' := 37) dX5_circleOf_36 rfl rfl ?_
      refine go_aload_n (pc' := 38) dX5_circleOf_37 rfl rfl ?_
      refine go_getR (pc' := 41) dX5_circleOf_38 rfl flRX5_30 rfl rfl ?_
      refine go_iload (pc' := 43) dX5_circleOf_41 rfl rfl ?_
      refine go_iald (pc' := 44) _ dX5_circleOf_43 rfl rfl rfl (by omega) (by decide) ?_
      rw [c1_know h (by omega)]
      refine go_ior (pc' := 45) dX5_circleOf_44 rfl ?_
      refine go_istore_n (pc' := 46) dX5_circleOf_45 rfl (by decide) rfl ?_
      refine go_iinc (pc' := 49) _ dX5_circleOf_46 rfl rfl (pg_inc _) (by decide) rfl ?_
      refine go_goto (pc' := 17) dX5_circleOf_49 (by decide) ?_
      rw [if_pos h_33] at k
      exact ih (i + 1) _ (by omega) k

set_option maxHeartbeats 4000000 in
set_option maxRecDepth 20000 in
theorem lcr_c {sc : pg_Sc} {K : Int32 → pg_S → Prop} {g : pg_S} {T : TW} {n : Nat} {x : Int32} (h : CR g 1 T n) (wf : WF T n) : ∀ (m : Nat) (i : Nat) (s : Int32), i + m = n → K (circR T n m s) g → pg_Go sc 1 mX5_circleOf 6 [(0, .ref 1), (1, .int x), (2, .int s), (3, .int (nI i))] [] g (pg_ki K) := by
  intro m
  induction m with
  | zero =>
    intro i s hi k
    obtain rfl : i = n := by omega
    refine go_iload_n (pc' := 7) dX5_circleOf_6 rfl rfl ?_
    refine go_aload_n (pc' := 8) dX5_circleOf_7 rfl rfl ?_
    refine go_getI (pc' := 11) dX5_circleOf_8 rfl flRX5_36 rfl rfl ?_
    rw [c1_people h]
    refine go_icmp_ge (pc' := 14) (tgt := 58) dX5_circleOf_11 rfl (by decide) (fun h_11 => ?_) (fun h_11 => absurd (Int32.le_refl _) h_11)
    refine go_iload_n (pc' := 59) dX5_circleOf_58 rfl rfl ?_
    refine go_iret dX5_circleOf_59 (pg_narI _) ?_
    exact k
  | succ m ih =>
    intro i s hi k
    have hn := wf.1
    have hin : i < n := by omega
    simp only [circR] at k
    refine go_iload_n (pc' := 7) dX5_circleOf_6 rfl rfl ?_
    refine go_aload_n (pc' := 8) dX5_circleOf_7 rfl rfl ?_
    refine go_getI (pc' := 11) dX5_circleOf_8 rfl flRX5_36 rfl rfl ?_
    rw [c1_people h]
    refine go_icmp_ge (pc' := 14) (tgt := 58) dX5_circleOf_11 rfl (by decide) (fun h_11 => absurd h_11 (nI_ge hin (by omega))) (fun h_11 => ?_)
    refine go_iconst (pc' := 15) 0 dX5_circleOf_14 rfl (by decide) ?_
    refine go_istore (pc' := 17) dX5_circleOf_15 rfl (by decide) rfl ?_
    refine lci_c h wf n 0 s (by omega) ?_
    refine go_iinc (pc' := 55) _ dX5_circleOf_52 rfl rfl (pg_inc _) (by decide) rfl ?_
    refine go_goto (pc' := 6) dX5_circleOf_55 (by decide) ?_
    refine go_sub [0, 1, 2, 3] rfl ?_
    exact ih (i + 1) _ (by omega) k

set_option maxHeartbeats 4000000 in
set_option maxRecDepth 20000 in
theorem tX5_circleOf {sc : pg_Sc} {g : pg_S} {K : Int32 → pg_S → Prop} {T : TW} {n : Nat} {p : Nat} (h : CR g 1 T n) (wf : WF T n) (k : K (circF T n n p) g) : pg_Cal sc 1 mX5_circleOf [.ref 1, .int (nI p)] g (pg_ki K) := by
  refine pg_Cal.of rfl (Nat.le_of_ble_eq_true rfl) rfl ?_
  refine go_iconst (pc' := 1) 1 dX5_circleOf_0 rfl (by decide) ?_
  refine go_iload_n (pc' := 2) dX5_circleOf_1 rfl rfl ?_
  refine go_ishl (pc' := 3) dX5_circleOf_2 rfl ?_
  refine go_istore_n (pc' := 4) dX5_circleOf_3 rfl (by decide) rfl ?_
  refine go_iconst (pc' := 5) 0 dX5_circleOf_4 rfl (by decide) ?_
  refine go_istore_n (pc' := 6) dX5_circleOf_5 rfl (by decide) rfl ?_
  exact lcr_c h wf n 0 _ (by omega) k

set_option maxHeartbeats 4000000 in
set_option maxRecDepth 20000 in
theorem lci_m {sc : pg_Sc} {Q : pg_Q} {g : pg_S} {T : TW} {n : Nat} {x r : Int32} (h : MR g 60 T n) (wf : WF T n) : ∀ (m : Nat) (i : Nat) (s : Int32), i + m = n → pg_Go sc 2 mX7_circleOf 56 [(0, .ref 59), (1, .int x), (2, .int (circJ T m i s)), (3, .int r), (4, .int (nI n))] [] g Q → pg_Go sc 2 mX7_circleOf 15 [(0, .ref 59), (1, .int x), (2, .int s), (3, .int r), (4, .int (nI i))] [] g Q := by
  intro m
  induction m with
  | zero =>
    intro i s hi k
    obtain rfl : i = n := by omega
    refine go_iload (pc' := 17) dX7_circleOf_15 rfl rfl ?_
    refine go_aload_n (pc' := 18) dX7_circleOf_17 rfl rfl ?_
    refine go_getR (pc' := 21) dX7_circleOf_18 rfl flRX7_7 rfl rfl ?_
    refine go_iconst (pc' := 22) 5 dX7_circleOf_21 rfl (by decide) ?_
    refine go_iald (pc' := 23) 5 dX7_circleOf_22 rfl rfl rfl (by decide) (by decide) ?_
    rw [m60_people h]
    refine go_icmp_ge (pc' := 26) (tgt := 56) dX7_circleOf_23 rfl (by decide) (fun h_23 => ?_) (fun h_23 => absurd (Int32.le_refl _) h_23)
    exact k
  | succ m ih =>
    intro i s hi k
    have hn := wf.1
    have hin : i < n := by omega
    simp only [circJ] at k
    refine go_iload (pc' := 17) dX7_circleOf_15 rfl rfl ?_
    refine go_aload_n (pc' := 18) dX7_circleOf_17 rfl rfl ?_
    refine go_getR (pc' := 21) dX7_circleOf_18 rfl flRX7_7 rfl rfl ?_
    refine go_iconst (pc' := 22) 5 dX7_circleOf_21 rfl (by decide) ?_
    refine go_iald (pc' := 23) 5 dX7_circleOf_22 rfl rfl rfl (by decide) (by decide) ?_
    rw [m60_people h]
    refine go_icmp_ge (pc' := 26) (tgt := 56) dX7_circleOf_23 rfl (by decide) (fun h_23 => absurd h_23 (nI_ge hin (by omega))) (fun h_23 => ?_)
    refine go_iload_n (pc' := 27) dX7_circleOf_26 rfl rfl ?_
    refine go_iload_n (pc' := 28) dX7_circleOf_27 rfl rfl ?_
    refine go_iload (pc' := 30) dX7_circleOf_28 rfl rfl ?_
    refine go_ishr (pc' := 31) dX7_circleOf_30 rfl ?_
    refine go_iconst (pc' := 32) 1 dX7_circleOf_31 rfl (by decide) ?_
    refine go_iand (pc' := 33) dX7_circleOf_32 rfl ?_
    refine go_iconst (pc' := 34) 1 dX7_circleOf_33 rfl (by decide) ?_
    refine go_icmp_ne (pc' := 37) (tgt := 47) dX7_circleOf_34 rfl (by decide) (fun h_34 => ?_) (fun h_34 => ?_)
    · refine go_iconst (pc' := 48) 0 dX7_circleOf_47 rfl (by decide) ?_
      refine go_ior (pc' := 49) dX7_circleOf_48 rfl ?_
      refine go_istore_n (pc' := 50) dX7_circleOf_49 rfl (by decide) rfl ?_
      refine go_iinc (pc' := 53) _ dX7_circleOf_50 rfl rfl (pg_inc _) (by decide) rfl ?_
      refine go_goto (pc' := 15) dX7_circleOf_53 (by decide) ?_
      rw [if_neg h_34] at k
      rw [Int32.or_zero]
      exact ih (i + 1) _ (by omega) k
    · refine go_aload_n (pc' := 38) dX7_circleOf_37 rfl rfl ?_
      refine go_iload (pc' := 40) dX7_circleOf_38 rfl rfl ?_
      refine go_iconst (pc' := 41) 4 dX7_circleOf_40 rfl (by decide) ?_
      refine go_cVi2 (pc' := 44) (M' := mX7_its) (d' := 1) dX7_circleOf_41 rfl cvRX7_217 rfl rfl (by decide) rfl (Nat.le_of_ble_eq_true rfl) ?_
      refine tX7_its4 h wf hin ?_
      refine go_goto (pc' := 48) dX7_circleOf_44 (by decide) ?_
      refine go_ior (pc' := 49) dX7_circleOf_48 rfl ?_
      refine go_istore_n (pc' := 50) dX7_circleOf_49 rfl (by decide) rfl ?_
      refine go_iinc (pc' := 53) _ dX7_circleOf_50 rfl rfl (pg_inc _) (by decide) rfl ?_
      refine go_goto (pc' := 15) dX7_circleOf_53 (by decide) ?_
      rw [if_pos h_34] at k
      exact ih (i + 1) _ (by omega) k

set_option maxHeartbeats 4000000 in
set_option maxRecDepth 20000 in
theorem lcr_m {sc : pg_Sc} {K : Int32 → pg_S → Prop} {g : pg_S} {T : TW} {n : Nat} {x : Int32} (h : MR g 60 T n) (wf : WF T n) : ∀ (m : Nat) (i : Nat) (s : Int32), i + m = 8 → K (circR T n m s) g → pg_Go sc 2 mX7_circleOf 6 [(0, .ref 59), (1, .int x), (2, .int s), (3, .int (nI i))] [] g (pg_ki K) := by
  intro m
  induction m with
  | zero =>
    intro i s hi k
    obtain rfl : i = 8 := by omega
    refine go_iload_n (pc' := 7) dX7_circleOf_6 rfl rfl ?_
    refine go_bipush (pc' := 9) 8 dX7_circleOf_7 rfl (by decide) ?_
    refine go_icmp_ge (pc' := 12) (tgt := 62) dX7_circleOf_9 rfl (by decide) (fun h_9 => ?_) (fun h_9 => absurd (Int32.le_refl _) h_9)
    refine go_iload_n (pc' := 63) dX7_circleOf_62 rfl rfl ?_
    refine go_iret dX7_circleOf_63 (pg_narI _) ?_
    exact k
  | succ m ih =>
    intro i s hi k
    have hn := wf.1
    have hin : i < 8 := by omega
    simp only [circR] at k
    refine go_iload_n (pc' := 7) dX7_circleOf_6 rfl rfl ?_
    refine go_bipush (pc' := 9) 8 dX7_circleOf_7 rfl (by decide) ?_
    refine go_icmp_ge (pc' := 12) (tgt := 62) dX7_circleOf_9 rfl (by decide) (fun h_9 => absurd h_9 (nI_ge (b := 8) hin (by decide))) (fun h_9 => ?_)
    refine go_iconst (pc' := 13) 0 dX7_circleOf_12 rfl (by decide) ?_
    refine go_istore (pc' := 15) dX7_circleOf_13 rfl (by decide) rfl ?_
    refine lci_m h wf n 0 s (by omega) ?_
    refine go_iinc (pc' := 59) _ dX7_circleOf_56 rfl rfl (pg_inc _) (by decide) rfl ?_
    refine go_goto (pc' := 6) dX7_circleOf_59 (by decide) ?_
    refine go_sub [0, 1, 2, 3] rfl ?_
    exact ih (i + 1) _ (by omega) k

set_option maxHeartbeats 4000000 in
set_option maxRecDepth 20000 in
theorem tX7_circleOf {sc : pg_Sc} {g : pg_S} {K : Int32 → pg_S → Prop} {T : TW} {n : Nat} {p : Nat} (h : MR g 60 T n) (wf : WF T n) (k : K (circF T n 8 p) g) : pg_Cal sc 2 mX7_circleOf [.ref 59, .int (nI p)] g (pg_ki K) := by
  refine pg_Cal.of rfl (Nat.le_of_ble_eq_true rfl) rfl ?_
  refine go_iconst (pc' := 1) 1 dX7_circleOf_0 rfl (by decide) ?_
  refine go_iload_n (pc' := 2) dX7_circleOf_1 rfl rfl ?_
  refine go_ishl (pc' := 3) dX7_circleOf_2 rfl ?_
  refine go_istore_n (pc' := 4) dX7_circleOf_3 rfl (by decide) rfl ?_
  refine go_iconst (pc' := 5) 0 dX7_circleOf_4 rfl (by decide) ?_
  refine go_istore_n (pc' := 6) dX7_circleOf_5 rfl (by decide) rfl ?_
  exact lcr_m h wf 8 0 _ (by omega) k

set_option maxHeartbeats 4000000 in
set_option maxRecDepth 20000 in
theorem lX5_circles {sc : pg_Sc} {K : Int32 → pg_S → Prop} {g : pg_S} {T : TW} {n : Nat} (h : CR g 1 T n) (wf : WF T n) : ∀ (m : Nat) (i : Nat) (s : Int32), i + m = n → K (cntF (cirB T n n) m i s) g → pg_Go sc 2 mX5_circles 4 [(0, .ref 1), (1, .int s), (2, .int (nI i))] [] g (pg_ki K) := by
  intro m
  induction m with
  | zero =>
    intro i s hi k
    obtain rfl : i = n := by omega
    refine go_iload_n (pc' := 5) dX5_circles_4 rfl rfl ?_
    refine go_aload_n (pc' := 6) dX5_circles_5 rfl rfl ?_
    refine go_getI (pc' := 9) dX5_circles_6 rfl flRX5_36 rfl rfl ?_
    rw [c1_people h]
    refine go_icmp_ge (pc' := 12) (tgt := 37) dX5_circles_9 rfl (by decide) (fun h_9 => ?_) (fun h_9 => absurd (Int32.le_refl _) h_9)
    refine go_iload_n (pc' := 38) dX5_circles_37 rfl rfl ?_
    refine go_iret dX5_circles_38 (pg_narI _) ?_
    exact k
  | succ m ih =>
    intro i s hi k
    have hn := wf.1
    have hin : i < n := by omega
    simp only [cntF] at k
    refine go_iload_n (pc' := 5) dX5_circles_4 rfl rfl ?_
    refine go_aload_n (pc' := 6) dX5_circles_5 rfl rfl ?_
    refine go_getI (pc' := 9) dX5_circles_6 rfl flRX5_36 rfl rfl ?_
    rw [c1_people h]
    refine go_icmp_ge (pc' := 12) (tgt := 37) dX5_circles_9 rfl (by decide) (fun h_9 => absurd h_9 (nI_ge hin (by omega))) (fun h_9 => ?_)
    refine go_aload_n (pc' := 13) dX5_circles_12 rfl rfl ?_
    refine go_iload_n (pc' := 14) dX5_circles_13 rfl rfl ?_
    refine go_cVi1 (pc' := 17) (M' := mX5_circleOf) (d' := 1) dX5_circles_14 rfl cvRX5_101 rfl rfl (by decide) rfl (Nat.le_of_ble_eq_true rfl) ?_
    refine tX5_circleOf h wf ?_
    refine go_iconst (pc' := 18) 1 dX5_circles_17 rfl (by decide) ?_
    refine go_iload_n (pc' := 19) dX5_circles_18 rfl rfl ?_
    refine go_ishl (pc' := 20) dX5_circles_19 rfl ?_
    refine go_iconst (pc' := 21) 1 dX5_circles_20 rfl (by decide) ?_
    refine go_isub (pc' := 22) dX5_circles_21 rfl ?_
    refine go_iand (pc' := 23) dX5_circles_22 rfl ?_
    refine go_istore_n (pc' := 24) dX5_circles_23 rfl (by decide) rfl ?_
    refine go_iload_n (pc' := 25) dX5_circles_24 rfl rfl ?_
    refine go_if_ne (pc' := 28) (tgt := 31) dX5_circles_25 rfl (by decide) (fun h_25 => ?_) (fun h_25 => ?_)
    · refine go_iinc (pc' := 34) _ dX5_circles_31 rfl rfl (pg_inc _) (by decide) rfl ?_
      refine go_goto (pc' := 4) dX5_circles_34 (by decide) ?_
      rw [if_neg (fun q => h_25 (cirB_iff.mp q))] at k
      refine go_sub [0, 1, 2] rfl ?_
      exact ih (i + 1) _ (by omega) k
    · refine go_iinc (pc' := 31) _ dX5_circles_28 rfl rfl (pg_inc' _) (by decide) rfl ?_
      refine go_iinc (pc' := 34) _ dX5_circles_31 rfl rfl (pg_inc _) (by decide) rfl ?_
      refine go_goto (pc' := 4) dX5_circles_34 (by decide) ?_
      rw [if_pos (cirB_iff.mpr h_25)] at k
      refine go_sub [0, 1, 2] rfl ?_
      exact ih (i + 1) _ (by omega) k

set_option maxHeartbeats 4000000 in
set_option maxRecDepth 20000 in
theorem tX5_circles {sc : pg_Sc} {g : pg_S} {K : Int32 → pg_S → Prop} {T : TW} {n : Nat} (h : CR g 1 T n) (wf : WF T n) (k : K (cntF (cirB T n n) n 0 0) g) : pg_Cal sc 2 mX5_circles [.ref 1] g (pg_ki K) := by
  refine pg_Cal.of rfl (Nat.le_of_ble_eq_true rfl) rfl ?_
  refine go_iconst (pc' := 1) 0 dX5_circles_0 rfl (by decide) ?_
  refine go_istore_n (pc' := 2) dX5_circles_1 rfl (by decide) rfl ?_
  refine go_iconst (pc' := 3) 0 dX5_circles_2 rfl (by decide) ?_
  refine go_istore_n (pc' := 4) dX5_circles_3 rfl (by decide) rfl ?_
  exact lX5_circles h wf n 0 0 (by omega) k

set_option maxHeartbeats 4000000 in
set_option maxRecDepth 20000 in
theorem lX7_circles {sc : pg_Sc} {K : Int32 → pg_S → Prop} {g : pg_S} {T : TW} {n : Nat} (h : MR g 60 T n) (wf : WF T n) : ∀ (m : Nat) (i : Nat) (s : Int32), i + m = n → K (cntF (cirB T n 8) m i s) g → pg_Go sc 3 mX7_circles 4 [(0, .ref 59), (1, .int s), (2, .int (nI i))] [] g (pg_ki K) := by
  intro m
  induction m with
  | zero =>
    intro i s hi k
    obtain rfl : i = n := by omega
    refine go_iload_n (pc' := 5) dX7_circles_4 rfl rfl ?_
    refine go_aload_n (pc' := 6) dX7_circles_5 rfl rfl ?_
    refine go_getR (pc' := 9) dX7_circles_6 rfl flRX7_7 rfl rfl ?_
    refine go_iconst (pc' := 10) 5 dX7_circles_9 rfl (by decide) ?_
    refine go_iald (pc' := 11) 5 dX7_circles_10 rfl rfl rfl (by decide) (by decide) ?_
    rw [m60_people h]
    refine go_icmp_ge (pc' := 14) (tgt := 42) dX7_circles_11 rfl (by decide) (fun h_11 => ?_) (fun h_11 => absurd (Int32.le_refl _) h_11)
    refine go_iload_n (pc' := 43) dX7_circles_42 rfl rfl ?_
    refine go_iret dX7_circles_43 (pg_narI _) ?_
    exact k
  | succ m ih =>
    intro i s hi k
    have hn := wf.1
    have hin : i < n := by omega
    simp only [cntF] at k
    refine go_iload_n (pc' := 5) dX7_circles_4 rfl rfl ?_
    refine go_aload_n (pc' := 6) dX7_circles_5 rfl rfl ?_
    refine go_getR (pc' := 9) dX7_circles_6 rfl flRX7_7 rfl rfl ?_
    refine go_iconst (pc' := 10) 5 dX7_circles_9 rfl (by decide) ?_
    refine go_iald (pc' := 11) 5 dX7_circles_10 rfl rfl rfl (by decide) (by decide) ?_
    rw [m60_people h]
    refine go_icmp_ge (pc' := 14) (tgt := 42) dX7_circles_11 rfl (by decide) (fun h_11 => absurd h_11 (nI_ge hin (by omega))) (fun h_11 => ?_)
    refine go_iload_n (pc' := 15) dX7_circles_14 rfl rfl ?_
    refine go_aload_n (pc' := 16) dX7_circles_15 rfl rfl ?_
    refine go_iload_n (pc' := 17) dX7_circles_16 rfl rfl ?_
    refine go_cVi1 (pc' := 20) (M' := mX7_circleOf) (d' := 2) dX7_circles_17 rfl cvRX7_264 rfl rfl (by decide) rfl (Nat.le_of_ble_eq_true rfl) ?_
    refine tX7_circleOf h wf ?_
    refine go_iconst (pc' := 21) 1 dX7_circles_20 rfl (by decide) ?_
    refine go_iload_n (pc' := 22) dX7_circles_21 rfl rfl ?_
    refine go_ishl (pc' := 23) dX7_circles_22 rfl ?_
    refine go_iconst (pc' := 24) 1 dX7_circles_23 rfl (by decide) ?_
    refine go_isub (pc' := 25) dX7_circles_24 rfl ?_
    refine go_iand (pc' := 26) dX7_circles_25 rfl ?_
    refine go_if_ne (pc' := 29) (tgt := 33) dX7_circles_26 rfl (by decide) (fun h_26 => ?_) (fun h_26 => ?_)
    · refine go_iconst (pc' := 34) 0 dX7_circles_33 rfl (by decide) ?_
      refine go_iadd (pc' := 35) dX7_circles_34 rfl ?_
      refine go_istore_n (pc' := 36) dX7_circles_35 rfl (by decide) rfl ?_
      refine go_iinc (pc' := 39) _ dX7_circles_36 rfl rfl (pg_inc _) (by decide) rfl ?_
      refine go_goto (pc' := 4) dX7_circles_39 (by decide) ?_
      rw [if_neg (fun q => h_26 (cirB_iff.mp q))] at k
      rw [Int32.add_zero]
      exact ih (i + 1) _ (by omega) k
    · refine go_iconst (pc' := 30) 1 dX7_circles_29 rfl (by decide) ?_
      refine go_goto (pc' := 34) dX7_circles_30 (by decide) ?_
      refine go_iadd (pc' := 35) dX7_circles_34 rfl ?_
      refine go_istore_n (pc' := 36) dX7_circles_35 rfl (by decide) rfl ?_
      refine go_iinc (pc' := 39) _ dX7_circles_36 rfl rfl (pg_inc _) (by decide) rfl ?_
      refine go_goto (pc' := 4) dX7_circles_39 (by decide) ?_
      rw [if_pos (cirB_iff.mpr h_26)] at k
      exact ih (i + 1) _ (by omega) k

set_option maxHeartbeats 4000000 in
set_option maxRecDepth 20000 in
theorem tX7_circles {sc : pg_Sc} {g : pg_S} {K : Int32 → pg_S → Prop} {T : TW} {n : Nat} (h : MR g 60 T n) (wf : WF T n) (k : K (cntF (cirB T n 8) n 0 0) g) : pg_Cal sc 3 mX7_circles [.ref 59] g (pg_ki K) := by
  refine pg_Cal.of rfl (Nat.le_of_ble_eq_true rfl) rfl ?_
  refine go_iconst (pc' := 1) 0 dX7_circles_0 rfl (by decide) ?_
  refine go_istore_n (pc' := 2) dX7_circles_1 rfl (by decide) rfl ?_
  refine go_iconst (pc' := 3) 0 dX7_circles_2 rfl (by decide) ?_
  refine go_istore_n (pc' := 4) dX7_circles_3 rfl (by decide) rfl ?_
  exact lX7_circles h wf n 0 0 (by omega) k

def pghB (T : TW) (n k : Nat) : Bool := decide (orF (hadF T (nI k)) n 0 0 ≠ 0)
theorem pghB_iff {T : TW} {n k : Nat} : pghB T n k = true ↔ orF (hadF T (nI k)) n 0 0 ≠ 0 := decide_eq_true_iff
set_option maxHeartbeats 4000000 in
set_option maxRecDepth 20000 in
theorem lX7_pegsHad {sc : pg_Sc} {K : Int32 → pg_S → Prop} {g : pg_S} {T : TW} {n : Nat} (h : MR g 60 T n) (wf : WF T n) : ∀ (m : Nat) (i : Nat) (s : Int32), i + m = 6 → K (cntF (pghB T n) m i s) g → pg_Go sc 3 mX7_pegsHad 4 [(0, .ref 59), (1, .int s), (2, .int (nI i))] [] g (pg_ki K) := by
  intro m
  induction m with
  | zero =>
    intro i s hi k
    obtain rfl : i = 6 := by omega
    refine go_iload_n (pc' := 5) dX7_pegsHad_4 rfl rfl ?_
    refine go_bipush (pc' := 7) 6 dX7_pegsHad_5 rfl (by decide) ?_
    refine go_icmp_ge (pc' := 10) (tgt := 32) dX7_pegsHad_7 rfl (by decide) (fun h_7 => ?_) (fun h_7 => absurd (Int32.le_refl _) h_7)
    refine go_iload_n (pc' := 33) dX7_pegsHad_32 rfl rfl ?_
    refine go_iret dX7_pegsHad_33 (pg_narI _) ?_
    exact k
  | succ m ih =>
    intro i s hi k
    have hn := wf.1
    have hin : i < 6 := by omega
    simp only [cntF] at k
    refine go_iload_n (pc' := 5) dX7_pegsHad_4 rfl rfl ?_
    refine go_bipush (pc' := 7) 6 dX7_pegsHad_5 rfl (by decide) ?_
    refine go_icmp_ge (pc' := 10) (tgt := 32) dX7_pegsHad_7 rfl (by decide) (fun h_7 => absurd h_7 (nI_ge (b := 6) hin (by decide))) (fun h_7 => ?_)
    refine go_iload_n (pc' := 11) dX7_pegsHad_10 rfl rfl ?_
    refine go_aload_n (pc' := 12) dX7_pegsHad_11 rfl rfl ?_
    refine go_iload_n (pc' := 13) dX7_pegsHad_12 rfl rfl ?_
    refine go_cVi1 (pc' := 16) (M' := mX7_hadBy) (d' := 2) dX7_pegsHad_13 rfl cvRX7_239 rfl rfl (by decide) rfl (Nat.le_of_ble_eq_true rfl) ?_
    refine tX7_hadBy h wf ?_
    refine go_if_ne (pc' := 19) (tgt := 23) dX7_pegsHad_16 rfl (by decide) (fun h_16 => ?_) (fun h_16 => ?_)
    · refine go_iconst (pc' := 24) 1 dX7_pegsHad_23 rfl (by decide) ?_
      refine go_iadd (pc' := 25) dX7_pegsHad_24 rfl ?_
      refine go_istore_n (pc' := 26) dX7_pegsHad_25 rfl (by decide) rfl ?_
      refine go_iinc (pc' := 29) _ dX7_pegsHad_26 rfl rfl (pg_inc _) (by decide) rfl ?_
      refine go_goto (pc' := 4) dX7_pegsHad_29 (by decide) ?_
      rw [if_pos (pghB_iff.mpr h_16)] at k
      exact ih (i + 1) _ (by omega) k
    · refine go_iconst (pc' := 20) 0 dX7_pegsHad_19 rfl (by decide) ?_
      refine go_goto (pc' := 24) dX7_pegsHad_20 (by decide) ?_
      refine go_iadd (pc' := 25) dX7_pegsHad_24 rfl ?_
      refine go_istore_n (pc' := 26) dX7_pegsHad_25 rfl (by decide) rfl ?_
      refine go_iinc (pc' := 29) _ dX7_pegsHad_26 rfl rfl (pg_inc _) (by decide) rfl ?_
      refine go_goto (pc' := 4) dX7_pegsHad_29 (by decide) ?_
      rw [if_neg (fun q => pghB_iff.mp q h_16)] at k
      rw [Int32.add_zero]
      exact ih (i + 1) _ (by omega) k

set_option maxHeartbeats 4000000 in
set_option maxRecDepth 20000 in
theorem tX7_pegsHad {sc : pg_Sc} {g : pg_S} {K : Int32 → pg_S → Prop} {T : TW} {n : Nat} (h : MR g 60 T n) (wf : WF T n) (k : K (cntF (pghB T n) 6 0 0) g) : pg_Cal sc 3 mX7_pegsHad [.ref 59] g (pg_ki K) := by
  refine pg_Cal.of rfl (Nat.le_of_ble_eq_true rfl) rfl ?_
  refine go_iconst (pc' := 1) 0 dX7_pegsHad_0 rfl (by decide) ?_
  refine go_istore_n (pc' := 2) dX7_pegsHad_1 rfl (by decide) rfl ?_
  refine go_iconst (pc' := 3) 0 dX7_pegsHad_2 rfl (by decide) ?_
  refine go_istore_n (pc' := 4) dX7_pegsHad_3 rfl (by decide) rfl ?_
  exact lX7_pegsHad h wf 6 0 0 (by omega) k

