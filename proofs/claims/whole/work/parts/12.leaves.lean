theorem c1_law {g : pg_S} {T : TW} {n i : Nat} (h : CR g 1 T n) (hi : i < 4) : g.1 2 i = T 0 i := h.2.2.1 i hi
theorem c1_weight {g : pg_S} {T : TW} {n i : Nat} (h : CR g 1 T n) (hi : i < 6) : g.1 3 i = T 1 i := h.2.2.2.1 i hi
theorem c1_people {g : pg_S} {T : TW} {n : Nat} (h : CR g 1 T n) : g.1 1 8 = nI n := h.people
theorem c1_hour {g : pg_S} {T : TW} {n : Nat} (h : CR g 1 T n) : g.1 1 9 = T 8 1 := h.2.1 1 (by omega)
theorem c1_z {g : pg_S} {T : TW} {n : Nat} (h : CR g 1 T n) : g.1 1 10 = T 8 2 := h.2.1 2 (by omega)
theorem c1_kind {g : pg_S} {T : TW} {n p : Nat} (h : CR g 1 T n) (hp : p < n) : g.1 4 p = T 2 p := h.2.2.2.2 2 (by omega) (by omega) p hp
theorem c1_peg {g : pg_S} {T : TW} {n p : Nat} (h : CR g 1 T n) (hp : p < n) : g.1 5 p = T 3 p := h.2.2.2.2 3 (by omega) (by omega) p hp
theorem c1_age {g : pg_S} {T : TW} {n p : Nat} (h : CR g 1 T n) (hp : p < n) : g.1 6 p = T 4 p := h.2.2.2.2 4 (by omega) (by omega) p hp
theorem c1_place {g : pg_S} {T : TW} {n p : Nat} (h : CR g 1 T n) (hp : p < n) : g.1 7 p = T 5 p := h.2.2.2.2 5 (by omega) (by omega) p hp
theorem c1_know {g : pg_S} {T : TW} {n p : Nat} (h : CR g 1 T n) (hp : p < n) : g.1 8 p = T 6 p := h.2.2.2.2 6 (by omega) (by omega) p hp
theorem c10_law {g : pg_S} {T : TW} {n i : Nat} (h : CR g 10 T n) (hi : i < 4) : g.1 11 i = T 0 i := h.2.2.1 i hi
theorem c10_weight {g : pg_S} {T : TW} {n i : Nat} (h : CR g 10 T n) (hi : i < 6) : g.1 12 i = T 1 i := h.2.2.2.1 i hi
theorem c10_people {g : pg_S} {T : TW} {n : Nat} (h : CR g 10 T n) : g.1 10 8 = nI n := h.people
theorem c10_hour {g : pg_S} {T : TW} {n : Nat} (h : CR g 10 T n) : g.1 10 9 = T 8 1 := h.2.1 1 (by omega)
theorem c10_z {g : pg_S} {T : TW} {n : Nat} (h : CR g 10 T n) : g.1 10 10 = T 8 2 := h.2.1 2 (by omega)
theorem c10_kind {g : pg_S} {T : TW} {n p : Nat} (h : CR g 10 T n) (hp : p < n) : g.1 13 p = T 2 p := h.2.2.2.2 2 (by omega) (by omega) p hp
theorem c10_peg {g : pg_S} {T : TW} {n p : Nat} (h : CR g 10 T n) (hp : p < n) : g.1 14 p = T 3 p := h.2.2.2.2 3 (by omega) (by omega) p hp
theorem c10_age {g : pg_S} {T : TW} {n p : Nat} (h : CR g 10 T n) (hp : p < n) : g.1 15 p = T 4 p := h.2.2.2.2 4 (by omega) (by omega) p hp
theorem c10_place {g : pg_S} {T : TW} {n p : Nat} (h : CR g 10 T n) (hp : p < n) : g.1 16 p = T 5 p := h.2.2.2.2 5 (by omega) (by omega) p hp
theorem c10_know {g : pg_S} {T : TW} {n p : Nat} (h : CR g 10 T n) (hp : p < n) : g.1 17 p = T 6 p := h.2.2.2.2 6 (by omega) (by omega) p hp
theorem c19_law {g : pg_S} {T : TW} {n i : Nat} (h : CR g 19 T n) (hi : i < 4) : g.1 20 i = T 0 i := h.2.2.1 i hi
theorem c19_weight {g : pg_S} {T : TW} {n i : Nat} (h : CR g 19 T n) (hi : i < 6) : g.1 21 i = T 1 i := h.2.2.2.1 i hi
theorem c19_people {g : pg_S} {T : TW} {n : Nat} (h : CR g 19 T n) : g.1 19 8 = nI n := h.people
theorem c19_hour {g : pg_S} {T : TW} {n : Nat} (h : CR g 19 T n) : g.1 19 9 = T 8 1 := h.2.1 1 (by omega)
theorem c19_z {g : pg_S} {T : TW} {n : Nat} (h : CR g 19 T n) : g.1 19 10 = T 8 2 := h.2.1 2 (by omega)
theorem c19_kind {g : pg_S} {T : TW} {n p : Nat} (h : CR g 19 T n) (hp : p < n) : g.1 22 p = T 2 p := h.2.2.2.2 2 (by omega) (by omega) p hp
theorem c19_peg {g : pg_S} {T : TW} {n p : Nat} (h : CR g 19 T n) (hp : p < n) : g.1 23 p = T 3 p := h.2.2.2.2 3 (by omega) (by omega) p hp
theorem c19_age {g : pg_S} {T : TW} {n p : Nat} (h : CR g 19 T n) (hp : p < n) : g.1 24 p = T 4 p := h.2.2.2.2 4 (by omega) (by omega) p hp
theorem c19_place {g : pg_S} {T : TW} {n p : Nat} (h : CR g 19 T n) (hp : p < n) : g.1 25 p = T 5 p := h.2.2.2.2 5 (by omega) (by omega) p hp
theorem c19_know {g : pg_S} {T : TW} {n p : Nat} (h : CR g 19 T n) (hp : p < n) : g.1 26 p = T 6 p := h.2.2.2.2 6 (by omega) (by omega) p hp
theorem m60_law {g : pg_S} {T : TW} {n i : Nat} (h : MR g 60 T n) (hi : i < 4) : g.1 60 i = T 0 i := h.2.2.1 i hi
theorem m60_weight {g : pg_S} {T : TW} {n i : Nat} (h : MR g 60 T n) (hi : i < 6) : g.1 60 (7 + i) = T 1 i := h.2.2.2.1 i hi
theorem m60_people {g : pg_S} {T : TW} {n : Nat} (h : MR g 60 T n) : g.1 60 5 = nI n := h.people
theorem m60_hour {g : pg_S} {T : TW} {n : Nat} (h : MR g 60 T n) : g.1 60 4 = T 8 1 := h.2.1.2.1
theorem m60_z {g : pg_S} {T : TW} {n : Nat} (h : MR g 60 T n) : g.1 60 6 = T 8 2 := h.2.1.2.2
theorem m62_law {g : pg_S} {T : TW} {n i : Nat} (h : MR g 62 T n) (hi : i < 4) : g.1 62 i = T 0 i := h.2.2.1 i hi
theorem m62_weight {g : pg_S} {T : TW} {n i : Nat} (h : MR g 62 T n) (hi : i < 6) : g.1 62 (7 + i) = T 1 i := h.2.2.2.1 i hi
theorem m62_people {g : pg_S} {T : TW} {n : Nat} (h : MR g 62 T n) : g.1 62 5 = nI n := h.people
theorem m62_hour {g : pg_S} {T : TW} {n : Nat} (h : MR g 62 T n) : g.1 62 4 = T 8 1 := h.2.1.2.1
theorem m62_z {g : pg_S} {T : TW} {n : Nat} (h : MR g 62 T n) : g.1 62 6 = T 8 2 := h.2.1.2.2
theorem m63_law {g : pg_S} {T : TW} {n i : Nat} (h : MR g 63 T n) (hi : i < 4) : g.1 63 i = T 0 i := h.2.2.1 i hi
theorem m63_weight {g : pg_S} {T : TW} {n i : Nat} (h : MR g 63 T n) (hi : i < 6) : g.1 63 (7 + i) = T 1 i := h.2.2.2.1 i hi
theorem m63_people {g : pg_S} {T : TW} {n : Nat} (h : MR g 63 T n) : g.1 63 5 = nI n := h.people
theorem m63_hour {g : pg_S} {T : TW} {n : Nat} (h : MR g 63 T n) : g.1 63 4 = T 8 1 := h.2.1.2.1
theorem m63_z {g : pg_S} {T : TW} {n : Nat} (h : MR g 63 T n) : g.1 63 6 = T 8 2 := h.2.1.2.2
def ush (x y : Int32) : Int32 := (x.toUInt32 >>> (y.toUInt32 &&& Int32.toUInt32 31)).toInt32
def bc1 (x : Int32) : Int32 := x - (ush x 1 &&& 1431655765)
def bc2 (x : Int32) : Int32 := (x &&& 858993459) + (ush x 2 &&& 858993459)
def bc3 (x : Int32) : Int32 := (x + ush x 4) &&& 252645135
def bc4 (x : Int32) : Int32 := x + ush x 8
def bc5 (x : Int32) : Int32 := x + ush x 16
def bcF (x : Int32) : Int32 := bc5 (bc4 (bc3 (bc2 (bc1 x)))) &&& 63
set_option maxHeartbeats 4000000 in
set_option maxRecDepth 20000 in
theorem tJ6_bitCount_0f7a4 {sc : pg_Sc} {g : pg_S} {K : Int32 → pg_S → Prop} {x : Int32}  (k : K (bcF x) g) : pg_Cal sc 1 mJ6_bitCount_0f7a4 [.int x] g (pg_ki K) := by
  refine pg_Cal.of rfl (Nat.le_of_ble_eq_true rfl) rfl ?_
  refine go_iload_n (pc' := 1) dJ6_bitCount_0f7a4_0 rfl rfl ?_
  refine go_iload_n (pc' := 2) dJ6_bitCount_0f7a4_1 rfl rfl ?_
  refine go_iconst (pc' := 3) 1 dJ6_bitCount_0f7a4_2 rfl (by decide) ?_
  refine go_iushr (pc' := 4) dJ6_bitCount_0f7a4_3 rfl ?_
  refine go_ldcw (pc' := 7) dJ6_bitCount_0f7a4_4 rfl ciRJ6_265 ?_
  refine go_iand (pc' := 8) dJ6_bitCount_0f7a4_7 rfl ?_
  refine go_isub (pc' := 9) dJ6_bitCount_0f7a4_8 rfl ?_
  refine go_istore_n (pc' := 10) dJ6_bitCount_0f7a4_9 rfl (by decide) rfl ?_
  refine go_iload_n (pc' := 11) dJ6_bitCount_0f7a4_10 rfl rfl ?_
  refine go_ldcw (pc' := 14) dJ6_bitCount_0f7a4_11 rfl ciRJ6_266 ?_
  refine go_iand (pc' := 15) dJ6_bitCount_0f7a4_14 rfl ?_
  refine go_iload_n (pc' := 16) dJ6_bitCount_0f7a4_15 rfl rfl ?_
  refine go_iconst (pc' := 17) 2 dJ6_bitCount_0f7a4_16 rfl (by decide) ?_
  refine go_iushr (pc' := 18) dJ6_bitCount_0f7a4_17 rfl ?_
  refine go_ldcw (pc' := 21) dJ6_bitCount_0f7a4_18 rfl ciRJ6_266 ?_
  refine go_iand (pc' := 22) dJ6_bitCount_0f7a4_21 rfl ?_
  refine go_iadd (pc' := 23) dJ6_bitCount_0f7a4_22 rfl ?_
  refine go_istore_n (pc' := 24) dJ6_bitCount_0f7a4_23 rfl (by decide) rfl ?_
  refine go_iload_n (pc' := 25) dJ6_bitCount_0f7a4_24 rfl rfl ?_
  refine go_iload_n (pc' := 26) dJ6_bitCount_0f7a4_25 rfl rfl ?_
  refine go_iconst (pc' := 27) 4 dJ6_bitCount_0f7a4_26 rfl (by decide) ?_
  refine go_iushr (pc' := 28) dJ6_bitCount_0f7a4_27 rfl ?_
  refine go_iadd (pc' := 29) dJ6_bitCount_0f7a4_28 rfl ?_
  refine go_ldcw (pc' := 32) dJ6_bitCount_0f7a4_29 rfl ciRJ6_267 ?_
  refine go_iand (pc' := 33) dJ6_bitCount_0f7a4_32 rfl ?_
  refine go_istore_n (pc' := 34) dJ6_bitCount_0f7a4_33 rfl (by decide) rfl ?_
  refine go_iload_n (pc' := 35) dJ6_bitCount_0f7a4_34 rfl rfl ?_
  refine go_iload_n (pc' := 36) dJ6_bitCount_0f7a4_35 rfl rfl ?_
  refine go_bipush (pc' := 38) 8 dJ6_bitCount_0f7a4_36 rfl (by decide) ?_
  refine go_iushr (pc' := 39) dJ6_bitCount_0f7a4_38 rfl ?_
  refine go_iadd (pc' := 40) dJ6_bitCount_0f7a4_39 rfl ?_
  refine go_istore_n (pc' := 41) dJ6_bitCount_0f7a4_40 rfl (by decide) rfl ?_
  refine go_iload_n (pc' := 42) dJ6_bitCount_0f7a4_41 rfl rfl ?_
  refine go_iload_n (pc' := 43) dJ6_bitCount_0f7a4_42 rfl rfl ?_
  refine go_bipush (pc' := 45) 16 dJ6_bitCount_0f7a4_43 rfl (by decide) ?_
  refine go_iushr (pc' := 46) dJ6_bitCount_0f7a4_45 rfl ?_
  refine go_iadd (pc' := 47) dJ6_bitCount_0f7a4_46 rfl ?_
  refine go_istore_n (pc' := 48) dJ6_bitCount_0f7a4_47 rfl (by decide) rfl ?_
  refine go_iload_n (pc' := 49) dJ6_bitCount_0f7a4_48 rfl rfl ?_
  refine go_bipush (pc' := 51) 63 dJ6_bitCount_0f7a4_49 rfl (by decide) ?_
  refine go_iand (pc' := 52) dJ6_bitCount_0f7a4_51 rfl ?_
  refine go_iret dJ6_bitCount_0f7a4_52 (pg_narI _) ?_
  exact k

theorem tX7_its0 {sc : pg_Sc} {g : pg_S} {K : Int32 → pg_S → Prop} {T : TW} {n p : Nat} (h : MR g 60 T n) (wf : WF T n) (hp : p < n) (k : K (T 2 p) g) : pg_Cal sc 1 mX7_its [.ref 59, .int (nI p), .int 0] g (pg_ki K) := by
  have hn := wf.1
  refine tX7_its (p := p) (q := 0) (by omega) (by decide) ?_
  rw [h.at5 0 hp (by decide)]
  exact k
theorem tX7_its1 {sc : pg_Sc} {g : pg_S} {K : Int32 → pg_S → Prop} {T : TW} {n p : Nat} (h : MR g 60 T n) (wf : WF T n) (hp : p < n) (k : K (T 3 p) g) : pg_Cal sc 1 mX7_its [.ref 59, .int (nI p), .int 1] g (pg_ki K) := by
  have hn := wf.1
  refine tX7_its (p := p) (q := 1) (by omega) (by decide) ?_
  rw [h.at5 1 hp (by decide)]
  exact k
theorem tX7_its2 {sc : pg_Sc} {g : pg_S} {K : Int32 → pg_S → Prop} {T : TW} {n p : Nat} (h : MR g 60 T n) (wf : WF T n) (hp : p < n) (k : K (T 4 p) g) : pg_Cal sc 1 mX7_its [.ref 59, .int (nI p), .int 2] g (pg_ki K) := by
  have hn := wf.1
  refine tX7_its (p := p) (q := 2) (by omega) (by decide) ?_
  rw [h.at5 2 hp (by decide)]
  exact k
theorem tX7_its3 {sc : pg_Sc} {g : pg_S} {K : Int32 → pg_S → Prop} {T : TW} {n p : Nat} (h : MR g 60 T n) (wf : WF T n) (hp : p < n) (k : K (T 5 p) g) : pg_Cal sc 1 mX7_its [.ref 59, .int (nI p), .int 3] g (pg_ki K) := by
  have hn := wf.1
  refine tX7_its (p := p) (q := 3) (by omega) (by decide) ?_
  rw [h.at5 3 hp (by decide)]
  exact k
theorem tX7_its4 {sc : pg_Sc} {g : pg_S} {K : Int32 → pg_S → Prop} {T : TW} {n p : Nat} (h : MR g 60 T n) (wf : WF T n) (hp : p < n) (k : K (T 6 p) g) : pg_Cal sc 1 mX7_its [.ref 59, .int (nI p), .int 4] g (pg_ki K) := by
  have hn := wf.1
  refine tX7_its (p := p) (q := 4) (by omega) (by decide) ?_
  rw [h.at5 4 hp (by decide)]
  exact k
set_option maxHeartbeats 4000000 in
set_option maxRecDepth 20000 in
theorem tX7_leaning {sc : pg_Sc} {g : pg_S} {K : Int32 → pg_S → Prop} {T : TW} {n p : Nat} {hr : Int32} (h : MR g 60 T n) (wf : WF T n) (hp : p < n) (k : K (leanF T p hr) g) : pg_Cal sc 2 mX7_leaning [.ref 59, .int (nI p), .int hr] g (pg_ki K) := by
  refine pg_Cal.of rfl (Nat.le_of_ble_eq_true rfl) rfl ?_
  have hn := wf.1
  obtain ⟨v, hv, ev⟩ := wf.peg hp
  have ew : (T 3 p).toNatClampNeg = v := by rw [ev, nI_clamp (by omega)]
  refine go_aload_n (pc' := 1) dX7_leaning_0 rfl rfl ?_
  refine go_getR (pc' := 4) dX7_leaning_1 rfl flRX7_7 rfl rfl ?_
  refine go_bipush (pc' := 6) 7 dX7_leaning_4 rfl (by decide) ?_
  refine go_aload_n (pc' := 7) dX7_leaning_6 rfl rfl ?_
  refine go_iload_n (pc' := 8) dX7_leaning_7 rfl rfl ?_
  refine go_iconst (pc' := 9) 1 dX7_leaning_8 rfl (by decide) ?_
  refine go_cVi2 (pc' := 12) (M' := mX7_its) (d' := 1) dX7_leaning_9 rfl cvRX7_217 rfl rfl (by decide) rfl (Nat.le_of_ble_eq_true rfl) ?_
  refine tX7_its1 h wf hp ?_
  refine go_iadd (pc' := 13) dX7_leaning_12 rfl ?_
  refine go_iald (pc' := 14) (7 + v) dX7_leaning_13 rfl rfl (by rw [ev, show (7 : Int32) = nI 7 from rfl, nI_add]) (by omega) (by decide) ?_
  rw [m60_weight h hv]
  refine go_bipush (pc' := 16) 10 dX7_leaning_14 rfl (by decide) ?_
  refine go_idiv (pc' := 17) dX7_leaning_16 rfl (by decide) ?_
  refine go_istore_n (pc' := 18) dX7_leaning_17 rfl (by decide) rfl ?_
  refine go_iload_n (pc' := 19) dX7_leaning_18 rfl rfl ?_
  refine go_bipush (pc' := 21) 10 dX7_leaning_19 rfl (by decide) ?_
  refine go_irem (pc' := 22) dX7_leaning_21 rfl (by decide) ?_
  refine go_aload_n (pc' := 23) dX7_leaning_22 rfl rfl ?_
  refine go_getR (pc' := 26) dX7_leaning_23 rfl flRX7_7 rfl rfl ?_
  refine go_iconst (pc' := 27) 0 dX7_leaning_26 rfl (by decide) ?_
  refine go_iald (pc' := 28) 0 dX7_leaning_27 rfl rfl rfl (by decide) (by decide) ?_
  rw [m60_law h (by decide)]
  refine go_icmp_ne (pc' := 31) (tgt := 35) dX7_leaning_28 rfl (by decide) (fun h_28 => ?_) (fun h_28 => ?_)
  · refine go_iconst (pc' := 36) 0 dX7_leaning_35 rfl (by decide) ?_
    refine go_istore (pc' := 38) dX7_leaning_36 rfl (by decide) rfl ?_
    refine go_aload_n (pc' := 39) dX7_leaning_38 rfl rfl ?_
    refine go_iload_n (pc' := 40) dX7_leaning_39 rfl rfl ?_
    refine go_iconst (pc' := 41) 0 dX7_leaning_40 rfl (by decide) ?_
    refine go_cVi2 (pc' := 44) (M' := mX7_its) (d' := 1) dX7_leaning_41 rfl cvRX7_217 rfl rfl (by decide) rfl (Nat.le_of_ble_eq_true rfl) ?_
    refine tX7_its0 h wf hp ?_
    refine go_xcase _ pg_sw1_5 (fun h_44 => ?_)
    rcases h_44 with h_44 | h_44 | h_44 | h_44 | h_44 | h_44
    · refine go_tableIn (pc' := 80) dX7_leaning_44 (by rw [h_44]; decide) (by rw [h_44]; decide) (by rw [h_44]; rfl) (by decide) ?_
      refine go_iload (pc' := 82) dX7_leaning_80 rfl rfl ?_
      refine go_iconst (pc' := 83) 1 dX7_leaning_82 rfl (by decide) ?_
      refine go_iadd (pc' := 84) dX7_leaning_83 rfl ?_
      refine go_iret dX7_leaning_84 (pg_narI _) ?_
      rw [leanF_1 h_44] at k
      try unfold plainF at k
      rw [ew] at k
      first | (rw [if_pos h_28] at k) | (rw [if_neg h_28] at k) | skip
      exact k
    · refine go_tableIn (pc' := 92) dX7_leaning_44 (by rw [h_44]; decide) (by rw [h_44]; decide) (by rw [h_44]; rfl) (by decide) ?_
      refine go_iload (pc' := 94) dX7_leaning_92 rfl rfl ?_
      refine go_iconst (pc' := 95) 1 dX7_leaning_94 rfl (by decide) ?_
      refine go_isub (pc' := 96) dX7_leaning_95 rfl ?_
      refine go_iret dX7_leaning_96 (pg_narI _) ?_
      rw [leanF_2 h_44] at k
      try unfold plainF at k
      rw [ew] at k
      first | (rw [if_pos h_28] at k) | (rw [if_neg h_28] at k) | skip
      exact k
    · refine go_tableIn (pc' := 85) dX7_leaning_44 (by rw [h_44]; decide) (by rw [h_44]; decide) (by rw [h_44]; rfl) (by decide) ?_
      refine go_iconst (pc' := 86) 2 dX7_leaning_85 rfl (by decide) ?_
      refine go_iload (pc' := 88) dX7_leaning_86 rfl rfl ?_
      refine go_iconst (pc' := 89) 1 dX7_leaning_88 rfl (by decide) ?_
      refine go_iadd (pc' := 90) dX7_leaning_89 rfl ?_
      refine go_imul (pc' := 91) dX7_leaning_90 rfl ?_
      refine go_iret dX7_leaning_91 (pg_narI _) ?_
      rw [leanF_3 h_44] at k
      try unfold plainF at k
      rw [ew] at k
      first | (rw [if_pos h_28] at k) | (rw [if_neg h_28] at k) | skip
      rw [Int32.mul_comm] at k
      exact k
    · refine go_tableIn (pc' := 97) dX7_leaning_44 (by rw [h_44]; decide) (by rw [h_44]; decide) (by rw [h_44]; rfl) (by decide) ?_
      refine go_iload (pc' := 99) dX7_leaning_97 rfl rfl ?_
      refine go_iconst (pc' := 100) 1 dX7_leaning_99 rfl (by decide) ?_
      refine go_isub (pc' := 101) dX7_leaning_100 rfl ?_
      refine go_aload_n (pc' := 102) dX7_leaning_101 rfl rfl ?_
      refine go_iload_n (pc' := 103) dX7_leaning_102 rfl rfl ?_
      refine go_iconst (pc' := 104) 2 dX7_leaning_103 rfl (by decide) ?_
      refine go_cVi2 (pc' := 107) (M' := mX7_its) (d' := 1) dX7_leaning_104 rfl cvRX7_217 rfl rfl (by decide) rfl (Nat.le_of_ble_eq_true rfl) ?_
      refine tX7_its2 h wf hp ?_
      refine go_bipush (pc' := 109) 10 dX7_leaning_107 rfl (by decide) ?_
      refine go_idiv (pc' := 110) dX7_leaning_109 rfl (by decide) ?_
      refine go_iadd (pc' := 111) dX7_leaning_110 rfl ?_
      refine go_iret dX7_leaning_111 (pg_narI _) ?_
      rw [leanF_4 h_44] at k
      try unfold plainF at k
      rw [ew] at k
      first | (rw [if_pos h_28] at k) | (rw [if_neg h_28] at k) | skip
      exact k
    · refine go_tableIn (pc' := 112) dX7_leaning_44 (by rw [h_44]; decide) (by rw [h_44]; decide) (by rw [h_44]; rfl) (by decide) ?_
      refine go_iload_n (pc' := 113) dX7_leaning_112 rfl rfl ?_
      refine go_iret dX7_leaning_113 (pg_narI _) ?_
      rw [leanF_5 h_44] at k
      try unfold plainF at k
      rw [ew] at k
      first | (rw [if_pos h_28] at k) | (rw [if_neg h_28] at k) | skip
      exact k
    · refine go_tableOut (pc' := 114) dX7_leaning_44 h_44 (by decide) ?_
      refine go_iload (pc' := 116) dX7_leaning_114 rfl rfl ?_
      refine go_iret dX7_leaning_116 (pg_narI _) ?_
      rw [leanF_0 h_44] at k
      try unfold plainF at k
      rw [ew] at k
      first | (rw [if_pos h_28] at k) | (rw [if_neg h_28] at k) | skip
      exact k
  · refine go_iload_n (pc' := 32) dX7_leaning_31 rfl rfl ?_
    refine go_goto (pc' := 36) dX7_leaning_32 (by decide) ?_
    refine go_istore (pc' := 38) dX7_leaning_36 rfl (by decide) rfl ?_
    refine go_aload_n (pc' := 39) dX7_leaning_38 rfl rfl ?_
    refine go_iload_n (pc' := 40) dX7_leaning_39 rfl rfl ?_
    refine go_iconst (pc' := 41) 0 dX7_leaning_40 rfl (by decide) ?_
    refine go_cVi2 (pc' := 44) (M' := mX7_its) (d' := 1) dX7_leaning_41 rfl cvRX7_217 rfl rfl (by decide) rfl (Nat.le_of_ble_eq_true rfl) ?_
    refine tX7_its0 h wf hp ?_
    refine go_xcase _ pg_sw1_5 (fun h_44 => ?_)
    rcases h_44 with h_44 | h_44 | h_44 | h_44 | h_44 | h_44
    · refine go_tableIn (pc' := 80) dX7_leaning_44 (by rw [h_44]; decide) (by rw [h_44]; decide) (by rw [h_44]; rfl) (by decide) ?_
      refine go_iload (pc' := 82) dX7_leaning_80 rfl rfl ?_
      refine go_iconst (pc' := 83) 1 dX7_leaning_82 rfl (by decide) ?_
      refine go_iadd (pc' := 84) dX7_leaning_83 rfl ?_
      refine go_iret dX7_leaning_84 (pg_narI _) ?_
      rw [leanF_1 h_44] at k
      try unfold plainF at k
      rw [ew] at k
      first | (rw [if_pos h_28] at k) | (rw [if_neg h_28] at k) | skip
      exact k
    · refine go_tableIn (pc' := 92) dX7_leaning_44 (by rw [h_44]; decide) (by rw [h_44]; decide) (by rw [h_44]; rfl) (by decide) ?_
      refine go_iload (pc' := 94) dX7_leaning_92 rfl rfl ?_
      refine go_iconst (pc' := 95) 1 dX7_leaning_94 rfl (by decide) ?_
      refine go_isub (pc' := 96) dX7_leaning_95 rfl ?_
      refine go_iret dX7_leaning_96 (pg_narI _) ?_
      rw [leanF_2 h_44] at k
      try unfold plainF at k
      rw [ew] at k
      first | (rw [if_pos h_28] at k) | (rw [if_neg h_28] at k) | skip
      exact k
    · refine go_tableIn (pc' := 85) dX7_leaning_44 (by rw [h_44]; decide) (by rw [h_44]; decide) (by rw [h_44]; rfl) (by decide) ?_
      refine go_iconst (pc' := 86) 2 dX7_leaning_85 rfl (by decide) ?_
      refine go_iload (pc' := 88) dX7_leaning_86 rfl rfl ?_
      refine go_iconst (pc' := 89) 1 dX7_leaning_88 rfl (by decide) ?_
      refine go_iadd (pc' := 90) dX7_leaning_89 rfl ?_
      refine go_imul (pc' := 91) dX7_leaning_90 rfl ?_
      refine go_iret dX7_leaning_91 (pg_narI _) ?_
      rw [leanF_3 h_44] at k
      try unfold plainF at k
      rw [ew] at k
      first | (rw [if_pos h_28] at k) | (rw [if_neg h_28] at k) | skip
      rw [Int32.mul_comm] at k
      exact k
    · refine go_tableIn (pc' := 97) dX7_leaning_44 (by rw [h_44]; decide) (by rw [h_44]; decide) (by rw [h_44]; rfl) (by decide) ?_
      refine go_iload (pc' := 99) dX7_leaning_97 rfl rfl ?_
      refine go_iconst (pc' := 100) 1 dX7_leaning_99 rfl (by decide) ?_
      refine go_isub (pc' := 101) dX7_leaning_100 rfl ?_
      refine go_aload_n (pc' := 102) dX7_leaning_101 rfl rfl ?_
      refine go_iload_n (pc' := 103) dX7_leaning_102 rfl rfl ?_
      refine go_iconst (pc' := 104) 2 dX7_leaning_103 rfl (by decide) ?_
      refine go_cVi2 (pc' := 107) (M' := mX7_its) (d' := 1) dX7_leaning_104 rfl cvRX7_217 rfl rfl (by decide) rfl (Nat.le_of_ble_eq_true rfl) ?_
      refine tX7_its2 h wf hp ?_
      refine go_bipush (pc' := 109) 10 dX7_leaning_107 rfl (by decide) ?_
      refine go_idiv (pc' := 110) dX7_leaning_109 rfl (by decide) ?_
      refine go_iadd (pc' := 111) dX7_leaning_110 rfl ?_
      refine go_iret dX7_leaning_111 (pg_narI _) ?_
      rw [leanF_4 h_44] at k
      try unfold plainF at k
      rw [ew] at k
      first | (rw [if_pos h_28] at k) | (rw [if_neg h_28] at k) | skip
      exact k
    · refine go_tableIn (pc' := 112) dX7_leaning_44 (by rw [h_44]; decide) (by rw [h_44]; decide) (by rw [h_44]; rfl) (by decide) ?_
      refine go_iload_n (pc' := 113) dX7_leaning_112 rfl rfl ?_
      refine go_iret dX7_leaning_113 (pg_narI _) ?_
      rw [leanF_5 h_44] at k
      try unfold plainF at k
      rw [ew] at k
      first | (rw [if_pos h_28] at k) | (rw [if_neg h_28] at k) | skip
      exact k
    · refine go_tableOut (pc' := 114) dX7_leaning_44 h_44 (by decide) ?_
      refine go_iload (pc' := 116) dX7_leaning_114 rfl rfl ?_
      refine go_iret dX7_leaning_116 (pg_narI _) ?_
      rw [leanF_0 h_44] at k
      try unfold plainF at k
      rw [ew] at k
      first | (rw [if_pos h_28] at k) | (rw [if_neg h_28] at k) | skip
      exact k

set_option maxHeartbeats 4000000 in
set_option maxRecDepth 20000 in
theorem tX7_striding {sc : pg_Sc} {g : pg_S} {K : Int32 → pg_S → Prop} {T : TW} {n p : Nat} (h : MR g 60 T n) (wf : WF T n) (hp : p < n) (k : K (strideF T p) g) : pg_Cal sc 2 mX7_striding [.ref 59, .int (nI p)] g (pg_ki K) := by
  refine pg_Cal.of rfl (Nat.le_of_ble_eq_true rfl) rfl ?_
  have hn := wf.1
  refine go_aload_n (pc' := 1) dX7_striding_0 rfl rfl ?_
  refine go_iload_n (pc' := 2) dX7_striding_1 rfl rfl ?_
  refine go_iconst (pc' := 3) 0 dX7_striding_2 rfl (by decide) ?_
  refine go_cVi2 (pc' := 6) (M' := mX7_its) (d' := 1) dX7_striding_3 rfl cvRX7_217 rfl rfl (by decide) rfl (Nat.le_of_ble_eq_true rfl) ?_
  refine tX7_its0 h wf hp ?_
  refine go_xcase _ pg_sw1_5 (fun h_6 => ?_)
  rcases h_6 with h_6 | h_6 | h_6 | h_6 | h_6 | h_6
  · refine go_tableIn (pc' := 40) dX7_striding_6 (by rw [h_6]; decide) (by rw [h_6]; decide) (by rw [h_6]; rfl) (by decide) ?_
    refine go_iconst (pc' := 41) 2 dX7_striding_40 rfl (by decide) ?_
    refine go_iret dX7_striding_41 (pg_narI _) ?_
    rw [strideF_1 h_6] at k
    exact k
  · refine go_tableIn (pc' := 44) dX7_striding_6 (by rw [h_6]; decide) (by rw [h_6]; decide) (by rw [h_6]; rfl) (by decide) ?_
    refine go_iconst (pc' := 45) 1 dX7_striding_44 rfl (by decide) ?_
    refine go_aload_n (pc' := 46) dX7_striding_45 rfl rfl ?_
    refine go_getR (pc' := 49) dX7_striding_46 rfl flRX7_7 rfl rfl ?_
    refine go_iconst (pc' := 50) 1 dX7_striding_49 rfl (by decide) ?_
    refine go_iald (pc' := 51) 1 dX7_striding_50 rfl rfl rfl (by decide) (by decide) ?_
    rw [m60_law h (by decide)]
    refine go_iadd (pc' := 52) dX7_striding_51 rfl ?_
    refine go_iret dX7_striding_52 (pg_narI _) ?_
    rw [strideF_2 h_6] at k
    exact k
  · refine go_tableIn (pc' := 42) dX7_striding_6 (by rw [h_6]; decide) (by rw [h_6]; decide) (by rw [h_6]; rfl) (by decide) ?_
    refine go_iconst (pc' := 43) (-1) dX7_striding_42 rfl (by decide) ?_
    refine go_iret dX7_striding_43 (pg_narI _) ?_
    rw [strideF_3 h_6] at k
    exact k
  · refine go_tableIn (pc' := 53) dX7_striding_6 (by rw [h_6]; decide) (by rw [h_6]; decide) (by rw [h_6]; rfl) (by decide) ?_
    refine go_iconst (pc' := 54) 2 dX7_striding_53 rfl (by decide) ?_
    refine go_iconst (pc' := 55) 1 dX7_striding_54 rfl (by decide) ?_
    refine go_aload_n (pc' := 56) dX7_striding_55 rfl rfl ?_
    refine go_getR (pc' := 59) dX7_striding_56 rfl flRX7_7 rfl rfl ?_
    refine go_iconst (pc' := 60) 1 dX7_striding_59 rfl (by decide) ?_
    refine go_iald (pc' := 61) 1 dX7_striding_60 rfl rfl rfl (by decide) (by decide) ?_
    rw [m60_law h (by decide)]
    refine go_iadd (pc' := 62) dX7_striding_61 rfl ?_
    refine go_imul (pc' := 63) dX7_striding_62 rfl ?_
    refine go_iret dX7_striding_63 (pg_narI _) ?_
    rw [strideF_4 h_6, Int32.mul_comm] at k
    exact k
  · refine go_tableIn (pc' := 64) dX7_striding_6 (by rw [h_6]; decide) (by rw [h_6]; decide) (by rw [h_6]; rfl) (by decide) ?_
    refine go_iconst (pc' := 65) 0 dX7_striding_64 rfl (by decide) ?_
    refine go_iret dX7_striding_65 (pg_narI _) ?_
    rw [strideF_5 h_6] at k
    exact k
  · refine go_tableOut (pc' := 66) dX7_striding_6 h_6 (by decide) ?_
    refine go_iconst (pc' := 67) 1 dX7_striding_66 rfl (by decide) ?_
    refine go_iret dX7_striding_67 (pg_narI _) ?_
    rw [strideF_0 h_6] at k
    exact k

set_option maxHeartbeats 4000000 in
set_option maxRecDepth 20000 in
theorem tX5_leanAt_1 {sc : pg_Sc} {g : pg_S} {K : Int32 → pg_S → Prop} {T : TW} {n p : Nat} {hr : Int32} (h : CR g 1 T n) (wf : WF T n) (hp : p < n) (k : K (leanF T p hr) g) : pg_Cal sc 1 mX5_leanAt [.ref 1, .int (nI p), .int hr] g (pg_ki K) := by
  refine pg_Cal.of rfl (Nat.le_of_ble_eq_true rfl) rfl ?_
  have hn := wf.1
  obtain ⟨v, hv, ev⟩ := wf.peg hp
  have ew : (T 3 p).toNatClampNeg = v := by rw [ev, nI_clamp (by omega)]
  refine go_aload_n (pc' := 1) dX5_leanAt_0 rfl rfl ?_
  refine go_getR (pc' := 4) dX5_leanAt_1 rfl flRX5_15 rfl rfl ?_
  refine go_aload_n (pc' := 5) dX5_leanAt_4 rfl rfl ?_
  refine go_getR (pc' := 8) dX5_leanAt_5 rfl flRX5_21 rfl rfl ?_
  refine go_iload_n (pc' := 9) dX5_leanAt_8 rfl rfl ?_
  refine go_iald (pc' := 10) _ dX5_leanAt_9 rfl rfl rfl (by omega) (by decide) ?_
  rw [c1_peg h (by omega)]
  refine go_iald (pc' := 11) v dX5_leanAt_10 rfl rfl ev (by omega) (by decide) ?_
  rw [c1_weight h (by first | decide | omega)]
  refine go_bipush (pc' := 13) 10 dX5_leanAt_11 rfl (by decide) ?_
  refine go_idiv (pc' := 14) dX5_leanAt_13 rfl (by decide) ?_
  refine go_istore_n (pc' := 15) dX5_leanAt_14 rfl (by decide) rfl ?_
  refine go_iload_n (pc' := 16) dX5_leanAt_15 rfl rfl ?_
  refine go_bipush (pc' := 18) 10 dX5_leanAt_16 rfl (by decide) ?_
  refine go_irem (pc' := 19) dX5_leanAt_18 rfl (by decide) ?_
  refine go_aload_n (pc' := 20) dX5_leanAt_19 rfl rfl ?_
  refine go_getR (pc' := 23) dX5_leanAt_20 rfl flRX5_9 rfl rfl ?_
  refine go_iconst (pc' := 24) 0 dX5_leanAt_23 rfl (by decide) ?_
  refine go_iald (pc' := 25) 0 dX5_leanAt_24 rfl rfl rfl (by decide) (by decide) ?_
  rw [c1_law h (by first | decide | omega)]
  refine go_icmp_ne (pc' := 28) (tgt := 32) dX5_leanAt_25 rfl (by decide) (fun h_25 => ?_) (fun h_25 => ?_)
  · refine go_iconst (pc' := 33) 0 dX5_leanAt_32 rfl (by decide) ?_
    refine go_istore (pc' := 35) dX5_leanAt_33 rfl (by decide) rfl ?_
    refine go_aload_n (pc' := 36) dX5_leanAt_35 rfl rfl ?_
    refine go_getR (pc' := 39) dX5_leanAt_36 rfl flRX5_18 rfl rfl ?_
    refine go_iload_n (pc' := 40) dX5_leanAt_39 rfl rfl ?_
    refine go_iald (pc' := 41) _ dX5_leanAt_40 rfl rfl rfl (by omega) (by decide) ?_
    rw [c1_kind h (by omega)]
    refine go_xcase _ pg_sw1_5 (fun h_41 => ?_)
    rcases h_41 with h_41 | h_41 | h_41 | h_41 | h_41 | h_41
    · refine go_tableIn (pc' := 76) dX5_leanAt_41 (by rw [h_41]; decide) (by rw [h_41]; decide) (by rw [h_41]; rfl) (by decide) ?_
      refine go_iload (pc' := 78) dX5_leanAt_76 rfl rfl ?_
      refine go_iconst (pc' := 79) 1 dX5_leanAt_78 rfl (by decide) ?_
      refine go_iadd (pc' := 80) dX5_leanAt_79 rfl ?_
      refine go_iret dX5_leanAt_80 (pg_narI _) ?_
      rw [leanF_1 h_41] at k
      try unfold plainF at k
      rw [ew] at k
      first | (rw [if_pos h_25] at k) | (rw [if_neg h_25] at k) | skip
      exact k
    · refine go_tableIn (pc' := 88) dX5_leanAt_41 (by rw [h_41]; decide) (by rw [h_41]; decide) (by rw [h_41]; rfl) (by decide) ?_
      refine go_iload (pc' := 90) dX5_leanAt_88 rfl rfl ?_
      refine go_iconst (pc' := 91) 1 dX5_leanAt_90 rfl (by decide) ?_
      refine go_isub (pc' := 92) dX5_leanAt_91 rfl ?_
      refine go_iret dX5_leanAt_92 (pg_narI _) ?_
      rw [leanF_2 h_41] at k
      try unfold plainF at k
      rw [ew] at k
      first | (rw [if_pos h_25] at k) | (rw [if_neg h_25] at k) | skip
      exact k
    · refine go_tableIn (pc' := 81) dX5_leanAt_41 (by rw [h_41]; decide) (by rw [h_41]; decide) (by rw [h_41]; rfl) (by decide) ?_
      refine go_iload (pc' := 83) dX5_leanAt_81 rfl rfl ?_
      refine go_iconst (pc' := 84) 1 dX5_leanAt_83 rfl (by decide) ?_
      refine go_iadd (pc' := 85) dX5_leanAt_84 rfl ?_
      refine go_iconst (pc' := 86) 2 dX5_leanAt_85 rfl (by decide) ?_
      refine go_imul (pc' := 87) dX5_leanAt_86 rfl ?_
      refine go_iret dX5_leanAt_87 (pg_narI _) ?_
      rw [leanF_3 h_41] at k
      try unfold plainF at k
      rw [ew] at k
      first | (rw [if_pos h_25] at k) | (rw [if_neg h_25] at k) | skip
      exact k
    · refine go_tableIn (pc' := 93) dX5_leanAt_41 (by rw [h_41]; decide) (by rw [h_41]; decide) (by rw [h_41]; rfl) (by decide) ?_
      refine go_iload (pc' := 95) dX5_leanAt_93 rfl rfl ?_
      refine go_iconst (pc' := 96) 1 dX5_leanAt_95 rfl (by decide) ?_
      refine go_isub (pc' := 97) dX5_leanAt_96 rfl ?_
      refine go_aload_n (pc' := 98) dX5_leanAt_97 rfl rfl ?_
      refine go_getR (pc' := 101) dX5_leanAt_98 rfl flRX5_24 rfl rfl ?_
      refine go_iload_n (pc' := 102) dX5_leanAt_101 rfl rfl ?_
      refine go_iald (pc' := 103) _ dX5_leanAt_102 rfl rfl rfl (by omega) (by decide) ?_
      rw [c1_age h (by omega)]
      refine go_bipush (pc' := 105) 10 dX5_leanAt_103 rfl (by decide) ?_
      refine go_idiv (pc' := 106) dX5_leanAt_105 rfl (by decide) ?_
      refine go_iadd (pc' := 107) dX5_leanAt_106 rfl ?_
      refine go_iret dX5_leanAt_107 (pg_narI _) ?_
      rw [leanF_4 h_41] at k
      try unfold plainF at k
      rw [ew] at k
      first | (rw [if_pos h_25] at k) | (rw [if_neg h_25] at k) | skip
      exact k
    · refine go_tableIn (pc' := 108) dX5_leanAt_41 (by rw [h_41]; decide) (by rw [h_41]; decide) (by rw [h_41]; rfl) (by decide) ?_
      refine go_iload_n (pc' := 109) dX5_leanAt_108 rfl rfl ?_
      refine go_iret dX5_leanAt_109 (pg_narI _) ?_
      rw [leanF_5 h_41] at k
      try unfold plainF at k
      rw [ew] at k
      first | (rw [if_pos h_25] at k) | (rw [if_neg h_25] at k) | skip
      exact k
    · refine go_tableOut (pc' := 110) dX5_leanAt_41 h_41 (by decide) ?_
      refine go_iload (pc' := 112) dX5_leanAt_110 rfl rfl ?_
      refine go_iret dX5_leanAt_112 (pg_narI _) ?_
      rw [leanF_0 h_41] at k
      try unfold plainF at k
      rw [ew] at k
      first | (rw [if_pos h_25] at k) | (rw [if_neg h_25] at k) | skip
      exact k
  · refine go_iload_n (pc' := 29) dX5_leanAt_28 rfl rfl ?_
    refine go_goto (pc' := 33) dX5_leanAt_29 (by decide) ?_
    refine go_istore (pc' := 35) dX5_leanAt_33 rfl (by decide) rfl ?_
    refine go_aload_n (pc' := 36) dX5_leanAt_35 rfl rfl ?_
    refine go_getR (pc' := 39) dX5_leanAt_36 rfl flRX5_18 rfl rfl ?_
    refine go_iload_n (pc' := 40) dX5_leanAt_39 rfl rfl ?_
    refine go_iald (pc' := 41) _ dX5_leanAt_40 rfl rfl rfl (by omega) (by decide) ?_
    rw [c1_kind h (by omega)]
    refine go_xcase _ pg_sw1_5 (fun h_41 => ?_)
    rcases h_41 with h_41 | h_41 | h_41 | h_41 | h_41 | h_41
    · refine go_tableIn (pc' := 76) dX5_leanAt_41 (by rw [h_41]; decide) (by rw [h_41]; decide) (by rw [h_41]; rfl) (by decide) ?_
      refine go_iload (pc' := 78) dX5_leanAt_76 rfl rfl ?_
      refine go_iconst (pc' := 79) 1 dX5_leanAt_78 rfl (by decide) ?_
      refine go_iadd (pc' := 80) dX5_leanAt_79 rfl ?_
      refine go_iret dX5_leanAt_80 (pg_narI _) ?_
      rw [leanF_1 h_41] at k
      try unfold plainF at k
      rw [ew] at k
      first | (rw [if_pos h_25] at k) | (rw [if_neg h_25] at k) | skip
      exact k
    · refine go_tableIn (pc' := 88) dX5_leanAt_41 (by rw [h_41]; decide) (by rw [h_41]; decide) (by rw [h_41]; rfl) (by decide) ?_
      refine go_iload (pc' := 90) dX5_leanAt_88 rfl rfl ?_
      refine go_iconst (pc' := 91) 1 dX5_leanAt_90 rfl (by decide) ?_
      refine go_isub (pc' := 92) dX5_leanAt_91 rfl ?_
      refine go_iret dX5_leanAt_92 (pg_narI _) ?_
      rw [leanF_2 h_41] at k
      try unfold plainF at k
      rw [ew] at k
      first | (rw [if_pos h_25] at k) | (rw [if_neg h_25] at k) | skip
      exact k
    · refine go_tableIn (pc' := 81) dX5_leanAt_41 (by rw [h_41]; decide) (by rw [h_41]; decide) (by rw [h_41]; rfl) (by decide) ?_
      refine go_iload (pc' := 83) dX5_leanAt_81 rfl rfl ?_
      refine go_iconst (pc' := 84) 1 dX5_leanAt_83 rfl (by decide) ?_
      refine go_iadd (pc' := 85) dX5_leanAt_84 rfl ?_
      refine go_iconst (pc' := 86) 2 dX5_leanAt_85 rfl (by decide) ?_
      refine go_imul (pc' := 87) dX5_leanAt_86 rfl ?_
      refine go_iret dX5_leanAt_87 (pg_narI _) ?_
      rw [leanF_3 h_41] at k
      try unfold plainF at k
      rw [ew] at k
      first | (rw [if_pos h_25] at k) | (rw [if_neg h_25] at k) | skip
      exact k
    · refine go_tableIn (pc' := 93) dX5_leanAt_41 (by rw [h_41]; decide) (by rw [h_41]; decide) (by rw [h_41]; rfl) (by decide) ?_
      refine go_iload (pc' := 95) dX5_leanAt_93 rfl rfl ?_
      refine go_iconst (pc' := 96) 1 dX5_leanAt_95 rfl (by decide) ?_
      refine go_isub (pc' := 97) dX5_leanAt_96 rfl ?_
      refine go_aload_n (pc' := 98) dX5_leanAt_97 rfl rfl ?_
      refine go_getR (pc' := 101) dX5_leanAt_98 rfl flRX5_24 rfl rfl ?_
      refine go_iload_n (pc' := 102) dX5_leanAt_101 rfl rfl ?_
      refine go_iald (pc' := 103) _ dX5_leanAt_102 rfl rfl rfl (by omega) (by decide) ?_
      rw [c1_age h (by omega)]
      refine go_bipush (pc' := 105) 10 dX5_leanAt_103 rfl (by decide) ?_
      refine go_idiv (pc' := 106) dX5_leanAt_105 rfl (by decide) ?_
      refine go_iadd (pc' := 107) dX5_leanAt_106 rfl ?_
      refine go_iret dX5_leanAt_107 (pg_narI _) ?_
      rw [leanF_4 h_41] at k
      try unfold plainF at k
      rw [ew] at k
      first | (rw [if_pos h_25] at k) | (rw [if_neg h_25] at k) | skip
      exact k
    · refine go_tableIn (pc' := 108) dX5_leanAt_41 (by rw [h_41]; decide) (by rw [h_41]; decide) (by rw [h_41]; rfl) (by decide) ?_
      refine go_iload_n (pc' := 109) dX5_leanAt_108 rfl rfl ?_
      refine go_iret dX5_leanAt_109 (pg_narI _) ?_
      rw [leanF_5 h_41] at k
      try unfold plainF at k
      rw [ew] at k
      first | (rw [if_pos h_25] at k) | (rw [if_neg h_25] at k) | skip
      exact k
    · refine go_tableOut (pc' := 110) dX5_leanAt_41 h_41 (by decide) ?_
      refine go_iload (pc' := 112) dX5_leanAt_110 rfl rfl ?_
      refine go_iret dX5_leanAt_112 (pg_narI _) ?_
      rw [leanF_0 h_41] at k
      try unfold plainF at k
      rw [ew] at k
      first | (rw [if_pos h_25] at k) | (rw [if_neg h_25] at k) | skip
      exact k

set_option maxHeartbeats 4000000 in
set_option maxRecDepth 20000 in
theorem tX5_strideOf_1 {sc : pg_Sc} {g : pg_S} {K : Int32 → pg_S → Prop} {T : TW} {n p : Nat} (h : CR g 1 T n) (wf : WF T n) (hp : p < n) (k : K (strideF T p) g) : pg_Cal sc 1 mX5_strideOf [.ref 1, .int (nI p)] g (pg_ki K) := by
  refine pg_Cal.of rfl (Nat.le_of_ble_eq_true rfl) rfl ?_
  have hn := wf.1
  refine go_iconst (pc' := 1) 1 dX5_strideOf_0 rfl (by decide) ?_
  refine go_istore_n (pc' := 2) dX5_strideOf_1 rfl (by decide) rfl ?_
  refine go_aload_n (pc' := 3) dX5_strideOf_2 rfl rfl ?_
  refine go_getR (pc' := 6) dX5_strideOf_3 rfl flRX5_18 rfl rfl ?_
  refine go_iload_n (pc' := 7) dX5_strideOf_6 rfl rfl ?_
  refine go_iald (pc' := 8) _ dX5_strideOf_7 rfl rfl rfl (by omega) (by decide) ?_
  rw [c1_kind h (by omega)]
  refine go_xcase _ pg_sw1_5 (fun h_8 => ?_)
  rcases h_8 with h_8 | h_8 | h_8 | h_8 | h_8 | h_8
  · refine go_tableIn (pc' := 44) dX5_strideOf_8 (by rw [h_8]; decide) (by rw [h_8]; decide) (by rw [h_8]; rfl) (by decide) ?_
    refine go_iload_n (pc' := 45) dX5_strideOf_44 rfl rfl ?_
    refine go_iconst (pc' := 46) 1 dX5_strideOf_45 rfl (by decide) ?_
    refine go_iadd (pc' := 47) dX5_strideOf_46 rfl ?_
    refine go_iret dX5_strideOf_47 (pg_narI _) ?_
    rw [strideF_1 h_8] at k
    exact k
  · refine go_tableIn (pc' := 54) dX5_strideOf_8 (by rw [h_8]; decide) (by rw [h_8]; decide) (by rw [h_8]; rfl) (by decide) ?_
    refine go_iload_n (pc' := 55) dX5_strideOf_54 rfl rfl ?_
    refine go_aload_n (pc' := 56) dX5_strideOf_55 rfl rfl ?_
    refine go_getR (pc' := 59) dX5_strideOf_56 rfl flRX5_9 rfl rfl ?_
    refine go_iconst (pc' := 60) 1 dX5_strideOf_59 rfl (by decide) ?_
    refine go_iald (pc' := 61) 1 dX5_strideOf_60 rfl rfl rfl (by decide) (by decide) ?_
    rw [c1_law h (by first | decide | omega)]
    refine go_iadd (pc' := 62) dX5_strideOf_61 rfl ?_
    refine go_iret dX5_strideOf_62 (pg_narI _) ?_
    rw [strideF_2 h_8] at k
    exact k
  · refine go_tableIn (pc' := 48) dX5_strideOf_8 (by rw [h_8]; decide) (by rw [h_8]; decide) (by rw [h_8]; rfl) (by decide) ?_
    refine go_iload_n (pc' := 49) dX5_strideOf_48 rfl rfl ?_
    refine go_iconst (pc' := 50) 1 dX5_strideOf_49 rfl (by decide) ?_
    refine go_iadd (pc' := 51) dX5_strideOf_50 rfl ?_
    refine go_iconst (pc' := 52) 3 dX5_strideOf_51 rfl (by decide) ?_
    refine go_isub (pc' := 53) dX5_strideOf_52 rfl ?_
    refine go_iret dX5_strideOf_53 (pg_narI _) ?_
    rw [strideF_3 h_8] at k
    exact k
  · refine go_tableIn (pc' := 63) dX5_strideOf_8 (by rw [h_8]; decide) (by rw [h_8]; decide) (by rw [h_8]; rfl) (by decide) ?_
    refine go_iload_n (pc' := 64) dX5_strideOf_63 rfl rfl ?_
    refine go_aload_n (pc' := 65) dX5_strideOf_64 rfl rfl ?_
    refine go_getR (pc' := 68) dX5_strideOf_65 rfl flRX5_9 rfl rfl ?_
    refine go_iconst (pc' := 69) 1 dX5_strideOf_68 rfl (by decide) ?_
    refine go_iald (pc' := 70) 1 dX5_strideOf_69 rfl rfl rfl (by decide) (by decide) ?_
    rw [c1_law h (by first | decide | omega)]
    refine go_iadd (pc' := 71) dX5_strideOf_70 rfl ?_
    refine go_iconst (pc' := 72) 2 dX5_strideOf_71 rfl (by decide) ?_
    refine go_imul (pc' := 73) dX5_strideOf_72 rfl ?_
    refine go_iret dX5_strideOf_73 (pg_narI _) ?_
    rw [strideF_4 h_8] at k
    exact k
  · refine go_tableIn (pc' := 74) dX5_strideOf_8 (by rw [h_8]; decide) (by rw [h_8]; decide) (by rw [h_8]; rfl) (by decide) ?_
    refine go_iconst (pc' := 75) 0 dX5_strideOf_74 rfl (by decide) ?_
    refine go_iret dX5_strideOf_75 (pg_narI _) ?_
    rw [strideF_5 h_8] at k
    exact k
  · refine go_tableOut (pc' := 76) dX5_strideOf_8 h_8 (by decide) ?_
    refine go_iload_n (pc' := 77) dX5_strideOf_76 rfl rfl ?_
    refine go_iret dX5_strideOf_77 (pg_narI _) ?_
    rw [strideF_0 h_8] at k
    exact k

set_option maxHeartbeats 4000000 in
set_option maxRecDepth 20000 in
theorem tX5_leanAt_10 {sc : pg_Sc} {g : pg_S} {K : Int32 → pg_S → Prop} {T : TW} {n p : Nat} {hr : Int32} (h : CR g 10 T n) (wf : WF T n) (hp : p < n) (k : K (leanF T p hr) g) : pg_Cal sc 1 mX5_leanAt [.ref 10, .int (nI p), .int hr] g (pg_ki K) := by
  refine pg_Cal.of rfl (Nat.le_of_ble_eq_true rfl) rfl ?_
  have hn := wf.1
  obtain ⟨v, hv, ev⟩ := wf.peg hp
  have ew : (T 3 p).toNatClampNeg = v := by rw [ev, nI_clamp (by omega)]
  refine go_aload_n (pc' := 1) dX5_leanAt_0 rfl rfl ?_
  refine go_getR (pc' := 4) dX5_leanAt_1 rfl flRX5_15 rfl rfl ?_
  refine go_aload_n (pc' := 5) dX5_leanAt_4 rfl rfl ?_
  refine go_getR (pc' := 8) dX5_leanAt_5 rfl flRX5_21 rfl rfl ?_
  refine go_iload_n (pc' := 9) dX5_leanAt_8 rfl rfl ?_
  refine go_iald (pc' := 10) _ dX5_leanAt_9 rfl rfl rfl (by omega) (by decide) ?_
  rw [c10_peg h (by omega)]
  refine go_iald (pc' := 11) v dX5_leanAt_10 rfl rfl ev (by omega) (by decide) ?_
  rw [c10_weight h (by first | decide | omega)]
  refine go_bipush (pc' := 13) 10 dX5_leanAt_11 rfl (by decide) ?_
  refine go_idiv (pc' := 14) dX5_leanAt_13 rfl (by decide) ?_
  refine go_istore_n (pc' := 15) dX5_leanAt_14 rfl (by decide) rfl ?_
  refine go_iload_n (pc' := 16) dX5_leanAt_15 rfl rfl ?_
  refine go_bipush (pc' := 18) 10 dX5_leanAt_16 rfl (by decide) ?_
  refine go_irem (pc' := 19) dX5_leanAt_18 rfl (by decide) ?_
  refine go_aload_n (pc' := 20) dX5_leanAt_19 rfl rfl ?_
  refine go_getR (pc' := 23) dX5_leanAt_20 rfl flRX5_9 rfl rfl ?_
  refine go_iconst (pc' := 24) 0 dX5_leanAt_23 rfl (by decide) ?_
  refine go_iald (pc' := 25) 0 dX5_leanAt_24 rfl rfl rfl (by decide) (by decide) ?_
  rw [c10_law h (by first | decide | omega)]
  refine go_icmp_ne (pc' := 28) (tgt := 32) dX5_leanAt_25 rfl (by decide) (fun h_25 => ?_) (fun h_25 => ?_)
  · refine go_iconst (pc' := 33) 0 dX5_leanAt_32 rfl (by decide) ?_
    refine go_istore (pc' := 35) dX5_leanAt_33 rfl (by decide) rfl ?_
    refine go_aload_n (pc' := 36) dX5_leanAt_35 rfl rfl ?_
    refine go_getR (pc' := 39) dX5_leanAt_36 rfl flRX5_18 rfl rfl ?_
    refine go_iload_n (pc' := 40) dX5_leanAt_39 rfl rfl ?_
    refine go_iald (pc' := 41) _ dX5_leanAt_40 rfl rfl rfl (by omega) (by decide) ?_
    rw [c10_kind h (by omega)]
    refine go_xcase _ pg_sw1_5 (fun h_41 => ?_)
    rcases h_41 with h_41 | h_41 | h_41 | h_41 | h_41 | h_41
    · refine go_tableIn (pc' := 76) dX5_leanAt_41 (by rw [h_41]; decide) (by rw [h_41]; decide) (by rw [h_41]; rfl) (by decide) ?_
      refine go_iload (pc' := 78) dX5_leanAt_76 rfl rfl ?_
      refine go_iconst (pc' := 79) 1 dX5_leanAt_78 rfl (by decide) ?_
      refine go_iadd (pc' := 80) dX5_leanAt_79 rfl ?_
      refine go_iret dX5_leanAt_80 (pg_narI _) ?_
      rw [leanF_1 h_41] at k
      try unfold plainF at k
      rw [ew] at k
      first | (rw [if_pos h_25] at k) | (rw [if_neg h_25] at k) | skip
      exact k
    · refine go_tableIn (pc' := 88) dX5_leanAt_41 (by rw [h_41]; decide) (by rw [h_41]; decide) (by rw [h_41]; rfl) (by decide) ?_
      refine go_iload (pc' := 90) dX5_leanAt_88 rfl rfl ?_
      refine go_iconst (pc' := 91) 1 dX5_leanAt_90 rfl (by decide) ?_
      refine go_isub (pc' := 92) dX5_leanAt_91 rfl ?_
      refine go_iret dX5_leanAt_92 (pg_narI _) ?_
      rw [leanF_2 h_41] at k
      try unfold plainF at k
      rw [ew] at k
      first | (rw [if_pos h_25] at k) | (rw [if_neg h_25] at k) | skip
      exact k
    · refine go_tableIn (pc' := 81) dX5_leanAt_41 (by rw [h_41]; decide) (by rw [h_41]; decide) (by rw [h_41]; rfl) (by decide) ?_
      refine go_iload (pc' := 83) dX5_leanAt_81 rfl rfl ?_
      refine go_iconst (pc' := 84) 1 dX5_leanAt_83 rfl (by decide) ?_
      refine go_iadd (pc' := 85) dX5_leanAt_84 rfl ?_
      refine go_iconst (pc' := 86) 2 dX5_leanAt_85 rfl (by decide) ?_
      refine go_imul (pc' := 87) dX5_leanAt_86 rfl ?_
      refine go_iret dX5_leanAt_87 (pg_narI _) ?_
      rw [leanF_3 h_41] at k
      try unfold plainF at k
      rw [ew] at k
      first | (rw [if_pos h_25] at k) | (rw [if_neg h_25] at k) | skip
      exact k
    · refine go_tableIn (pc' := 93) dX5_leanAt_41 (by rw [h_41]; decide) (by rw [h_41]; decide) (by rw [h_41]; rfl) (by decide) ?_
      refine go_iload (pc' := 95) dX5_leanAt_93 rfl rfl ?_
      refine go_iconst (pc' := 96) 1 dX5_leanAt_95 rfl (by decide) ?_
      refine go_isub (pc' := 97) dX5_leanAt_96 rfl ?_
      refine go_aload_n (pc' := 98) dX5_leanAt_97 rfl rfl ?_
      refine go_getR (pc' := 101) dX5_leanAt_98 rfl flRX5_24 rfl rfl ?_
      refine go_iload_n (pc' := 102) dX5_leanAt_101 rfl rfl ?_
      refine go_iald (pc' := 103) _ dX5_leanAt_102 rfl rfl rfl (by omega) (by decide) ?_
      rw [c10_age h (by omega)]
      refine go_bipush (pc' := 105) 10 dX5_leanAt_103 rfl (by decide) ?_
      refine go_idiv (pc' := 106) dX5_leanAt_105 rfl (by decide) ?_
      refine go_iadd (pc' := 107) dX5_leanAt_106 rfl ?_
      refine go_iret dX5_leanAt_107 (pg_narI _) ?_
      rw [leanF_4 h_41] at k
      try unfold plainF at k
      rw [ew] at k
      first | (rw [if_pos h_25] at k) | (rw [if_neg h_25] at k) | skip
      exact k
    · refine go_tableIn (pc' := 108) dX5_leanAt_41 (by rw [h_41]; decide) (by rw [h_41]; decide) (by rw [h_41]; rfl) (by decide) ?_
      refine go_iload_n (pc' := 109) dX5_leanAt_108 rfl rfl ?_
      refine go_iret dX5_leanAt_109 (pg_narI _) ?_
      rw [leanF_5 h_41] at k
      try unfold plainF at k
      rw [ew] at k
      first | (rw [if_pos h_25] at k) | (rw [if_neg h_25] at k) | skip
      exact k
    · refine go_tableOut (pc' := 110) dX5_leanAt_41 h_41 (by decide) ?_
      refine go_iload (pc' := 112) dX5_leanAt_110 rfl rfl ?_
      refine go_iret dX5_leanAt_112 (pg_narI _) ?_
      rw [leanF_0 h_41] at k
      try unfold plainF at k
      rw [ew] at k
      first | (rw [if_pos h_25] at k) | (rw [if_neg h_25] at k) | skip
      exact k
  · refine go_iload_n (pc' := 29) dX5_leanAt_28 rfl rfl ?_
    refine go_goto (pc' := 33) dX5_leanAt_29 (by decide) ?_
    refine go_istore (pc' := 35) dX5_leanAt_33 rfl (by decide) rfl ?_
    refine go_aload_n (pc' := 36) dX5_leanAt_35 rfl rfl ?_
    refine go_getR (pc' := 39) dX5_leanAt_36 rfl flRX5_18 rfl rfl ?_
    refine go_iload_n (pc' := 40) dX5_leanAt_39 rfl rfl ?_
    refine go_iald (pc' := 41) _ dX5_leanAt_40 rfl rfl rfl (by omega) (by decide) ?_
    rw [c10_kind h (by omega)]
    refine go_xcase _ pg_sw1_5 (fun h_41 => ?_)
    rcases h_41 with h_41 | h_41 | h_41 | h_41 | h_41 | h_41
    · refine go_tableIn (pc' := 76) dX5_leanAt_41 (by rw [h_41]; decide) (by rw [h_41]; decide) (by rw [h_41]; rfl) (by decide) ?_
      refine go_iload (pc' := 78) dX5_leanAt_76 rfl rfl ?_
      refine go_iconst (pc' := 79) 1 dX5_leanAt_78 rfl (by decide) ?_
      refine go_iadd (pc' := 80) dX5_leanAt_79 rfl ?_
      refine go_iret dX5_leanAt_80 (pg_narI _) ?_
      rw [leanF_1 h_41] at k
      try unfold plainF at k
      rw [ew] at k
      first | (rw [if_pos h_25] at k) | (rw [if_neg h_25] at k) | skip
      exact k
    · refine go_tableIn (pc' := 88) dX5_leanAt_41 (by rw [h_41]; decide) (by rw [h_41]; decide) (by rw [h_41]; rfl) (by decide) ?_
      refine go_iload (pc' := 90) dX5_leanAt_88 rfl rfl ?_
      refine go_iconst (pc' := 91) 1 dX5_leanAt_90 rfl (by decide) ?_
      refine go_isub (pc' := 92) dX5_leanAt_91 rfl ?_
      refine go_iret dX5_leanAt_92 (pg_narI _) ?_
      rw [leanF_2 h_41] at k
      try unfold plainF at k
      rw [ew] at k
      first | (rw [if_pos h_25] at k) | (rw [if_neg h_25] at k) | skip
      exact k
    · refine go_tableIn (pc' := 81) dX5_leanAt_41 (by rw [h_41]; decide) (by rw [h_41]; decide) (by rw [h_41]; rfl) (by decide) ?_
      refine go_iload (pc' := 83) dX5_leanAt_81 rfl rfl ?_
      refine go_iconst (pc' := 84) 1 dX5_leanAt_83 rfl (by decide) ?_
      refine go_iadd (pc' := 85) dX5_leanAt_84 rfl ?_
      refine go_iconst (pc' := 86) 2 dX5_leanAt_85 rfl (by decide) ?_
      refine go_imul (pc' := 87) dX5_leanAt_86 rfl ?_
      refine go_iret dX5_leanAt_87 (pg_narI _) ?_
      rw [leanF_3 h_41] at k
      try unfold plainF at k
      rw [ew] at k
      first | (rw [if_pos h_25] at k) | (rw [if_neg h_25] at k) | skip
      exact k
    · refine go_tableIn (pc' := 93) dX5_leanAt_41 (by rw [h_41]; decide) (by rw [h_41]; decide) (by rw [h_41]; rfl) (by decide) ?_
      refine go_iload (pc' := 95) dX5_leanAt_93 rfl rfl ?_
      refine go_iconst (pc' := 96) 1 dX5_leanAt_95 rfl (by decide) ?_
      refine go_isub (pc' := 97) dX5_leanAt_96 rfl ?_
      refine go_aload_n (pc' := 98) dX5_leanAt_97 rfl rfl ?_
      refine go_getR (pc' := 101) dX5_leanAt_98 rfl flRX5_24 rfl rfl ?_
      refine go_iload_n (pc' := 102) dX5_leanAt_101 rfl rfl ?_
      refine go_iald (pc' := 103) _ dX5_leanAt_102 rfl rfl rfl (by omega) (by decide) ?_
      rw [c10_age h (by omega)]
      refine go_bipush (pc' := 105) 10 dX5_leanAt_103 rfl (by decide) ?_
      refine go_idiv (pc' := 106) dX5_leanAt_105 rfl (by decide) ?_
      refine go_iadd (pc' := 107) dX5_leanAt_106 rfl ?_
      refine go_iret dX5_leanAt_107 (pg_narI _) ?_
      rw [leanF_4 h_41] at k
      try unfold plainF at k
      rw [ew] at k
      first | (rw [if_pos h_25] at k) | (rw [if_neg h_25] at k) | skip
      exact k
    · refine go_tableIn (pc' := 108) dX5_leanAt_41 (by rw [h_41]; decide) (by rw [h_41]; decide) (by rw [h_41]; rfl) (by decide) ?_
      refine go_iload_n (pc' := 109) dX5_leanAt_108 rfl rfl ?_
      refine go_iret dX5_leanAt_109 (pg_narI _) ?_
      rw [leanF_5 h_41] at k
      try unfold plainF at k
      rw [ew] at k
      first | (rw [if_pos h_25] at k) | (rw [if_neg h_25] at k) | skip
      exact k
    · refine go_tableOut (pc' := 110) dX5_leanAt_41 h_41 (by decide) ?_
      refine go_iload (pc' := 112) dX5_leanAt_110 rfl rfl ?_
      refine go_iret dX5_leanAt_112 (pg_narI _) ?_
      rw [leanF_0 h_41] at k
      try unfold plainF at k
      rw [ew] at k
      first | (rw [if_pos h_25] at k) | (rw [if_neg h_25] at k) | skip
      exact k

set_option maxHeartbeats 4000000 in
set_option maxRecDepth 20000 in
theorem tX5_strideOf_10 {sc : pg_Sc} {g : pg_S} {K : Int32 → pg_S → Prop} {T : TW} {n p : Nat} (h : CR g 10 T n) (wf : WF T n) (hp : p < n) (k : K (strideF T p) g) : pg_Cal sc 1 mX5_strideOf [.ref 10, .int (nI p)] g (pg_ki K) := by
  refine pg_Cal.of rfl (Nat.le_of_ble_eq_true rfl) rfl ?_
  have hn := wf.1
  refine go_iconst (pc' := 1) 1 dX5_strideOf_0 rfl (by decide) ?_
  refine go_istore_n (pc' := 2) dX5_strideOf_1 rfl (by decide) rfl ?_
  refine go_aload_n (pc' := 3) dX5_strideOf_2 rfl rfl ?_
  refine go_getR (pc' := 6) dX5_strideOf_3 rfl flRX5_18 rfl rfl ?_
  refine go_iload_n (pc' := 7) dX5_strideOf_6 rfl rfl ?_
  refine go_iald (pc' := 8) _ dX5_strideOf_7 rfl rfl rfl (by omega) (by decide) ?_
  rw [c10_kind h (by omega)]
  refine go_xcase _ pg_sw1_5 (fun h_8 => ?_)
  rcases h_8 with h_8 | h_8 | h_8 | h_8 | h_8 | h_8
  · refine go_tableIn (pc' := 44) dX5_strideOf_8 (by rw [h_8]; decide) (by rw [h_8]; decide) (by rw [h_8]; rfl) (by decide) ?_
    refine go_iload_n (pc' := 45) dX5_strideOf_44 rfl rfl ?_
    refine go_iconst (pc' := 46) 1 dX5_strideOf_45 rfl (by decide) ?_
    refine go_iadd (pc' := 47) dX5_strideOf_46 rfl ?_
    refine go_iret dX5_strideOf_47 (pg_narI _) ?_
    rw [strideF_1 h_8] at k
    exact k
  · refine go_tableIn (pc' := 54) dX5_strideOf_8 (by rw [h_8]; decide) (by rw [h_8]; decide) (by rw [h_8]; rfl) (by decide) ?_
    refine go_iload_n (pc' := 55) dX5_strideOf_54 rfl rfl ?_
    refine go_aload_n (pc' := 56) dX5_strideOf_55 rfl rfl ?_
    refine go_getR (pc' := 59) dX5_strideOf_56 rfl flRX5_9 rfl rfl ?_
    refine go_iconst (pc' := 60) 1 dX5_strideOf_59 rfl (by decide) ?_
    refine go_iald (pc' := 61) 1 dX5_strideOf_60 rfl rfl rfl (by decide) (by decide) ?_
    rw [c10_law h (by first | decide | omega)]
    refine go_iadd (pc' := 62) dX5_strideOf_61 rfl ?_
    refine go_iret dX5_strideOf_62 (pg_narI _) ?_
    rw [strideF_2 h_8] at k
    exact k
  · refine go_tableIn (pc' := 48) dX5_strideOf_8 (by rw [h_8]; decide) (by rw [h_8]; decide) (by rw [h_8]; rfl) (by decide) ?_
    refine go_iload_n (pc' := 49) dX5_strideOf_48 rfl rfl ?_
    refine go_iconst (pc' := 50) 1 dX5_strideOf_49 rfl (by decide) ?_
    refine go_iadd (pc' := 51) dX5_strideOf_50 rfl ?_
    refine go_iconst (pc' := 52) 3 dX5_strideOf_51 rfl (by decide) ?_
    refine go_isub (pc' := 53) dX5_strideOf_52 rfl ?_
    refine go_iret dX5_strideOf_53 (pg_narI _) ?_
    rw [strideF_3 h_8] at k
    exact k
  · refine go_tableIn (pc' := 63) dX5_strideOf_8 (by rw [h_8]; decide) (by rw [h_8]; decide) (by rw [h_8]; rfl) (by decide) ?_
    refine go_iload_n (pc' := 64) dX5_strideOf_63 rfl rfl ?_
    refine go_aload_n (pc' := 65) dX5_strideOf_64 rfl rfl ?_
    refine go_getR (pc' := 68) dX5_strideOf_65 rfl flRX5_9 rfl rfl ?_
    refine go_iconst (pc' := 69) 1 dX5_strideOf_68 rfl (by decide) ?_
    refine go_iald (pc' := 70) 1 dX5_strideOf_69 rfl rfl rfl (by decide) (by decide) ?_
    rw [c10_law h (by first | decide | omega)]
    refine go_iadd (pc' := 71) dX5_strideOf_70 rfl ?_
    refine go_iconst (pc' := 72) 2 dX5_strideOf_71 rfl (by decide) ?_
    refine go_imul (pc' := 73) dX5_strideOf_72 rfl ?_
    refine go_iret dX5_strideOf_73 (pg_narI _) ?_
    rw [strideF_4 h_8] at k
    exact k
  · refine go_tableIn (pc' := 74) dX5_strideOf_8 (by rw [h_8]; decide) (by rw [h_8]; decide) (by rw [h_8]; rfl) (by decide) ?_
    refine go_iconst (pc' := 75) 0 dX5_strideOf_74 rfl (by decide) ?_
    refine go_iret dX5_strideOf_75 (pg_narI _) ?_
    rw [strideF_5 h_8] at k
    exact k
  · refine go_tableOut (pc' := 76) dX5_strideOf_8 h_8 (by decide) ?_
    refine go_iload_n (pc' := 77) dX5_strideOf_76 rfl rfl ?_
    refine go_iret dX5_strideOf_77 (pg_narI _) ?_
    rw [strideF_0 h_8] at k
    exact k

