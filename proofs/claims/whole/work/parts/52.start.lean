theorem fe0_0 : Cond.eq (.elem (.static "PicturePegs" "LAW_AT_FIRST" "[I") (.int (Int32.ofNat 0))) (.int (pg_t0.getD 0 0)) ∈ flatC (Cond.and given_1 narrow_1) := (List.mem_append_right _ (List.mem_append_left _ (List.mem_append_left _ (List.mem_append_left _ (List.mem_append_left _ (List.mem_append_left _ (List.mem_append_right _ (List.mem_append_right _ (List.mem_append_right _ (List.mem_singleton.mpr rfl))))))))))
theorem fe0_1 : Cond.eq (.elem (.static "PicturePegs" "LAW_AT_FIRST" "[I") (.int (Int32.ofNat 1))) (.int (pg_t0.getD 1 0)) ∈ flatC (Cond.and given_1 narrow_1) := (List.mem_append_right _ (List.mem_append_left _ (List.mem_append_left _ (List.mem_append_left _ (List.mem_append_left _ (List.mem_append_right _ (List.mem_append_left _ (List.mem_append_left _ (List.mem_singleton.mpr rfl)))))))))
theorem fe0_2 : Cond.eq (.elem (.static "PicturePegs" "LAW_AT_FIRST" "[I") (.int (Int32.ofNat 2))) (.int (pg_t0.getD 2 0)) ∈ flatC (Cond.and given_1 narrow_1) := (List.mem_append_right _ (List.mem_append_left _ (List.mem_append_left _ (List.mem_append_left _ (List.mem_append_left _ (List.mem_append_right _ (List.mem_append_left _ (List.mem_append_right _ (List.mem_append_left _ (List.mem_singleton.mpr rfl))))))))))
theorem fe0_3 : Cond.eq (.elem (.static "PicturePegs" "LAW_AT_FIRST" "[I") (.int (Int32.ofNat 3))) (.int (pg_t0.getD 3 0)) ∈ flatC (Cond.and given_1 narrow_1) := (List.mem_append_right _ (List.mem_append_left _ (List.mem_append_left _ (List.mem_append_left _ (List.mem_append_left _ (List.mem_append_right _ (List.mem_append_left _ (List.mem_append_right _ (List.mem_append_right _ (List.mem_singleton.mpr rfl))))))))))
theorem fe0 : ∀ j, j < 4 → Cond.eq (.elem (.static "PicturePegs" "LAW_AT_FIRST" "[I") (.int (Int32.ofNat j))) (.int (pg_t0.getD j 0)) ∈ flatC (Cond.and given_1 narrow_1) := by
  intro j hj
  match j, hj with
  | 0, _ => exact fe0_0
  | 1, _ => exact fe0_1
  | 2, _ => exact fe0_2
  | 3, _ => exact fe0_3
  | j + 4, h => omega
theorem fa0 : Cond.arrayOf (.static "PicturePegs" "LAW_AT_FIRST" "[I") .int ∈ flatC (Cond.and given_1 narrow_1) := (List.mem_append_right _ (List.mem_append_left _ (List.mem_append_left _ (List.mem_append_left _ (List.mem_append_left _ (List.mem_append_left _ (List.mem_append_right _ (List.mem_append_left _ (List.mem_singleton.mpr rfl)))))))))
theorem fn0 : Cond.eq (.length (.static "PicturePegs" "LAW_AT_FIRST" "[I")) (.int (Int32.ofNat 4)) ∈ flatC (Cond.and given_1 narrow_1) := (List.mem_append_right _ (List.mem_append_left _ (List.mem_append_left _ (List.mem_append_left _ (List.mem_append_left _ (List.mem_append_left _ (List.mem_append_right _ (List.mem_append_right _ (List.mem_append_left _ (List.mem_singleton.mpr rfl))))))))))
theorem fe1_0 : Cond.eq (.elem (.static "PicturePegs" "LAW_MOST" "[I") (.int (Int32.ofNat 0))) (.int (pg_t1.getD 0 0)) ∈ flatC (Cond.and given_1 narrow_1) := (List.mem_append_right _ (List.mem_append_left _ (List.mem_append_left _ (List.mem_append_left _ (List.mem_append_right _ (List.mem_append_left _ (List.mem_append_right _ (List.mem_append_left _ (List.mem_append_right _ (List.mem_singleton.mpr rfl))))))))))
theorem fe1_1 : Cond.eq (.elem (.static "PicturePegs" "LAW_MOST" "[I") (.int (Int32.ofNat 1))) (.int (pg_t1.getD 1 0)) ∈ flatC (Cond.and given_1 narrow_1) := (List.mem_append_right _ (List.mem_append_left _ (List.mem_append_left _ (List.mem_append_left _ (List.mem_append_right _ (List.mem_append_left _ (List.mem_append_right _ (List.mem_append_right _ (List.mem_append_left _ (List.mem_singleton.mpr rfl))))))))))
theorem fe1_2 : Cond.eq (.elem (.static "PicturePegs" "LAW_MOST" "[I") (.int (Int32.ofNat 2))) (.int (pg_t1.getD 2 0)) ∈ flatC (Cond.and given_1 narrow_1) := (List.mem_append_right _ (List.mem_append_left _ (List.mem_append_left _ (List.mem_append_left _ (List.mem_append_right _ (List.mem_append_left _ (List.mem_append_right _ (List.mem_append_right _ (List.mem_append_right _ (List.mem_singleton.mpr rfl))))))))))
theorem fe1_3 : Cond.eq (.elem (.static "PicturePegs" "LAW_MOST" "[I") (.int (Int32.ofNat 3))) (.int (pg_t1.getD 3 0)) ∈ flatC (Cond.and given_1 narrow_1) := (List.mem_append_right _ (List.mem_append_left _ (List.mem_append_left _ (List.mem_append_left _ (List.mem_append_right _ (List.mem_append_right _ (List.mem_append_left _ (List.mem_append_left _ (List.mem_singleton.mpr rfl)))))))))
theorem fe1 : ∀ j, j < 4 → Cond.eq (.elem (.static "PicturePegs" "LAW_MOST" "[I") (.int (Int32.ofNat j))) (.int (pg_t1.getD j 0)) ∈ flatC (Cond.and given_1 narrow_1) := by
  intro j hj
  match j, hj with
  | 0, _ => exact fe1_0
  | 1, _ => exact fe1_1
  | 2, _ => exact fe1_2
  | 3, _ => exact fe1_3
  | j + 4, h => omega
theorem fa1 : Cond.arrayOf (.static "PicturePegs" "LAW_MOST" "[I") .int ∈ flatC (Cond.and given_1 narrow_1) := (List.mem_append_right _ (List.mem_append_left _ (List.mem_append_left _ (List.mem_append_left _ (List.mem_append_right _ (List.mem_append_left _ (List.mem_append_left _ (List.mem_append_right _ (List.mem_append_right _ (List.mem_singleton.mpr rfl))))))))))
theorem fn1 : Cond.eq (.length (.static "PicturePegs" "LAW_MOST" "[I")) (.int (Int32.ofNat 4)) ∈ flatC (Cond.and given_1 narrow_1) := (List.mem_append_right _ (List.mem_append_left _ (List.mem_append_left _ (List.mem_append_left _ (List.mem_append_right _ (List.mem_append_left _ (List.mem_append_right _ (List.mem_append_left _ (List.mem_append_left _ (List.mem_singleton.mpr rfl))))))))))
theorem fe2_0 : Cond.eq (.elem (.static "PicturePegs" "KIND_ABOVE" "[I") (.int (Int32.ofNat 0))) (.int (pg_t2.getD 0 0)) ∈ flatC (Cond.and given_1 narrow_1) := (List.mem_append_right _ (List.mem_append_left _ (List.mem_append_left _ (List.mem_append_left _ (List.mem_append_right _ (List.mem_append_right _ (List.mem_append_right _ (List.mem_append_left _ (List.mem_append_right _ (List.mem_singleton.mpr rfl))))))))))
theorem fe2_1 : Cond.eq (.elem (.static "PicturePegs" "KIND_ABOVE" "[I") (.int (Int32.ofNat 1))) (.int (pg_t2.getD 1 0)) ∈ flatC (Cond.and given_1 narrow_1) := (List.mem_append_right _ (List.mem_append_left _ (List.mem_append_left _ (List.mem_append_left _ (List.mem_append_right _ (List.mem_append_right _ (List.mem_append_right _ (List.mem_append_right _ (List.mem_append_left _ (List.mem_singleton.mpr rfl))))))))))
theorem fe2_2 : Cond.eq (.elem (.static "PicturePegs" "KIND_ABOVE" "[I") (.int (Int32.ofNat 2))) (.int (pg_t2.getD 2 0)) ∈ flatC (Cond.and given_1 narrow_1) := (List.mem_append_right _ (List.mem_append_left _ (List.mem_append_left _ (List.mem_append_left _ (List.mem_append_right _ (List.mem_append_right _ (List.mem_append_right _ (List.mem_append_right _ (List.mem_append_right _ (List.mem_singleton.mpr rfl))))))))))
theorem fe2_3 : Cond.eq (.elem (.static "PicturePegs" "KIND_ABOVE" "[I") (.int (Int32.ofNat 3))) (.int (pg_t2.getD 3 0)) ∈ flatC (Cond.and given_1 narrow_1) := (List.mem_append_right _ (List.mem_append_left _ (List.mem_append_left _ (List.mem_append_right _ (List.mem_append_left _ (List.mem_append_left _ (List.mem_append_left _ (List.mem_append_left _ (List.mem_singleton.mpr rfl)))))))))
theorem fe2_4 : Cond.eq (.elem (.static "PicturePegs" "KIND_ABOVE" "[I") (.int (Int32.ofNat 4))) (.int (pg_t2.getD 4 0)) ∈ flatC (Cond.and given_1 narrow_1) := (List.mem_append_right _ (List.mem_append_left _ (List.mem_append_left _ (List.mem_append_right _ (List.mem_append_left _ (List.mem_append_left _ (List.mem_append_left _ (List.mem_append_right _ (List.mem_append_left _ (List.mem_singleton.mpr rfl))))))))))
theorem fe2_5 : Cond.eq (.elem (.static "PicturePegs" "KIND_ABOVE" "[I") (.int (Int32.ofNat 5))) (.int (pg_t2.getD 5 0)) ∈ flatC (Cond.and given_1 narrow_1) := (List.mem_append_right _ (List.mem_append_left _ (List.mem_append_left _ (List.mem_append_right _ (List.mem_append_left _ (List.mem_append_left _ (List.mem_append_left _ (List.mem_append_right _ (List.mem_append_right _ (List.mem_singleton.mpr rfl))))))))))
theorem fe2 : ∀ j, j < 6 → Cond.eq (.elem (.static "PicturePegs" "KIND_ABOVE" "[I") (.int (Int32.ofNat j))) (.int (pg_t2.getD j 0)) ∈ flatC (Cond.and given_1 narrow_1) := by
  intro j hj
  match j, hj with
  | 0, _ => exact fe2_0
  | 1, _ => exact fe2_1
  | 2, _ => exact fe2_2
  | 3, _ => exact fe2_3
  | 4, _ => exact fe2_4
  | 5, _ => exact fe2_5
  | j + 6, h => omega
theorem fa2 : Cond.arrayOf (.static "PicturePegs" "KIND_ABOVE" "[I") .int ∈ flatC (Cond.and given_1 narrow_1) := (List.mem_append_right _ (List.mem_append_left _ (List.mem_append_left _ (List.mem_append_left _ (List.mem_append_right _ (List.mem_append_right _ (List.mem_append_left _ (List.mem_append_right _ (List.mem_append_right _ (List.mem_singleton.mpr rfl))))))))))
theorem fn2 : Cond.eq (.length (.static "PicturePegs" "KIND_ABOVE" "[I")) (.int (Int32.ofNat 6)) ∈ flatC (Cond.and given_1 narrow_1) := (List.mem_append_right _ (List.mem_append_left _ (List.mem_append_left _ (List.mem_append_left _ (List.mem_append_right _ (List.mem_append_right _ (List.mem_append_right _ (List.mem_append_left _ (List.mem_append_left _ (List.mem_singleton.mpr rfl))))))))))
theorem fe3_0 : Cond.eq (.elem (.static "PicturePegs$Acts" "BODY_OF" "[I") (.int (Int32.ofNat 0))) (.int (pg_t3.getD 0 0)) ∈ flatC (Cond.and given_1 narrow_1) := (List.mem_append_right _ (List.mem_append_left _ (List.mem_append_left _ (List.mem_append_right _ (List.mem_append_left _ (List.mem_append_left _ (List.mem_append_right _ (List.mem_append_right _ (List.mem_append_right _ (List.mem_singleton.mpr rfl))))))))))
theorem fe3_1 : Cond.eq (.elem (.static "PicturePegs$Acts" "BODY_OF" "[I") (.int (Int32.ofNat 1))) (.int (pg_t3.getD 1 0)) ∈ flatC (Cond.and given_1 narrow_1) := (List.mem_append_right _ (List.mem_append_left _ (List.mem_append_left _ (List.mem_append_right _ (List.mem_append_left _ (List.mem_append_right _ (List.mem_append_left _ (List.mem_append_left _ (List.mem_singleton.mpr rfl)))))))))
theorem fe3_2 : Cond.eq (.elem (.static "PicturePegs$Acts" "BODY_OF" "[I") (.int (Int32.ofNat 2))) (.int (pg_t3.getD 2 0)) ∈ flatC (Cond.and given_1 narrow_1) := (List.mem_append_right _ (List.mem_append_left _ (List.mem_append_left _ (List.mem_append_right _ (List.mem_append_left _ (List.mem_append_right _ (List.mem_append_left _ (List.mem_append_right _ (List.mem_append_left _ (List.mem_singleton.mpr rfl))))))))))
theorem fe3_3 : Cond.eq (.elem (.static "PicturePegs$Acts" "BODY_OF" "[I") (.int (Int32.ofNat 3))) (.int (pg_t3.getD 3 0)) ∈ flatC (Cond.and given_1 narrow_1) := (List.mem_append_right _ (List.mem_append_left _ (List.mem_append_left _ (List.mem_append_right _ (List.mem_append_left _ (List.mem_append_right _ (List.mem_append_left _ (List.mem_append_right _ (List.mem_append_right _ (List.mem_singleton.mpr rfl))))))))))
theorem fe3_4 : Cond.eq (.elem (.static "PicturePegs$Acts" "BODY_OF" "[I") (.int (Int32.ofNat 4))) (.int (pg_t3.getD 4 0)) ∈ flatC (Cond.and given_1 narrow_1) := (List.mem_append_right _ (List.mem_append_left _ (List.mem_append_left _ (List.mem_append_right _ (List.mem_append_left _ (List.mem_append_right _ (List.mem_append_right _ (List.mem_append_left _ (List.mem_append_left _ (List.mem_singleton.mpr rfl))))))))))
theorem fe3_5 : Cond.eq (.elem (.static "PicturePegs$Acts" "BODY_OF" "[I") (.int (Int32.ofNat 5))) (.int (pg_t3.getD 5 0)) ∈ flatC (Cond.and given_1 narrow_1) := (List.mem_append_right _ (List.mem_append_left _ (List.mem_append_left _ (List.mem_append_right _ (List.mem_append_left _ (List.mem_append_right _ (List.mem_append_right _ (List.mem_append_left _ (List.mem_append_right _ (List.mem_singleton.mpr rfl))))))))))
theorem fe3_6 : Cond.eq (.elem (.static "PicturePegs$Acts" "BODY_OF" "[I") (.int (Int32.ofNat 6))) (.int (pg_t3.getD 6 0)) ∈ flatC (Cond.and given_1 narrow_1) := (List.mem_append_right _ (List.mem_append_left _ (List.mem_append_left _ (List.mem_append_right _ (List.mem_append_left _ (List.mem_append_right _ (List.mem_append_right _ (List.mem_append_right _ (List.mem_append_left _ (List.mem_singleton.mpr rfl))))))))))
theorem fe3_7 : Cond.eq (.elem (.static "PicturePegs$Acts" "BODY_OF" "[I") (.int (Int32.ofNat 7))) (.int (pg_t3.getD 7 0)) ∈ flatC (Cond.and given_1 narrow_1) := (List.mem_append_right _ (List.mem_append_left _ (List.mem_append_left _ (List.mem_append_right _ (List.mem_append_left _ (List.mem_append_right _ (List.mem_append_right _ (List.mem_append_right _ (List.mem_append_right _ (List.mem_singleton.mpr rfl))))))))))
theorem fe3_8 : Cond.eq (.elem (.static "PicturePegs$Acts" "BODY_OF" "[I") (.int (Int32.ofNat 8))) (.int (pg_t3.getD 8 0)) ∈ flatC (Cond.and given_1 narrow_1) := (List.mem_append_right _ (List.mem_append_left _ (List.mem_append_left _ (List.mem_append_right _ (List.mem_append_right _ (List.mem_append_left _ (List.mem_append_left _ (List.mem_append_left _ (List.mem_singleton.mpr rfl)))))))))
theorem fe3_9 : Cond.eq (.elem (.static "PicturePegs$Acts" "BODY_OF" "[I") (.int (Int32.ofNat 9))) (.int (pg_t3.getD 9 0)) ∈ flatC (Cond.and given_1 narrow_1) := (List.mem_append_right _ (List.mem_append_left _ (List.mem_append_left _ (List.mem_append_right _ (List.mem_append_right _ (List.mem_append_left _ (List.mem_append_left _ (List.mem_append_right _ (List.mem_append_left _ (List.mem_singleton.mpr rfl))))))))))
theorem fe3_10 : Cond.eq (.elem (.static "PicturePegs$Acts" "BODY_OF" "[I") (.int (Int32.ofNat 10))) (.int (pg_t3.getD 10 0)) ∈ flatC (Cond.and given_1 narrow_1) := (List.mem_append_right _ (List.mem_append_left _ (List.mem_append_left _ (List.mem_append_right _ (List.mem_append_right _ (List.mem_append_left _ (List.mem_append_left _ (List.mem_append_right _ (List.mem_append_right _ (List.mem_singleton.mpr rfl))))))))))
theorem fe3_11 : Cond.eq (.elem (.static "PicturePegs$Acts" "BODY_OF" "[I") (.int (Int32.ofNat 11))) (.int (pg_t3.getD 11 0)) ∈ flatC (Cond.and given_1 narrow_1) := (List.mem_append_right _ (List.mem_append_left _ (List.mem_append_left _ (List.mem_append_right _ (List.mem_append_right _ (List.mem_append_left _ (List.mem_append_right _ (List.mem_append_left _ (List.mem_append_left _ (List.mem_singleton.mpr rfl))))))))))
theorem fe3_12 : Cond.eq (.elem (.static "PicturePegs$Acts" "BODY_OF" "[I") (.int (Int32.ofNat 12))) (.int (pg_t3.getD 12 0)) ∈ flatC (Cond.and given_1 narrow_1) := (List.mem_append_right _ (List.mem_append_left _ (List.mem_append_left _ (List.mem_append_right _ (List.mem_append_right _ (List.mem_append_left _ (List.mem_append_right _ (List.mem_append_left _ (List.mem_append_right _ (List.mem_singleton.mpr rfl))))))))))
theorem fe3_13 : Cond.eq (.elem (.static "PicturePegs$Acts" "BODY_OF" "[I") (.int (Int32.ofNat 13))) (.int (pg_t3.getD 13 0)) ∈ flatC (Cond.and given_1 narrow_1) := (List.mem_append_right _ (List.mem_append_left _ (List.mem_append_left _ (List.mem_append_right _ (List.mem_append_right _ (List.mem_append_left _ (List.mem_append_right _ (List.mem_append_right _ (List.mem_append_left _ (List.mem_singleton.mpr rfl))))))))))
theorem fe3_14 : Cond.eq (.elem (.static "PicturePegs$Acts" "BODY_OF" "[I") (.int (Int32.ofNat 14))) (.int (pg_t3.getD 14 0)) ∈ flatC (Cond.and given_1 narrow_1) := (List.mem_append_right _ (List.mem_append_left _ (List.mem_append_left _ (List.mem_append_right _ (List.mem_append_right _ (List.mem_append_left _ (List.mem_append_right _ (List.mem_append_right _ (List.mem_append_right _ (List.mem_singleton.mpr rfl))))))))))
theorem fe3_15 : Cond.eq (.elem (.static "PicturePegs$Acts" "BODY_OF" "[I") (.int (Int32.ofNat 15))) (.int (pg_t3.getD 15 0)) ∈ flatC (Cond.and given_1 narrow_1) := (List.mem_append_right _ (List.mem_append_left _ (List.mem_append_left _ (List.mem_append_right _ (List.mem_append_right _ (List.mem_append_right _ (List.mem_append_left _ (List.mem_append_left _ (List.mem_singleton.mpr rfl)))))))))
theorem fe3_16 : Cond.eq (.elem (.static "PicturePegs$Acts" "BODY_OF" "[I") (.int (Int32.ofNat 16))) (.int (pg_t3.getD 16 0)) ∈ flatC (Cond.and given_1 narrow_1) := (List.mem_append_right _ (List.mem_append_left _ (List.mem_append_left _ (List.mem_append_right _ (List.mem_append_right _ (List.mem_append_right _ (List.mem_append_left _ (List.mem_append_right _ (List.mem_append_left _ (List.mem_singleton.mpr rfl))))))))))
theorem fe3_17 : Cond.eq (.elem (.static "PicturePegs$Acts" "BODY_OF" "[I") (.int (Int32.ofNat 17))) (.int (pg_t3.getD 17 0)) ∈ flatC (Cond.and given_1 narrow_1) := (List.mem_append_right _ (List.mem_append_left _ (List.mem_append_left _ (List.mem_append_right _ (List.mem_append_right _ (List.mem_append_right _ (List.mem_append_left _ (List.mem_append_right _ (List.mem_append_right _ (List.mem_singleton.mpr rfl))))))))))
theorem fe3_18 : Cond.eq (.elem (.static "PicturePegs$Acts" "BODY_OF" "[I") (.int (Int32.ofNat 18))) (.int (pg_t3.getD 18 0)) ∈ flatC (Cond.and given_1 narrow_1) := (List.mem_append_right _ (List.mem_append_left _ (List.mem_append_left _ (List.mem_append_right _ (List.mem_append_right _ (List.mem_append_right _ (List.mem_append_right _ (List.mem_append_left _ (List.mem_append_left _ (List.mem_singleton.mpr rfl))))))))))
theorem fe3_19 : Cond.eq (.elem (.static "PicturePegs$Acts" "BODY_OF" "[I") (.int (Int32.ofNat 19))) (.int (pg_t3.getD 19 0)) ∈ flatC (Cond.and given_1 narrow_1) := (List.mem_append_right _ (List.mem_append_left _ (List.mem_append_left _ (List.mem_append_right _ (List.mem_append_right _ (List.mem_append_right _ (List.mem_append_right _ (List.mem_append_left _ (List.mem_append_right _ (List.mem_singleton.mpr rfl))))))))))
theorem fe3_20 : Cond.eq (.elem (.static "PicturePegs$Acts" "BODY_OF" "[I") (.int (Int32.ofNat 20))) (.int (pg_t3.getD 20 0)) ∈ flatC (Cond.and given_1 narrow_1) := (List.mem_append_right _ (List.mem_append_left _ (List.mem_append_left _ (List.mem_append_right _ (List.mem_append_right _ (List.mem_append_right _ (List.mem_append_right _ (List.mem_append_right _ (List.mem_append_left _ (List.mem_singleton.mpr rfl))))))))))
theorem fe3_21 : Cond.eq (.elem (.static "PicturePegs$Acts" "BODY_OF" "[I") (.int (Int32.ofNat 21))) (.int (pg_t3.getD 21 0)) ∈ flatC (Cond.and given_1 narrow_1) := (List.mem_append_right _ (List.mem_append_left _ (List.mem_append_left _ (List.mem_append_right _ (List.mem_append_right _ (List.mem_append_right _ (List.mem_append_right _ (List.mem_append_right _ (List.mem_append_right _ (List.mem_singleton.mpr rfl))))))))))
theorem fe3_22 : Cond.eq (.elem (.static "PicturePegs$Acts" "BODY_OF" "[I") (.int (Int32.ofNat 22))) (.int (pg_t3.getD 22 0)) ∈ flatC (Cond.and given_1 narrow_1) := (List.mem_append_right _ (List.mem_append_left _ (List.mem_append_right _ (List.mem_append_left _ (List.mem_append_left _ (List.mem_append_left _ (List.mem_append_left _ (List.mem_append_left _ (List.mem_singleton.mpr rfl)))))))))
theorem fe3_23 : Cond.eq (.elem (.static "PicturePegs$Acts" "BODY_OF" "[I") (.int (Int32.ofNat 23))) (.int (pg_t3.getD 23 0)) ∈ flatC (Cond.and given_1 narrow_1) := (List.mem_append_right _ (List.mem_append_left _ (List.mem_append_right _ (List.mem_append_left _ (List.mem_append_left _ (List.mem_append_left _ (List.mem_append_left _ (List.mem_append_right _ (List.mem_append_left _ (List.mem_singleton.mpr rfl))))))))))
theorem fe3 : ∀ j, j < 24 → Cond.eq (.elem (.static "PicturePegs$Acts" "BODY_OF" "[I") (.int (Int32.ofNat j))) (.int (pg_t3.getD j 0)) ∈ flatC (Cond.and given_1 narrow_1) := by
  intro j hj
  match j, hj with
  | 0, _ => exact fe3_0
  | 1, _ => exact fe3_1
  | 2, _ => exact fe3_2
  | 3, _ => exact fe3_3
  | 4, _ => exact fe3_4
  | 5, _ => exact fe3_5
  | 6, _ => exact fe3_6
  | 7, _ => exact fe3_7
  | 8, _ => exact fe3_8
  | 9, _ => exact fe3_9
  | 10, _ => exact fe3_10
  | 11, _ => exact fe3_11
  | 12, _ => exact fe3_12
  | 13, _ => exact fe3_13
  | 14, _ => exact fe3_14
  | 15, _ => exact fe3_15
  | 16, _ => exact fe3_16
  | 17, _ => exact fe3_17
  | 18, _ => exact fe3_18
  | 19, _ => exact fe3_19
  | 20, _ => exact fe3_20
  | 21, _ => exact fe3_21
  | 22, _ => exact fe3_22
  | 23, _ => exact fe3_23
  | j + 24, h => omega
theorem fa3 : Cond.arrayOf (.static "PicturePegs$Acts" "BODY_OF" "[I") .int ∈ flatC (Cond.and given_1 narrow_1) := (List.mem_append_right _ (List.mem_append_left _ (List.mem_append_left _ (List.mem_append_right _ (List.mem_append_left _ (List.mem_append_left _ (List.mem_append_right _ (List.mem_append_left _ (List.mem_append_right _ (List.mem_singleton.mpr rfl))))))))))
theorem fn3 : Cond.eq (.length (.static "PicturePegs$Acts" "BODY_OF" "[I")) (.int (Int32.ofNat 24)) ∈ flatC (Cond.and given_1 narrow_1) := (List.mem_append_right _ (List.mem_append_left _ (List.mem_append_left _ (List.mem_append_right _ (List.mem_append_left _ (List.mem_append_left _ (List.mem_append_right _ (List.mem_append_right _ (List.mem_append_left _ (List.mem_singleton.mpr rfl))))))))))
theorem feS_0 : Cond.eq (.elem (.field (.string "PicturePegs$Tape" 96) "java/lang/String" "value" "[B") (.int (Int32.ofNat 0))) (.int (pg_tx.getD 0 0)) ∈ flatC (Cond.and given_1 narrow_1) := (List.mem_append_right _ (List.mem_append_left _ (List.mem_append_right _ (List.mem_append_left _ (List.mem_append_right _ (List.mem_append_right _ (List.mem_append_left _ (List.mem_append_right _ (List.mem_append_right _ (List.mem_singleton.mpr rfl))))))))))
theorem feS_1 : Cond.eq (.elem (.field (.string "PicturePegs$Tape" 96) "java/lang/String" "value" "[B") (.int (Int32.ofNat 1))) (.int (pg_tx.getD 1 0)) ∈ flatC (Cond.and given_1 narrow_1) := (List.mem_append_right _ (List.mem_append_left _ (List.mem_append_right _ (List.mem_append_left _ (List.mem_append_right _ (List.mem_append_right _ (List.mem_append_right _ (List.mem_append_left _ (List.mem_append_left _ (List.mem_singleton.mpr rfl))))))))))
theorem feS_2 : Cond.eq (.elem (.field (.string "PicturePegs$Tape" 96) "java/lang/String" "value" "[B") (.int (Int32.ofNat 2))) (.int (pg_tx.getD 2 0)) ∈ flatC (Cond.and given_1 narrow_1) := (List.mem_append_right _ (List.mem_append_left _ (List.mem_append_right _ (List.mem_append_left _ (List.mem_append_right _ (List.mem_append_right _ (List.mem_append_right _ (List.mem_append_left _ (List.mem_append_right _ (List.mem_singleton.mpr rfl))))))))))
theorem feS_3 : Cond.eq (.elem (.field (.string "PicturePegs$Tape" 96) "java/lang/String" "value" "[B") (.int (Int32.ofNat 3))) (.int (pg_tx.getD 3 0)) ∈ flatC (Cond.and given_1 narrow_1) := (List.mem_append_right _ (List.mem_append_left _ (List.mem_append_right _ (List.mem_append_left _ (List.mem_append_right _ (List.mem_append_right _ (List.mem_append_right _ (List.mem_append_right _ (List.mem_append_left _ (List.mem_singleton.mpr rfl))))))))))
theorem feS_4 : Cond.eq (.elem (.field (.string "PicturePegs$Tape" 96) "java/lang/String" "value" "[B") (.int (Int32.ofNat 4))) (.int (pg_tx.getD 4 0)) ∈ flatC (Cond.and given_1 narrow_1) := (List.mem_append_right _ (List.mem_append_left _ (List.mem_append_right _ (List.mem_append_left _ (List.mem_append_right _ (List.mem_append_right _ (List.mem_append_right _ (List.mem_append_right _ (List.mem_append_right _ (List.mem_singleton.mpr rfl))))))))))
theorem feS_5 : Cond.eq (.elem (.field (.string "PicturePegs$Tape" 96) "java/lang/String" "value" "[B") (.int (Int32.ofNat 5))) (.int (pg_tx.getD 5 0)) ∈ flatC (Cond.and given_1 narrow_1) := (List.mem_append_right _ (List.mem_append_left _ (List.mem_append_right _ (List.mem_append_right _ (List.mem_append_left _ (List.mem_append_left _ (List.mem_append_left _ (List.mem_append_left _ (List.mem_singleton.mpr rfl)))))))))
theorem feS_6 : Cond.eq (.elem (.field (.string "PicturePegs$Tape" 96) "java/lang/String" "value" "[B") (.int (Int32.ofNat 6))) (.int (pg_tx.getD 6 0)) ∈ flatC (Cond.and given_1 narrow_1) := (List.mem_append_right _ (List.mem_append_left _ (List.mem_append_right _ (List.mem_append_right _ (List.mem_append_left _ (List.mem_append_left _ (List.mem_append_left _ (List.mem_append_right _ (List.mem_append_left _ (List.mem_singleton.mpr rfl))))))))))
theorem feS_7 : Cond.eq (.elem (.field (.string "PicturePegs$Tape" 96) "java/lang/String" "value" "[B") (.int (Int32.ofNat 7))) (.int (pg_tx.getD 7 0)) ∈ flatC (Cond.and given_1 narrow_1) := (List.mem_append_right _ (List.mem_append_left _ (List.mem_append_right _ (List.mem_append_right _ (List.mem_append_left _ (List.mem_append_left _ (List.mem_append_left _ (List.mem_append_right _ (List.mem_append_right _ (List.mem_singleton.mpr rfl))))))))))
theorem feS_8 : Cond.eq (.elem (.field (.string "PicturePegs$Tape" 96) "java/lang/String" "value" "[B") (.int (Int32.ofNat 8))) (.int (pg_tx.getD 8 0)) ∈ flatC (Cond.and given_1 narrow_1) := (List.mem_append_right _ (List.mem_append_left _ (List.mem_append_right _ (List.mem_append_right _ (List.mem_append_left _ (List.mem_append_left _ (List.mem_append_right _ (List.mem_append_left _ (List.mem_append_left _ (List.mem_singleton.mpr rfl))))))))))
theorem feS_9 : Cond.eq (.elem (.field (.string "PicturePegs$Tape" 96) "java/lang/String" "value" "[B") (.int (Int32.ofNat 9))) (.int (pg_tx.getD 9 0)) ∈ flatC (Cond.and given_1 narrow_1) := (List.mem_append_right _ (List.mem_append_left _ (List.mem_append_right _ (List.mem_append_right _ (List.mem_append_left _ (List.mem_append_left _ (List.mem_append_right _ (List.mem_append_left _ (List.mem_append_right _ (List.mem_singleton.mpr rfl))))))))))
theorem feS_10 : Cond.eq (.elem (.field (.string "PicturePegs$Tape" 96) "java/lang/String" "value" "[B") (.int (Int32.ofNat 10))) (.int (pg_tx.getD 10 0)) ∈ flatC (Cond.and given_1 narrow_1) := (List.mem_append_right _ (List.mem_append_left _ (List.mem_append_right _ (List.mem_append_right _ (List.mem_append_left _ (List.mem_append_left _ (List.mem_append_right _ (List.mem_append_right _ (List.mem_append_left _ (List.mem_singleton.mpr rfl))))))))))
theorem feS_11 : Cond.eq (.elem (.field (.string "PicturePegs$Tape" 96) "java/lang/String" "value" "[B") (.int (Int32.ofNat 11))) (.int (pg_tx.getD 11 0)) ∈ flatC (Cond.and given_1 narrow_1) := (List.mem_append_right _ (List.mem_append_left _ (List.mem_append_right _ (List.mem_append_right _ (List.mem_append_left _ (List.mem_append_left _ (List.mem_append_right _ (List.mem_append_right _ (List.mem_append_right _ (List.mem_singleton.mpr rfl))))))))))
theorem feS_12 : Cond.eq (.elem (.field (.string "PicturePegs$Tape" 96) "java/lang/String" "value" "[B") (.int (Int32.ofNat 12))) (.int (pg_tx.getD 12 0)) ∈ flatC (Cond.and given_1 narrow_1) := (List.mem_append_right _ (List.mem_append_left _ (List.mem_append_right _ (List.mem_append_right _ (List.mem_append_left _ (List.mem_append_right _ (List.mem_append_left _ (List.mem_append_left _ (List.mem_singleton.mpr rfl)))))))))
theorem feS_13 : Cond.eq (.elem (.field (.string "PicturePegs$Tape" 96) "java/lang/String" "value" "[B") (.int (Int32.ofNat 13))) (.int (pg_tx.getD 13 0)) ∈ flatC (Cond.and given_1 narrow_1) := (List.mem_append_right _ (List.mem_append_left _ (List.mem_append_right _ (List.mem_append_right _ (List.mem_append_left _ (List.mem_append_right _ (List.mem_append_left _ (List.mem_append_right _ (List.mem_append_left _ (List.mem_singleton.mpr rfl))))))))))
theorem feS_14 : Cond.eq (.elem (.field (.string "PicturePegs$Tape" 96) "java/lang/String" "value" "[B") (.int (Int32.ofNat 14))) (.int (pg_tx.getD 14 0)) ∈ flatC (Cond.and given_1 narrow_1) := (List.mem_append_right _ (List.mem_append_left _ (List.mem_append_right _ (List.mem_append_right _ (List.mem_append_left _ (List.mem_append_right _ (List.mem_append_left _ (List.mem_append_right _ (List.mem_append_right _ (List.mem_singleton.mpr rfl))))))))))
theorem feS_15 : Cond.eq (.elem (.field (.string "PicturePegs$Tape" 96) "java/lang/String" "value" "[B") (.int (Int32.ofNat 15))) (.int (pg_tx.getD 15 0)) ∈ flatC (Cond.and given_1 narrow_1) := (List.mem_append_right _ (List.mem_append_left _ (List.mem_append_right _ (List.mem_append_right _ (List.mem_append_left _ (List.mem_append_right _ (List.mem_append_right _ (List.mem_append_left _ (List.mem_append_left _ (List.mem_singleton.mpr rfl))))))))))
theorem feS_16 : Cond.eq (.elem (.field (.string "PicturePegs$Tape" 96) "java/lang/String" "value" "[B") (.int (Int32.ofNat 16))) (.int (pg_tx.getD 16 0)) ∈ flatC (Cond.and given_1 narrow_1) := (List.mem_append_right _ (List.mem_append_left _ (List.mem_append_right _ (List.mem_append_right _ (List.mem_append_left _ (List.mem_append_right _ (List.mem_append_right _ (List.mem_append_left _ (List.mem_append_right _ (List.mem_singleton.mpr rfl))))))))))
theorem feS_17 : Cond.eq (.elem (.field (.string "PicturePegs$Tape" 96) "java/lang/String" "value" "[B") (.int (Int32.ofNat 17))) (.int (pg_tx.getD 17 0)) ∈ flatC (Cond.and given_1 narrow_1) := (List.mem_append_right _ (List.mem_append_left _ (List.mem_append_right _ (List.mem_append_right _ (List.mem_append_left _ (List.mem_append_right _ (List.mem_append_right _ (List.mem_append_right _ (List.mem_append_left _ (List.mem_singleton.mpr rfl))))))))))
theorem feS_18 : Cond.eq (.elem (.field (.string "PicturePegs$Tape" 96) "java/lang/String" "value" "[B") (.int (Int32.ofNat 18))) (.int (pg_tx.getD 18 0)) ∈ flatC (Cond.and given_1 narrow_1) := (List.mem_append_right _ (List.mem_append_left _ (List.mem_append_right _ (List.mem_append_right _ (List.mem_append_left _ (List.mem_append_right _ (List.mem_append_right _ (List.mem_append_right _ (List.mem_append_right _ (List.mem_singleton.mpr rfl))))))))))
theorem feS_19 : Cond.eq (.elem (.field (.string "PicturePegs$Tape" 96) "java/lang/String" "value" "[B") (.int (Int32.ofNat 19))) (.int (pg_tx.getD 19 0)) ∈ flatC (Cond.and given_1 narrow_1) := (List.mem_append_right _ (List.mem_append_left _ (List.mem_append_right _ (List.mem_append_right _ (List.mem_append_right _ (List.mem_append_left _ (List.mem_append_left _ (List.mem_append_left _ (List.mem_singleton.mpr rfl)))))))))
theorem feS_20 : Cond.eq (.elem (.field (.string "PicturePegs$Tape" 96) "java/lang/String" "value" "[B") (.int (Int32.ofNat 20))) (.int (pg_tx.getD 20 0)) ∈ flatC (Cond.and given_1 narrow_1) := (List.mem_append_right _ (List.mem_append_left _ (List.mem_append_right _ (List.mem_append_right _ (List.mem_append_right _ (List.mem_append_left _ (List.mem_append_left _ (List.mem_append_right _ (List.mem_append_left _ (List.mem_singleton.mpr rfl))))))))))
theorem feS_21 : Cond.eq (.elem (.field (.string "PicturePegs$Tape" 96) "java/lang/String" "value" "[B") (.int (Int32.ofNat 21))) (.int (pg_tx.getD 21 0)) ∈ flatC (Cond.and given_1 narrow_1) := (List.mem_append_right _ (List.mem_append_left _ (List.mem_append_right _ (List.mem_append_right _ (List.mem_append_right _ (List.mem_append_left _ (List.mem_append_left _ (List.mem_append_right _ (List.mem_append_right _ (List.mem_singleton.mpr rfl))))))))))
theorem feS_22 : Cond.eq (.elem (.field (.string "PicturePegs$Tape" 96) "java/lang/String" "value" "[B") (.int (Int32.ofNat 22))) (.int (pg_tx.getD 22 0)) ∈ flatC (Cond.and given_1 narrow_1) := (List.mem_append_right _ (List.mem_append_left _ (List.mem_append_right _ (List.mem_append_right _ (List.mem_append_right _ (List.mem_append_left _ (List.mem_append_right _ (List.mem_append_left _ (List.mem_append_left _ (List.mem_singleton.mpr rfl))))))))))
theorem feS_23 : Cond.eq (.elem (.field (.string "PicturePegs$Tape" 96) "java/lang/String" "value" "[B") (.int (Int32.ofNat 23))) (.int (pg_tx.getD 23 0)) ∈ flatC (Cond.and given_1 narrow_1) := (List.mem_append_right _ (List.mem_append_left _ (List.mem_append_right _ (List.mem_append_right _ (List.mem_append_right _ (List.mem_append_left _ (List.mem_append_right _ (List.mem_append_left _ (List.mem_append_right _ (List.mem_singleton.mpr rfl))))))))))
theorem feS_24 : Cond.eq (.elem (.field (.string "PicturePegs$Tape" 96) "java/lang/String" "value" "[B") (.int (Int32.ofNat 24))) (.int (pg_tx.getD 24 0)) ∈ flatC (Cond.and given_1 narrow_1) := (List.mem_append_right _ (List.mem_append_left _ (List.mem_append_right _ (List.mem_append_right _ (List.mem_append_right _ (List.mem_append_left _ (List.mem_append_right _ (List.mem_append_right _ (List.mem_append_left _ (List.mem_singleton.mpr rfl))))))))))
theorem feS_25 : Cond.eq (.elem (.field (.string "PicturePegs$Tape" 96) "java/lang/String" "value" "[B") (.int (Int32.ofNat 25))) (.int (pg_tx.getD 25 0)) ∈ flatC (Cond.and given_1 narrow_1) := (List.mem_append_right _ (List.mem_append_left _ (List.mem_append_right _ (List.mem_append_right _ (List.mem_append_right _ (List.mem_append_left _ (List.mem_append_right _ (List.mem_append_right _ (List.mem_append_right _ (List.mem_singleton.mpr rfl))))))))))
theorem feS_26 : Cond.eq (.elem (.field (.string "PicturePegs$Tape" 96) "java/lang/String" "value" "[B") (.int (Int32.ofNat 26))) (.int (pg_tx.getD 26 0)) ∈ flatC (Cond.and given_1 narrow_1) := (List.mem_append_right _ (List.mem_append_left _ (List.mem_append_right _ (List.mem_append_right _ (List.mem_append_right _ (List.mem_append_right _ (List.mem_append_left _ (List.mem_append_left _ (List.mem_singleton.mpr rfl)))))))))
theorem feS_27 : Cond.eq (.elem (.field (.string "PicturePegs$Tape" 96) "java/lang/String" "value" "[B") (.int (Int32.ofNat 27))) (.int (pg_tx.getD 27 0)) ∈ flatC (Cond.and given_1 narrow_1) := (List.mem_append_right _ (List.mem_append_left _ (List.mem_append_right _ (List.mem_append_right _ (List.mem_append_right _ (List.mem_append_right _ (List.mem_append_left _ (List.mem_append_right _ (List.mem_append_left _ (List.mem_singleton.mpr rfl))))))))))
theorem feS_28 : Cond.eq (.elem (.field (.string "PicturePegs$Tape" 96) "java/lang/String" "value" "[B") (.int (Int32.ofNat 28))) (.int (pg_tx.getD 28 0)) ∈ flatC (Cond.and given_1 narrow_1) := (List.mem_append_right _ (List.mem_append_left _ (List.mem_append_right _ (List.mem_append_right _ (List.mem_append_right _ (List.mem_append_right _ (List.mem_append_left _ (List.mem_append_right _ (List.mem_append_right _ (List.mem_singleton.mpr rfl))))))))))
theorem feS_29 : Cond.eq (.elem (.field (.string "PicturePegs$Tape" 96) "java/lang/String" "value" "[B") (.int (Int32.ofNat 29))) (.int (pg_tx.getD 29 0)) ∈ flatC (Cond.and given_1 narrow_1) := (List.mem_append_right _ (List.mem_append_left _ (List.mem_append_right _ (List.mem_append_right _ (List.mem_append_right _ (List.mem_append_right _ (List.mem_append_right _ (List.mem_append_left _ (List.mem_append_left _ (List.mem_singleton.mpr rfl))))))))))
theorem feS_30 : Cond.eq (.elem (.field (.string "PicturePegs$Tape" 96) "java/lang/String" "value" "[B") (.int (Int32.ofNat 30))) (.int (pg_tx.getD 30 0)) ∈ flatC (Cond.and given_1 narrow_1) := (List.mem_append_right _ (List.mem_append_left _ (List.mem_append_right _ (List.mem_append_right _ (List.mem_append_right _ (List.mem_append_right _ (List.mem_append_right _ (List.mem_append_left _ (List.mem_append_right _ (List.mem_singleton.mpr rfl))))))))))
theorem feS_31 : Cond.eq (.elem (.field (.string "PicturePegs$Tape" 96) "java/lang/String" "value" "[B") (.int (Int32.ofNat 31))) (.int (pg_tx.getD 31 0)) ∈ flatC (Cond.and given_1 narrow_1) := (List.mem_append_right _ (List.mem_append_left _ (List.mem_append_right _ (List.mem_append_right _ (List.mem_append_right _ (List.mem_append_right _ (List.mem_append_right _ (List.mem_append_right _ (List.mem_append_left _ (List.mem_singleton.mpr rfl))))))))))
theorem feS_32 : Cond.eq (.elem (.field (.string "PicturePegs$Tape" 96) "java/lang/String" "value" "[B") (.int (Int32.ofNat 32))) (.int (pg_tx.getD 32 0)) ∈ flatC (Cond.and given_1 narrow_1) := (List.mem_append_right _ (List.mem_append_left _ (List.mem_append_right _ (List.mem_append_right _ (List.mem_append_right _ (List.mem_append_right _ (List.mem_append_right _ (List.mem_append_right _ (List.mem_append_right _ (List.mem_singleton.mpr rfl))))))))))
theorem feS_33 : Cond.eq (.elem (.field (.string "PicturePegs$Tape" 96) "java/lang/String" "value" "[B") (.int (Int32.ofNat 33))) (.int (pg_tx.getD 33 0)) ∈ flatC (Cond.and given_1 narrow_1) := (List.mem_append_right _ (List.mem_append_right _ (List.mem_append_left _ (List.mem_append_left _ (List.mem_append_left _ (List.mem_append_left _ (List.mem_append_left _ (List.mem_append_left _ (List.mem_singleton.mpr rfl)))))))))
theorem feS_34 : Cond.eq (.elem (.field (.string "PicturePegs$Tape" 96) "java/lang/String" "value" "[B") (.int (Int32.ofNat 34))) (.int (pg_tx.getD 34 0)) ∈ flatC (Cond.and given_1 narrow_1) := (List.mem_append_right _ (List.mem_append_right _ (List.mem_append_left _ (List.mem_append_left _ (List.mem_append_left _ (List.mem_append_left _ (List.mem_append_left _ (List.mem_append_right _ (List.mem_append_left _ (List.mem_singleton.mpr rfl))))))))))
theorem feS_35 : Cond.eq (.elem (.field (.string "PicturePegs$Tape" 96) "java/lang/String" "value" "[B") (.int (Int32.ofNat 35))) (.int (pg_tx.getD 35 0)) ∈ flatC (Cond.and given_1 narrow_1) := (List.mem_append_right _ (List.mem_append_right _ (List.mem_append_left _ (List.mem_append_left _ (List.mem_append_left _ (List.mem_append_left _ (List.mem_append_left _ (List.mem_append_right _ (List.mem_append_right _ (List.mem_singleton.mpr rfl))))))))))
theorem feS_36 : Cond.eq (.elem (.field (.string "PicturePegs$Tape" 96) "java/lang/String" "value" "[B") (.int (Int32.ofNat 36))) (.int (pg_tx.getD 36 0)) ∈ flatC (Cond.and given_1 narrow_1) := (List.mem_append_right _ (List.mem_append_right _ (List.mem_append_left _ (List.mem_append_left _ (List.mem_append_left _ (List.mem_append_left _ (List.mem_append_right _ (List.mem_append_left _ (List.mem_singleton.mpr rfl)))))))))
theorem feS_37 : Cond.eq (.elem (.field (.string "PicturePegs$Tape" 96) "java/lang/String" "value" "[B") (.int (Int32.ofNat 37))) (.int (pg_tx.getD 37 0)) ∈ flatC (Cond.and given_1 narrow_1) := (List.mem_append_right _ (List.mem_append_right _ (List.mem_append_left _ (List.mem_append_left _ (List.mem_append_left _ (List.mem_append_left _ (List.mem_append_right _ (List.mem_append_right _ (List.mem_append_left _ (List.mem_singleton.mpr rfl))))))))))
theorem feS_38 : Cond.eq (.elem (.field (.string "PicturePegs$Tape" 96) "java/lang/String" "value" "[B") (.int (Int32.ofNat 38))) (.int (pg_tx.getD 38 0)) ∈ flatC (Cond.and given_1 narrow_1) := (List.mem_append_right _ (List.mem_append_right _ (List.mem_append_left _ (List.mem_append_left _ (List.mem_append_left _ (List.mem_append_left _ (List.mem_append_right _ (List.mem_append_right _ (List.mem_append_right _ (List.mem_singleton.mpr rfl))))))))))
theorem feS_39 : Cond.eq (.elem (.field (.string "PicturePegs$Tape" 96) "java/lang/String" "value" "[B") (.int (Int32.ofNat 39))) (.int (pg_tx.getD 39 0)) ∈ flatC (Cond.and given_1 narrow_1) := (List.mem_append_right _ (List.mem_append_right _ (List.mem_append_left _ (List.mem_append_left _ (List.mem_append_left _ (List.mem_append_right _ (List.mem_append_left _ (List.mem_append_left _ (List.mem_singleton.mpr rfl)))))))))
theorem feS_40 : Cond.eq (.elem (.field (.string "PicturePegs$Tape" 96) "java/lang/String" "value" "[B") (.int (Int32.ofNat 40))) (.int (pg_tx.getD 40 0)) ∈ flatC (Cond.and given_1 narrow_1) := (List.mem_append_right _ (List.mem_append_right _ (List.mem_append_left _ (List.mem_append_left _ (List.mem_append_left _ (List.mem_append_right _ (List.mem_append_left _ (List.mem_append_right _ (List.mem_append_left _ (List.mem_singleton.mpr rfl))))))))))
theorem feS_41 : Cond.eq (.elem (.field (.string "PicturePegs$Tape" 96) "java/lang/String" "value" "[B") (.int (Int32.ofNat 41))) (.int (pg_tx.getD 41 0)) ∈ flatC (Cond.and given_1 narrow_1) := (List.mem_append_right _ (List.mem_append_right _ (List.mem_append_left _ (List.mem_append_left _ (List.mem_append_left _ (List.mem_append_right _ (List.mem_append_left _ (List.mem_append_right _ (List.mem_append_right _ (List.mem_singleton.mpr rfl))))))))))
theorem feS_42 : Cond.eq (.elem (.field (.string "PicturePegs$Tape" 96) "java/lang/String" "value" "[B") (.int (Int32.ofNat 42))) (.int (pg_tx.getD 42 0)) ∈ flatC (Cond.and given_1 narrow_1) := (List.mem_append_right _ (List.mem_append_right _ (List.mem_append_left _ (List.mem_append_left _ (List.mem_append_left _ (List.mem_append_right _ (List.mem_append_right _ (List.mem_append_left _ (List.mem_append_left _ (List.mem_singleton.mpr rfl))))))))))
theorem feS_43 : Cond.eq (.elem (.field (.string "PicturePegs$Tape" 96) "java/lang/String" "value" "[B") (.int (Int32.ofNat 43))) (.int (pg_tx.getD 43 0)) ∈ flatC (Cond.and given_1 narrow_1) := (List.mem_append_right _ (List.mem_append_right _ (List.mem_append_left _ (List.mem_append_left _ (List.mem_append_left _ (List.mem_append_right _ (List.mem_append_right _ (List.mem_append_left _ (List.mem_append_right _ (List.mem_singleton.mpr rfl))))))))))
theorem feS_44 : Cond.eq (.elem (.field (.string "PicturePegs$Tape" 96) "java/lang/String" "value" "[B") (.int (Int32.ofNat 44))) (.int (pg_tx.getD 44 0)) ∈ flatC (Cond.and given_1 narrow_1) := (List.mem_append_right _ (List.mem_append_right _ (List.mem_append_left _ (List.mem_append_left _ (List.mem_append_left _ (List.mem_append_right _ (List.mem_append_right _ (List.mem_append_right _ (List.mem_append_left _ (List.mem_singleton.mpr rfl))))))))))
theorem feS_45 : Cond.eq (.elem (.field (.string "PicturePegs$Tape" 96) "java/lang/String" "value" "[B") (.int (Int32.ofNat 45))) (.int (pg_tx.getD 45 0)) ∈ flatC (Cond.and given_1 narrow_1) := (List.mem_append_right _ (List.mem_append_right _ (List.mem_append_left _ (List.mem_append_left _ (List.mem_append_left _ (List.mem_append_right _ (List.mem_append_right _ (List.mem_append_right _ (List.mem_append_right _ (List.mem_singleton.mpr rfl))))))))))
theorem feS_46 : Cond.eq (.elem (.field (.string "PicturePegs$Tape" 96) "java/lang/String" "value" "[B") (.int (Int32.ofNat 46))) (.int (pg_tx.getD 46 0)) ∈ flatC (Cond.and given_1 narrow_1) := (List.mem_append_right _ (List.mem_append_right _ (List.mem_append_left _ (List.mem_append_left _ (List.mem_append_right _ (List.mem_append_left _ (List.mem_append_left _ (List.mem_append_left _ (List.mem_singleton.mpr rfl)))))))))
theorem feS_47 : Cond.eq (.elem (.field (.string "PicturePegs$Tape" 96) "java/lang/String" "value" "[B") (.int (Int32.ofNat 47))) (.int (pg_tx.getD 47 0)) ∈ flatC (Cond.and given_1 narrow_1) := (List.mem_append_right _ (List.mem_append_right _ (List.mem_append_left _ (List.mem_append_left _ (List.mem_append_right _ (List.mem_append_left _ (List.mem_append_left _ (List.mem_append_right _ (List.mem_append_left _ (List.mem_singleton.mpr rfl))))))))))
theorem feS_48 : Cond.eq (.elem (.field (.string "PicturePegs$Tape" 96) "java/lang/String" "value" "[B") (.int (Int32.ofNat 48))) (.int (pg_tx.getD 48 0)) ∈ flatC (Cond.and given_1 narrow_1) := (List.mem_append_right _ (List.mem_append_right _ (List.mem_append_left _ (List.mem_append_left _ (List.mem_append_right _ (List.mem_append_left _ (List.mem_append_left _ (List.mem_append_right _ (List.mem_append_right _ (List.mem_singleton.mpr rfl))))))))))
theorem feS_49 : Cond.eq (.elem (.field (.string "PicturePegs$Tape" 96) "java/lang/String" "value" "[B") (.int (Int32.ofNat 49))) (.int (pg_tx.getD 49 0)) ∈ flatC (Cond.and given_1 narrow_1) := (List.mem_append_right _ (List.mem_append_right _ (List.mem_append_left _ (List.mem_append_left _ (List.mem_append_right _ (List.mem_append_left _ (List.mem_append_right _ (List.mem_append_left _ (List.mem_append_left _ (List.mem_singleton.mpr rfl))))))))))
theorem feS_50 : Cond.eq (.elem (.field (.string "PicturePegs$Tape" 96) "java/lang/String" "value" "[B") (.int (Int32.ofNat 50))) (.int (pg_tx.getD 50 0)) ∈ flatC (Cond.and given_1 narrow_1) := (List.mem_append_right _ (List.mem_append_right _ (List.mem_append_left _ (List.mem_append_left _ (List.mem_append_right _ (List.mem_append_left _ (List.mem_append_right _ (List.mem_append_left _ (List.mem_append_right _ (List.mem_singleton.mpr rfl))))))))))
theorem feS_51 : Cond.eq (.elem (.field (.string "PicturePegs$Tape" 96) "java/lang/String" "value" "[B") (.int (Int32.ofNat 51))) (.int (pg_tx.getD 51 0)) ∈ flatC (Cond.and given_1 narrow_1) := (List.mem_append_right _ (List.mem_append_right _ (List.mem_append_left _ (List.mem_append_left _ (List.mem_append_right _ (List.mem_append_left _ (List.mem_append_right _ (List.mem_append_right _ (List.mem_append_left _ (List.mem_singleton.mpr rfl))))))))))
theorem feS_52 : Cond.eq (.elem (.field (.string "PicturePegs$Tape" 96) "java/lang/String" "value" "[B") (.int (Int32.ofNat 52))) (.int (pg_tx.getD 52 0)) ∈ flatC (Cond.and given_1 narrow_1) := (List.mem_append_right _ (List.mem_append_right _ (List.mem_append_left _ (List.mem_append_left _ (List.mem_append_right _ (List.mem_append_left _ (List.mem_append_right _ (List.mem_append_right _ (List.mem_append_right _ (List.mem_singleton.mpr rfl))))))))))
theorem feS_53 : Cond.eq (.elem (.field (.string "PicturePegs$Tape" 96) "java/lang/String" "value" "[B") (.int (Int32.ofNat 53))) (.int (pg_tx.getD 53 0)) ∈ flatC (Cond.and given_1 narrow_1) := (List.mem_append_right _ (List.mem_append_right _ (List.mem_append_left _ (List.mem_append_left _ (List.mem_append_right _ (List.mem_append_right _ (List.mem_append_left _ (List.mem_append_left _ (List.mem_singleton.mpr rfl)))))))))
theorem feS_54 : Cond.eq (.elem (.field (.string "PicturePegs$Tape" 96) "java/lang/String" "value" "[B") (.int (Int32.ofNat 54))) (.int (pg_tx.getD 54 0)) ∈ flatC (Cond.and given_1 narrow_1) := (List.mem_append_right _ (List.mem_append_right _ (List.mem_append_left _ (List.mem_append_left _ (List.mem_append_right _ (List.mem_append_right _ (List.mem_append_left _ (List.mem_append_right _ (List.mem_append_left _ (List.mem_singleton.mpr rfl))))))))))
theorem feS_55 : Cond.eq (.elem (.field (.string "PicturePegs$Tape" 96) "java/lang/String" "value" "[B") (.int (Int32.ofNat 55))) (.int (pg_tx.getD 55 0)) ∈ flatC (Cond.and given_1 narrow_1) := (List.mem_append_right _ (List.mem_append_right _ (List.mem_append_left _ (List.mem_append_left _ (List.mem_append_right _ (List.mem_append_right _ (List.mem_append_left _ (List.mem_append_right _ (List.mem_append_right _ (List.mem_singleton.mpr rfl))))))))))
theorem feS_56 : Cond.eq (.elem (.field (.string "PicturePegs$Tape" 96) "java/lang/String" "value" "[B") (.int (Int32.ofNat 56))) (.int (pg_tx.getD 56 0)) ∈ flatC (Cond.and given_1 narrow_1) := (List.mem_append_right _ (List.mem_append_right _ (List.mem_append_left _ (List.mem_append_left _ (List.mem_append_right _ (List.mem_append_right _ (List.mem_append_right _ (List.mem_append_left _ (List.mem_append_left _ (List.mem_singleton.mpr rfl))))))))))
theorem feS_57 : Cond.eq (.elem (.field (.string "PicturePegs$Tape" 96) "java/lang/String" "value" "[B") (.int (Int32.ofNat 57))) (.int (pg_tx.getD 57 0)) ∈ flatC (Cond.and given_1 narrow_1) := (List.mem_append_right _ (List.mem_append_right _ (List.mem_append_left _ (List.mem_append_left _ (List.mem_append_right _ (List.mem_append_right _ (List.mem_append_right _ (List.mem_append_left _ (List.mem_append_right _ (List.mem_singleton.mpr rfl))))))))))
theorem feS_58 : Cond.eq (.elem (.field (.string "PicturePegs$Tape" 96) "java/lang/String" "value" "[B") (.int (Int32.ofNat 58))) (.int (pg_tx.getD 58 0)) ∈ flatC (Cond.and given_1 narrow_1) := (List.mem_append_right _ (List.mem_append_right _ (List.mem_append_left _ (List.mem_append_left _ (List.mem_append_right _ (List.mem_append_right _ (List.mem_append_right _ (List.mem_append_right _ (List.mem_append_left _ (List.mem_singleton.mpr rfl))))))))))
theorem feS_59 : Cond.eq (.elem (.field (.string "PicturePegs$Tape" 96) "java/lang/String" "value" "[B") (.int (Int32.ofNat 59))) (.int (pg_tx.getD 59 0)) ∈ flatC (Cond.and given_1 narrow_1) := (List.mem_append_right _ (List.mem_append_right _ (List.mem_append_left _ (List.mem_append_left _ (List.mem_append_right _ (List.mem_append_right _ (List.mem_append_right _ (List.mem_append_right _ (List.mem_append_right _ (List.mem_singleton.mpr rfl))))))))))
theorem feS_60 : Cond.eq (.elem (.field (.string "PicturePegs$Tape" 96) "java/lang/String" "value" "[B") (.int (Int32.ofNat 60))) (.int (pg_tx.getD 60 0)) ∈ flatC (Cond.and given_1 narrow_1) := (List.mem_append_right _ (List.mem_append_right _ (List.mem_append_left _ (List.mem_append_right _ (List.mem_append_left _ (List.mem_append_left _ (List.mem_append_left _ (List.mem_append_left _ (List.mem_singleton.mpr rfl)))))))))
theorem feS_61 : Cond.eq (.elem (.field (.string "PicturePegs$Tape" 96) "java/lang/String" "value" "[B") (.int (Int32.ofNat 61))) (.int (pg_tx.getD 61 0)) ∈ flatC (Cond.and given_1 narrow_1) := (List.mem_append_right _ (List.mem_append_right _ (List.mem_append_left _ (List.mem_append_right _ (List.mem_append_left _ (List.mem_append_left _ (List.mem_append_left _ (List.mem_append_right _ (List.mem_append_left _ (List.mem_singleton.mpr rfl))))))))))
theorem feS_62 : Cond.eq (.elem (.field (.string "PicturePegs$Tape" 96) "java/lang/String" "value" "[B") (.int (Int32.ofNat 62))) (.int (pg_tx.getD 62 0)) ∈ flatC (Cond.and given_1 narrow_1) := (List.mem_append_right _ (List.mem_append_right _ (List.mem_append_left _ (List.mem_append_right _ (List.mem_append_left _ (List.mem_append_left _ (List.mem_append_left _ (List.mem_append_right _ (List.mem_append_right _ (List.mem_singleton.mpr rfl))))))))))
theorem feS_63 : Cond.eq (.elem (.field (.string "PicturePegs$Tape" 96) "java/lang/String" "value" "[B") (.int (Int32.ofNat 63))) (.int (pg_tx.getD 63 0)) ∈ flatC (Cond.and given_1 narrow_1) := (List.mem_append_right _ (List.mem_append_right _ (List.mem_append_left _ (List.mem_append_right _ (List.mem_append_left _ (List.mem_append_left _ (List.mem_append_right _ (List.mem_append_left _ (List.mem_append_left _ (List.mem_singleton.mpr rfl))))))))))
theorem feS_64 : Cond.eq (.elem (.field (.string "PicturePegs$Tape" 96) "java/lang/String" "value" "[B") (.int (Int32.ofNat 64))) (.int (pg_tx.getD 64 0)) ∈ flatC (Cond.and given_1 narrow_1) := (List.mem_append_right _ (List.mem_append_right _ (List.mem_append_left _ (List.mem_append_right _ (List.mem_append_left _ (List.mem_append_left _ (List.mem_append_right _ (List.mem_append_left _ (List.mem_append_right _ (List.mem_singleton.mpr rfl))))))))))
theorem feS_65 : Cond.eq (.elem (.field (.string "PicturePegs$Tape" 96) "java/lang/String" "value" "[B") (.int (Int32.ofNat 65))) (.int (pg_tx.getD 65 0)) ∈ flatC (Cond.and given_1 narrow_1) := (List.mem_append_right _ (List.mem_append_right _ (List.mem_append_left _ (List.mem_append_right _ (List.mem_append_left _ (List.mem_append_left _ (List.mem_append_right _ (List.mem_append_right _ (List.mem_append_left _ (List.mem_singleton.mpr rfl))))))))))
theorem feS_66 : Cond.eq (.elem (.field (.string "PicturePegs$Tape" 96) "java/lang/String" "value" "[B") (.int (Int32.ofNat 66))) (.int (pg_tx.getD 66 0)) ∈ flatC (Cond.and given_1 narrow_1) := (List.mem_append_right _ (List.mem_append_right _ (List.mem_append_left _ (List.mem_append_right _ (List.mem_append_left _ (List.mem_append_left _ (List.mem_append_right _ (List.mem_append_right _ (List.mem_append_right _ (List.mem_singleton.mpr rfl))))))))))
theorem feS_67 : Cond.eq (.elem (.field (.string "PicturePegs$Tape" 96) "java/lang/String" "value" "[B") (.int (Int32.ofNat 67))) (.int (pg_tx.getD 67 0)) ∈ flatC (Cond.and given_1 narrow_1) := (List.mem_append_right _ (List.mem_append_right _ (List.mem_append_left _ (List.mem_append_right _ (List.mem_append_left _ (List.mem_append_right _ (List.mem_append_left _ (List.mem_append_left _ (List.mem_singleton.mpr rfl)))))))))
theorem feS_68 : Cond.eq (.elem (.field (.string "PicturePegs$Tape" 96) "java/lang/String" "value" "[B") (.int (Int32.ofNat 68))) (.int (pg_tx.getD 68 0)) ∈ flatC (Cond.and given_1 narrow_1) := (List.mem_append_right _ (List.mem_append_right _ (List.mem_append_left _ (List.mem_append_right _ (List.mem_append_left _ (List.mem_append_right _ (List.mem_append_left _ (List.mem_append_right _ (List.mem_append_left _ (List.mem_singleton.mpr rfl))))))))))
theorem feS_69 : Cond.eq (.elem (.field (.string "PicturePegs$Tape" 96) "java/lang/String" "value" "[B") (.int (Int32.ofNat 69))) (.int (pg_tx.getD 69 0)) ∈ flatC (Cond.and given_1 narrow_1) := (List.mem_append_right _ (List.mem_append_right _ (List.mem_append_left _ (List.mem_append_right _ (List.mem_append_left _ (List.mem_append_right _ (List.mem_append_left _ (List.mem_append_right _ (List.mem_append_right _ (List.mem_singleton.mpr rfl))))))))))
theorem feS_70 : Cond.eq (.elem (.field (.string "PicturePegs$Tape" 96) "java/lang/String" "value" "[B") (.int (Int32.ofNat 70))) (.int (pg_tx.getD 70 0)) ∈ flatC (Cond.and given_1 narrow_1) := (List.mem_append_right _ (List.mem_append_right _ (List.mem_append_left _ (List.mem_append_right _ (List.mem_append_left _ (List.mem_append_right _ (List.mem_append_right _ (List.mem_append_left _ (List.mem_append_left _ (List.mem_singleton.mpr rfl))))))))))
theorem feS_71 : Cond.eq (.elem (.field (.string "PicturePegs$Tape" 96) "java/lang/String" "value" "[B") (.int (Int32.ofNat 71))) (.int (pg_tx.getD 71 0)) ∈ flatC (Cond.and given_1 narrow_1) := (List.mem_append_right _ (List.mem_append_right _ (List.mem_append_left _ (List.mem_append_right _ (List.mem_append_left _ (List.mem_append_right _ (List.mem_append_right _ (List.mem_append_left _ (List.mem_append_right _ (List.mem_singleton.mpr rfl))))))))))
theorem feS_72 : Cond.eq (.elem (.field (.string "PicturePegs$Tape" 96) "java/lang/String" "value" "[B") (.int (Int32.ofNat 72))) (.int (pg_tx.getD 72 0)) ∈ flatC (Cond.and given_1 narrow_1) := (List.mem_append_right _ (List.mem_append_right _ (List.mem_append_left _ (List.mem_append_right _ (List.mem_append_left _ (List.mem_append_right _ (List.mem_append_right _ (List.mem_append_right _ (List.mem_append_left _ (List.mem_singleton.mpr rfl))))))))))
theorem feS_73 : Cond.eq (.elem (.field (.string "PicturePegs$Tape" 96) "java/lang/String" "value" "[B") (.int (Int32.ofNat 73))) (.int (pg_tx.getD 73 0)) ∈ flatC (Cond.and given_1 narrow_1) := (List.mem_append_right _ (List.mem_append_right _ (List.mem_append_left _ (List.mem_append_right _ (List.mem_append_left _ (List.mem_append_right _ (List.mem_append_right _ (List.mem_append_right _ (List.mem_append_right _ (List.mem_singleton.mpr rfl))))))))))
theorem feS_74 : Cond.eq (.elem (.field (.string "PicturePegs$Tape" 96) "java/lang/String" "value" "[B") (.int (Int32.ofNat 74))) (.int (pg_tx.getD 74 0)) ∈ flatC (Cond.and given_1 narrow_1) := (List.mem_append_right _ (List.mem_append_right _ (List.mem_append_left _ (List.mem_append_right _ (List.mem_append_right _ (List.mem_append_left _ (List.mem_append_left _ (List.mem_append_left _ (List.mem_singleton.mpr rfl)))))))))
theorem feS_75 : Cond.eq (.elem (.field (.string "PicturePegs$Tape" 96) "java/lang/String" "value" "[B") (.int (Int32.ofNat 75))) (.int (pg_tx.getD 75 0)) ∈ flatC (Cond.and given_1 narrow_1) := (List.mem_append_right _ (List.mem_append_right _ (List.mem_append_left _ (List.mem_append_right _ (List.mem_append_right _ (List.mem_append_left _ (List.mem_append_left _ (List.mem_append_right _ (List.mem_append_left _ (List.mem_singleton.mpr rfl))))))))))
theorem feS_76 : Cond.eq (.elem (.field (.string "PicturePegs$Tape" 96) "java/lang/String" "value" "[B") (.int (Int32.ofNat 76))) (.int (pg_tx.getD 76 0)) ∈ flatC (Cond.and given_1 narrow_1) := (List.mem_append_right _ (List.mem_append_right _ (List.mem_append_left _ (List.mem_append_right _ (List.mem_append_right _ (List.mem_append_left _ (List.mem_append_left _ (List.mem_append_right _ (List.mem_append_right _ (List.mem_singleton.mpr rfl))))))))))
theorem feS_77 : Cond.eq (.elem (.field (.string "PicturePegs$Tape" 96) "java/lang/String" "value" "[B") (.int (Int32.ofNat 77))) (.int (pg_tx.getD 77 0)) ∈ flatC (Cond.and given_1 narrow_1) := (List.mem_append_right _ (List.mem_append_right _ (List.mem_append_left _ (List.mem_append_right _ (List.mem_append_right _ (List.mem_append_left _ (List.mem_append_right _ (List.mem_append_left _ (List.mem_append_left _ (List.mem_singleton.mpr rfl))))))))))
theorem feS_78 : Cond.eq (.elem (.field (.string "PicturePegs$Tape" 96) "java/lang/String" "value" "[B") (.int (Int32.ofNat 78))) (.int (pg_tx.getD 78 0)) ∈ flatC (Cond.and given_1 narrow_1) := (List.mem_append_right _ (List.mem_append_right _ (List.mem_append_left _ (List.mem_append_right _ (List.mem_append_right _ (List.mem_append_left _ (List.mem_append_right _ (List.mem_append_left _ (List.mem_append_right _ (List.mem_singleton.mpr rfl))))))))))
theorem feS_79 : Cond.eq (.elem (.field (.string "PicturePegs$Tape" 96) "java/lang/String" "value" "[B") (.int (Int32.ofNat 79))) (.int (pg_tx.getD 79 0)) ∈ flatC (Cond.and given_1 narrow_1) := (List.mem_append_right _ (List.mem_append_right _ (List.mem_append_left _ (List.mem_append_right _ (List.mem_append_right _ (List.mem_append_left _ (List.mem_append_right _ (List.mem_append_right _ (List.mem_append_left _ (List.mem_singleton.mpr rfl))))))))))
theorem feS_80 : Cond.eq (.elem (.field (.string "PicturePegs$Tape" 96) "java/lang/String" "value" "[B") (.int (Int32.ofNat 80))) (.int (pg_tx.getD 80 0)) ∈ flatC (Cond.and given_1 narrow_1) := (List.mem_append_right _ (List.mem_append_right _ (List.mem_append_left _ (List.mem_append_right _ (List.mem_append_right _ (List.mem_append_left _ (List.mem_append_right _ (List.mem_append_right _ (List.mem_append_right _ (List.mem_singleton.mpr rfl))))))))))
theorem feS_81 : Cond.eq (.elem (.field (.string "PicturePegs$Tape" 96) "java/lang/String" "value" "[B") (.int (Int32.ofNat 81))) (.int (pg_tx.getD 81 0)) ∈ flatC (Cond.and given_1 narrow_1) := (List.mem_append_right _ (List.mem_append_right _ (List.mem_append_left _ (List.mem_append_right _ (List.mem_append_right _ (List.mem_append_right _ (List.mem_append_left _ (List.mem_append_left _ (List.mem_singleton.mpr rfl)))))))))
theorem feS_82 : Cond.eq (.elem (.field (.string "PicturePegs$Tape" 96) "java/lang/String" "value" "[B") (.int (Int32.ofNat 82))) (.int (pg_tx.getD 82 0)) ∈ flatC (Cond.and given_1 narrow_1) := (List.mem_append_right _ (List.mem_append_right _ (List.mem_append_left _ (List.mem_append_right _ (List.mem_append_right _ (List.mem_append_right _ (List.mem_append_left _ (List.mem_append_right _ (List.mem_append_left _ (List.mem_singleton.mpr rfl))))))))))
theorem feS_83 : Cond.eq (.elem (.field (.string "PicturePegs$Tape" 96) "java/lang/String" "value" "[B") (.int (Int32.ofNat 83))) (.int (pg_tx.getD 83 0)) ∈ flatC (Cond.and given_1 narrow_1) := (List.mem_append_right _ (List.mem_append_right _ (List.mem_append_left _ (List.mem_append_right _ (List.mem_append_right _ (List.mem_append_right _ (List.mem_append_left _ (List.mem_append_right _ (List.mem_append_right _ (List.mem_singleton.mpr rfl))))))))))
theorem feS_84 : Cond.eq (.elem (.field (.string "PicturePegs$Tape" 96) "java/lang/String" "value" "[B") (.int (Int32.ofNat 84))) (.int (pg_tx.getD 84 0)) ∈ flatC (Cond.and given_1 narrow_1) := (List.mem_append_right _ (List.mem_append_right _ (List.mem_append_left _ (List.mem_append_right _ (List.mem_append_right _ (List.mem_append_right _ (List.mem_append_right _ (List.mem_append_left _ (List.mem_append_left _ (List.mem_singleton.mpr rfl))))))))))
theorem feS_85 : Cond.eq (.elem (.field (.string "PicturePegs$Tape" 96) "java/lang/String" "value" "[B") (.int (Int32.ofNat 85))) (.int (pg_tx.getD 85 0)) ∈ flatC (Cond.and given_1 narrow_1) := (List.mem_append_right _ (List.mem_append_right _ (List.mem_append_left _ (List.mem_append_right _ (List.mem_append_right _ (List.mem_append_right _ (List.mem_append_right _ (List.mem_append_left _ (List.mem_append_right _ (List.mem_singleton.mpr rfl))))))))))
theorem feS_86 : Cond.eq (.elem (.field (.string "PicturePegs$Tape" 96) "java/lang/String" "value" "[B") (.int (Int32.ofNat 86))) (.int (pg_tx.getD 86 0)) ∈ flatC (Cond.and given_1 narrow_1) := (List.mem_append_right _ (List.mem_append_right _ (List.mem_append_left _ (List.mem_append_right _ (List.mem_append_right _ (List.mem_append_right _ (List.mem_append_right _ (List.mem_append_right _ (List.mem_append_left _ (List.mem_singleton.mpr rfl))))))))))
theorem feS_87 : Cond.eq (.elem (.field (.string "PicturePegs$Tape" 96) "java/lang/String" "value" "[B") (.int (Int32.ofNat 87))) (.int (pg_tx.getD 87 0)) ∈ flatC (Cond.and given_1 narrow_1) := (List.mem_append_right _ (List.mem_append_right _ (List.mem_append_left _ (List.mem_append_right _ (List.mem_append_right _ (List.mem_append_right _ (List.mem_append_right _ (List.mem_append_right _ (List.mem_append_right _ (List.mem_singleton.mpr rfl))))))))))
theorem feS_88 : Cond.eq (.elem (.field (.string "PicturePegs$Tape" 96) "java/lang/String" "value" "[B") (.int (Int32.ofNat 88))) (.int (pg_tx.getD 88 0)) ∈ flatC (Cond.and given_1 narrow_1) := (List.mem_append_right _ (List.mem_append_right _ (List.mem_append_right _ (List.mem_append_left _ (List.mem_append_left _ (List.mem_append_left _ (List.mem_append_left _ (List.mem_append_left _ (List.mem_singleton.mpr rfl)))))))))
theorem feS_89 : Cond.eq (.elem (.field (.string "PicturePegs$Tape" 96) "java/lang/String" "value" "[B") (.int (Int32.ofNat 89))) (.int (pg_tx.getD 89 0)) ∈ flatC (Cond.and given_1 narrow_1) := (List.mem_append_right _ (List.mem_append_right _ (List.mem_append_right _ (List.mem_append_left _ (List.mem_append_left _ (List.mem_append_left _ (List.mem_append_left _ (List.mem_append_right _ (List.mem_append_left _ (List.mem_singleton.mpr rfl))))))))))
theorem feS_90 : Cond.eq (.elem (.field (.string "PicturePegs$Tape" 96) "java/lang/String" "value" "[B") (.int (Int32.ofNat 90))) (.int (pg_tx.getD 90 0)) ∈ flatC (Cond.and given_1 narrow_1) := (List.mem_append_right _ (List.mem_append_right _ (List.mem_append_right _ (List.mem_append_left _ (List.mem_append_left _ (List.mem_append_left _ (List.mem_append_left _ (List.mem_append_right _ (List.mem_append_right _ (List.mem_singleton.mpr rfl))))))))))
theorem feS_91 : Cond.eq (.elem (.field (.string "PicturePegs$Tape" 96) "java/lang/String" "value" "[B") (.int (Int32.ofNat 91))) (.int (pg_tx.getD 91 0)) ∈ flatC (Cond.and given_1 narrow_1) := (List.mem_append_right _ (List.mem_append_right _ (List.mem_append_right _ (List.mem_append_left _ (List.mem_append_left _ (List.mem_append_left _ (List.mem_append_right _ (List.mem_append_left _ (List.mem_append_left _ (List.mem_singleton.mpr rfl))))))))))
theorem feS_92 : Cond.eq (.elem (.field (.string "PicturePegs$Tape" 96) "java/lang/String" "value" "[B") (.int (Int32.ofNat 92))) (.int (pg_tx.getD 92 0)) ∈ flatC (Cond.and given_1 narrow_1) := (List.mem_append_right _ (List.mem_append_right _ (List.mem_append_right _ (List.mem_append_left _ (List.mem_append_left _ (List.mem_append_left _ (List.mem_append_right _ (List.mem_append_left _ (List.mem_append_right _ (List.mem_singleton.mpr rfl))))))))))
theorem feS_93 : Cond.eq (.elem (.field (.string "PicturePegs$Tape" 96) "java/lang/String" "value" "[B") (.int (Int32.ofNat 93))) (.int (pg_tx.getD 93 0)) ∈ flatC (Cond.and given_1 narrow_1) := (List.mem_append_right _ (List.mem_append_right _ (List.mem_append_right _ (List.mem_append_left _ (List.mem_append_left _ (List.mem_append_left _ (List.mem_append_right _ (List.mem_append_right _ (List.mem_append_left _ (List.mem_singleton.mpr rfl))))))))))
theorem feS_94 : Cond.eq (.elem (.field (.string "PicturePegs$Tape" 96) "java/lang/String" "value" "[B") (.int (Int32.ofNat 94))) (.int (pg_tx.getD 94 0)) ∈ flatC (Cond.and given_1 narrow_1) := (List.mem_append_right _ (List.mem_append_right _ (List.mem_append_right _ (List.mem_append_left _ (List.mem_append_left _ (List.mem_append_left _ (List.mem_append_right _ (List.mem_append_right _ (List.mem_append_right _ (List.mem_singleton.mpr rfl))))))))))
theorem feS_95 : Cond.eq (.elem (.field (.string "PicturePegs$Tape" 96) "java/lang/String" "value" "[B") (.int (Int32.ofNat 95))) (.int (pg_tx.getD 95 0)) ∈ flatC (Cond.and given_1 narrow_1) := (List.mem_append_right _ (List.mem_append_right _ (List.mem_append_right _ (List.mem_append_left _ (List.mem_append_left _ (List.mem_append_right _ (List.mem_append_left _ (List.mem_append_left _ (List.mem_singleton.mpr rfl)))))))))
theorem feS_96 : Cond.eq (.elem (.field (.string "PicturePegs$Tape" 96) "java/lang/String" "value" "[B") (.int (Int32.ofNat 96))) (.int (pg_tx.getD 96 0)) ∈ flatC (Cond.and given_1 narrow_1) := (List.mem_append_right _ (List.mem_append_right _ (List.mem_append_right _ (List.mem_append_left _ (List.mem_append_left _ (List.mem_append_right _ (List.mem_append_left _ (List.mem_append_right _ (List.mem_append_left _ (List.mem_singleton.mpr rfl))))))))))
theorem feS_97 : Cond.eq (.elem (.field (.string "PicturePegs$Tape" 96) "java/lang/String" "value" "[B") (.int (Int32.ofNat 97))) (.int (pg_tx.getD 97 0)) ∈ flatC (Cond.and given_1 narrow_1) := (List.mem_append_right _ (List.mem_append_right _ (List.mem_append_right _ (List.mem_append_left _ (List.mem_append_left _ (List.mem_append_right _ (List.mem_append_left _ (List.mem_append_right _ (List.mem_append_right _ (List.mem_singleton.mpr rfl))))))))))
theorem feS_98 : Cond.eq (.elem (.field (.string "PicturePegs$Tape" 96) "java/lang/String" "value" "[B") (.int (Int32.ofNat 98))) (.int (pg_tx.getD 98 0)) ∈ flatC (Cond.and given_1 narrow_1) := (List.mem_append_right _ (List.mem_append_right _ (List.mem_append_right _ (List.mem_append_left _ (List.mem_append_left _ (List.mem_append_right _ (List.mem_append_right _ (List.mem_append_left _ (List.mem_append_left _ (List.mem_singleton.mpr rfl))))))))))
theorem feS_99 : Cond.eq (.elem (.field (.string "PicturePegs$Tape" 96) "java/lang/String" "value" "[B") (.int (Int32.ofNat 99))) (.int (pg_tx.getD 99 0)) ∈ flatC (Cond.and given_1 narrow_1) := (List.mem_append_right _ (List.mem_append_right _ (List.mem_append_right _ (List.mem_append_left _ (List.mem_append_left _ (List.mem_append_right _ (List.mem_append_right _ (List.mem_append_left _ (List.mem_append_right _ (List.mem_singleton.mpr rfl))))))))))
theorem feS_100 : Cond.eq (.elem (.field (.string "PicturePegs$Tape" 96) "java/lang/String" "value" "[B") (.int (Int32.ofNat 100))) (.int (pg_tx.getD 100 0)) ∈ flatC (Cond.and given_1 narrow_1) := (List.mem_append_right _ (List.mem_append_right _ (List.mem_append_right _ (List.mem_append_left _ (List.mem_append_left _ (List.mem_append_right _ (List.mem_append_right _ (List.mem_append_right _ (List.mem_append_left _ (List.mem_singleton.mpr rfl))))))))))
theorem feS_101 : Cond.eq (.elem (.field (.string "PicturePegs$Tape" 96) "java/lang/String" "value" "[B") (.int (Int32.ofNat 101))) (.int (pg_tx.getD 101 0)) ∈ flatC (Cond.and given_1 narrow_1) := (List.mem_append_right _ (List.mem_append_right _ (List.mem_append_right _ (List.mem_append_left _ (List.mem_append_left _ (List.mem_append_right _ (List.mem_append_right _ (List.mem_append_right _ (List.mem_append_right _ (List.mem_singleton.mpr rfl))))))))))
theorem feS_102 : Cond.eq (.elem (.field (.string "PicturePegs$Tape" 96) "java/lang/String" "value" "[B") (.int (Int32.ofNat 102))) (.int (pg_tx.getD 102 0)) ∈ flatC (Cond.and given_1 narrow_1) := (List.mem_append_right _ (List.mem_append_right _ (List.mem_append_right _ (List.mem_append_left _ (List.mem_append_right _ (List.mem_append_left _ (List.mem_append_left _ (List.mem_append_left _ (List.mem_singleton.mpr rfl)))))))))
theorem feS_103 : Cond.eq (.elem (.field (.string "PicturePegs$Tape" 96) "java/lang/String" "value" "[B") (.int (Int32.ofNat 103))) (.int (pg_tx.getD 103 0)) ∈ flatC (Cond.and given_1 narrow_1) := (List.mem_append_right _ (List.mem_append_right _ (List.mem_append_right _ (List.mem_append_left _ (List.mem_append_right _ (List.mem_append_left _ (List.mem_append_left _ (List.mem_append_right _ (List.mem_append_left _ (List.mem_singleton.mpr rfl))))))))))
theorem feS_104 : Cond.eq (.elem (.field (.string "PicturePegs$Tape" 96) "java/lang/String" "value" "[B") (.int (Int32.ofNat 104))) (.int (pg_tx.getD 104 0)) ∈ flatC (Cond.and given_1 narrow_1) := (List.mem_append_right _ (List.mem_append_right _ (List.mem_append_right _ (List.mem_append_left _ (List.mem_append_right _ (List.mem_append_left _ (List.mem_append_left _ (List.mem_append_right _ (List.mem_append_right _ (List.mem_singleton.mpr rfl))))))))))
theorem feS_105 : Cond.eq (.elem (.field (.string "PicturePegs$Tape" 96) "java/lang/String" "value" "[B") (.int (Int32.ofNat 105))) (.int (pg_tx.getD 105 0)) ∈ flatC (Cond.and given_1 narrow_1) := (List.mem_append_right _ (List.mem_append_right _ (List.mem_append_right _ (List.mem_append_left _ (List.mem_append_right _ (List.mem_append_left _ (List.mem_append_right _ (List.mem_append_left _ (List.mem_append_left _ (List.mem_singleton.mpr rfl))))))))))
theorem feS_106 : Cond.eq (.elem (.field (.string "PicturePegs$Tape" 96) "java/lang/String" "value" "[B") (.int (Int32.ofNat 106))) (.int (pg_tx.getD 106 0)) ∈ flatC (Cond.and given_1 narrow_1) := (List.mem_append_right _ (List.mem_append_right _ (List.mem_append_right _ (List.mem_append_left _ (List.mem_append_right _ (List.mem_append_left _ (List.mem_append_right _ (List.mem_append_left _ (List.mem_append_right _ (List.mem_singleton.mpr rfl))))))))))
theorem feS_107 : Cond.eq (.elem (.field (.string "PicturePegs$Tape" 96) "java/lang/String" "value" "[B") (.int (Int32.ofNat 107))) (.int (pg_tx.getD 107 0)) ∈ flatC (Cond.and given_1 narrow_1) := (List.mem_append_right _ (List.mem_append_right _ (List.mem_append_right _ (List.mem_append_left _ (List.mem_append_right _ (List.mem_append_left _ (List.mem_append_right _ (List.mem_append_right _ (List.mem_append_left _ (List.mem_singleton.mpr rfl))))))))))
theorem feS_108 : Cond.eq (.elem (.field (.string "PicturePegs$Tape" 96) "java/lang/String" "value" "[B") (.int (Int32.ofNat 108))) (.int (pg_tx.getD 108 0)) ∈ flatC (Cond.and given_1 narrow_1) := (List.mem_append_right _ (List.mem_append_right _ (List.mem_append_right _ (List.mem_append_left _ (List.mem_append_right _ (List.mem_append_left _ (List.mem_append_right _ (List.mem_append_right _ (List.mem_append_right _ (List.mem_singleton.mpr rfl))))))))))
theorem feS_109 : Cond.eq (.elem (.field (.string "PicturePegs$Tape" 96) "java/lang/String" "value" "[B") (.int (Int32.ofNat 109))) (.int (pg_tx.getD 109 0)) ∈ flatC (Cond.and given_1 narrow_1) := (List.mem_append_right _ (List.mem_append_right _ (List.mem_append_right _ (List.mem_append_left _ (List.mem_append_right _ (List.mem_append_right _ (List.mem_append_left _ (List.mem_append_left _ (List.mem_singleton.mpr rfl)))))))))
theorem feS_110 : Cond.eq (.elem (.field (.string "PicturePegs$Tape" 96) "java/lang/String" "value" "[B") (.int (Int32.ofNat 110))) (.int (pg_tx.getD 110 0)) ∈ flatC (Cond.and given_1 narrow_1) := (List.mem_append_right _ (List.mem_append_right _ (List.mem_append_right _ (List.mem_append_left _ (List.mem_append_right _ (List.mem_append_right _ (List.mem_append_left _ (List.mem_append_right _ (List.mem_append_left _ (List.mem_singleton.mpr rfl))))))))))
theorem feS_111 : Cond.eq (.elem (.field (.string "PicturePegs$Tape" 96) "java/lang/String" "value" "[B") (.int (Int32.ofNat 111))) (.int (pg_tx.getD 111 0)) ∈ flatC (Cond.and given_1 narrow_1) := (List.mem_append_right _ (List.mem_append_right _ (List.mem_append_right _ (List.mem_append_left _ (List.mem_append_right _ (List.mem_append_right _ (List.mem_append_left _ (List.mem_append_right _ (List.mem_append_right _ (List.mem_singleton.mpr rfl))))))))))
theorem feS_112 : Cond.eq (.elem (.field (.string "PicturePegs$Tape" 96) "java/lang/String" "value" "[B") (.int (Int32.ofNat 112))) (.int (pg_tx.getD 112 0)) ∈ flatC (Cond.and given_1 narrow_1) := (List.mem_append_right _ (List.mem_append_right _ (List.mem_append_right _ (List.mem_append_left _ (List.mem_append_right _ (List.mem_append_right _ (List.mem_append_right _ (List.mem_append_left _ (List.mem_append_left _ (List.mem_singleton.mpr rfl))))))))))
theorem feS_113 : Cond.eq (.elem (.field (.string "PicturePegs$Tape" 96) "java/lang/String" "value" "[B") (.int (Int32.ofNat 113))) (.int (pg_tx.getD 113 0)) ∈ flatC (Cond.and given_1 narrow_1) := (List.mem_append_right _ (List.mem_append_right _ (List.mem_append_right _ (List.mem_append_left _ (List.mem_append_right _ (List.mem_append_right _ (List.mem_append_right _ (List.mem_append_left _ (List.mem_append_right _ (List.mem_singleton.mpr rfl))))))))))
theorem feS_114 : Cond.eq (.elem (.field (.string "PicturePegs$Tape" 96) "java/lang/String" "value" "[B") (.int (Int32.ofNat 114))) (.int (pg_tx.getD 114 0)) ∈ flatC (Cond.and given_1 narrow_1) := (List.mem_append_right _ (List.mem_append_right _ (List.mem_append_right _ (List.mem_append_left _ (List.mem_append_right _ (List.mem_append_right _ (List.mem_append_right _ (List.mem_append_right _ (List.mem_append_left _ (List.mem_singleton.mpr rfl))))))))))
theorem feS_115 : Cond.eq (.elem (.field (.string "PicturePegs$Tape" 96) "java/lang/String" "value" "[B") (.int (Int32.ofNat 115))) (.int (pg_tx.getD 115 0)) ∈ flatC (Cond.and given_1 narrow_1) := (List.mem_append_right _ (List.mem_append_right _ (List.mem_append_right _ (List.mem_append_left _ (List.mem_append_right _ (List.mem_append_right _ (List.mem_append_right _ (List.mem_append_right _ (List.mem_append_right _ (List.mem_singleton.mpr rfl))))))))))
theorem feS_116 : Cond.eq (.elem (.field (.string "PicturePegs$Tape" 96) "java/lang/String" "value" "[B") (.int (Int32.ofNat 116))) (.int (pg_tx.getD 116 0)) ∈ flatC (Cond.and given_1 narrow_1) := (List.mem_append_right _ (List.mem_append_right _ (List.mem_append_right _ (List.mem_append_right _ (List.mem_append_left _ (List.mem_append_left _ (List.mem_append_left _ (List.mem_append_left _ (List.mem_singleton.mpr rfl)))))))))
theorem feS_117 : Cond.eq (.elem (.field (.string "PicturePegs$Tape" 96) "java/lang/String" "value" "[B") (.int (Int32.ofNat 117))) (.int (pg_tx.getD 117 0)) ∈ flatC (Cond.and given_1 narrow_1) := (List.mem_append_right _ (List.mem_append_right _ (List.mem_append_right _ (List.mem_append_right _ (List.mem_append_left _ (List.mem_append_left _ (List.mem_append_left _ (List.mem_append_right _ (List.mem_append_left _ (List.mem_singleton.mpr rfl))))))))))
theorem feS_118 : Cond.eq (.elem (.field (.string "PicturePegs$Tape" 96) "java/lang/String" "value" "[B") (.int (Int32.ofNat 118))) (.int (pg_tx.getD 118 0)) ∈ flatC (Cond.and given_1 narrow_1) := (List.mem_append_right _ (List.mem_append_right _ (List.mem_append_right _ (List.mem_append_right _ (List.mem_append_left _ (List.mem_append_left _ (List.mem_append_left _ (List.mem_append_right _ (List.mem_append_right _ (List.mem_singleton.mpr rfl))))))))))
theorem feS_119 : Cond.eq (.elem (.field (.string "PicturePegs$Tape" 96) "java/lang/String" "value" "[B") (.int (Int32.ofNat 119))) (.int (pg_tx.getD 119 0)) ∈ flatC (Cond.and given_1 narrow_1) := (List.mem_append_right _ (List.mem_append_right _ (List.mem_append_right _ (List.mem_append_right _ (List.mem_append_left _ (List.mem_append_left _ (List.mem_append_right _ (List.mem_append_left _ (List.mem_append_left _ (List.mem_singleton.mpr rfl))))))))))
theorem feS_120 : Cond.eq (.elem (.field (.string "PicturePegs$Tape" 96) "java/lang/String" "value" "[B") (.int (Int32.ofNat 120))) (.int (pg_tx.getD 120 0)) ∈ flatC (Cond.and given_1 narrow_1) := (List.mem_append_right _ (List.mem_append_right _ (List.mem_append_right _ (List.mem_append_right _ (List.mem_append_left _ (List.mem_append_left _ (List.mem_append_right _ (List.mem_append_left _ (List.mem_append_right _ (List.mem_singleton.mpr rfl))))))))))
theorem feS_121 : Cond.eq (.elem (.field (.string "PicturePegs$Tape" 96) "java/lang/String" "value" "[B") (.int (Int32.ofNat 121))) (.int (pg_tx.getD 121 0)) ∈ flatC (Cond.and given_1 narrow_1) := (List.mem_append_right _ (List.mem_append_right _ (List.mem_append_right _ (List.mem_append_right _ (List.mem_append_left _ (List.mem_append_left _ (List.mem_append_right _ (List.mem_append_right _ (List.mem_append_left _ (List.mem_singleton.mpr rfl))))))))))
theorem feS_122 : Cond.eq (.elem (.field (.string "PicturePegs$Tape" 96) "java/lang/String" "value" "[B") (.int (Int32.ofNat 122))) (.int (pg_tx.getD 122 0)) ∈ flatC (Cond.and given_1 narrow_1) := (List.mem_append_right _ (List.mem_append_right _ (List.mem_append_right _ (List.mem_append_right _ (List.mem_append_left _ (List.mem_append_left _ (List.mem_append_right _ (List.mem_append_right _ (List.mem_append_right _ (List.mem_singleton.mpr rfl))))))))))
theorem feS_123 : Cond.eq (.elem (.field (.string "PicturePegs$Tape" 96) "java/lang/String" "value" "[B") (.int (Int32.ofNat 123))) (.int (pg_tx.getD 123 0)) ∈ flatC (Cond.and given_1 narrow_1) := (List.mem_append_right _ (List.mem_append_right _ (List.mem_append_right _ (List.mem_append_right _ (List.mem_append_left _ (List.mem_append_right _ (List.mem_append_left _ (List.mem_append_left _ (List.mem_singleton.mpr rfl)))))))))
theorem feS_124 : Cond.eq (.elem (.field (.string "PicturePegs$Tape" 96) "java/lang/String" "value" "[B") (.int (Int32.ofNat 124))) (.int (pg_tx.getD 124 0)) ∈ flatC (Cond.and given_1 narrow_1) := (List.mem_append_right _ (List.mem_append_right _ (List.mem_append_right _ (List.mem_append_right _ (List.mem_append_left _ (List.mem_append_right _ (List.mem_append_left _ (List.mem_append_right _ (List.mem_append_left _ (List.mem_singleton.mpr rfl))))))))))
theorem feS_125 : Cond.eq (.elem (.field (.string "PicturePegs$Tape" 96) "java/lang/String" "value" "[B") (.int (Int32.ofNat 125))) (.int (pg_tx.getD 125 0)) ∈ flatC (Cond.and given_1 narrow_1) := (List.mem_append_right _ (List.mem_append_right _ (List.mem_append_right _ (List.mem_append_right _ (List.mem_append_left _ (List.mem_append_right _ (List.mem_append_left _ (List.mem_append_right _ (List.mem_append_right _ (List.mem_singleton.mpr rfl))))))))))
theorem feS_126 : Cond.eq (.elem (.field (.string "PicturePegs$Tape" 96) "java/lang/String" "value" "[B") (.int (Int32.ofNat 126))) (.int (pg_tx.getD 126 0)) ∈ flatC (Cond.and given_1 narrow_1) := (List.mem_append_right _ (List.mem_append_right _ (List.mem_append_right _ (List.mem_append_right _ (List.mem_append_left _ (List.mem_append_right _ (List.mem_append_right _ (List.mem_append_left _ (List.mem_append_left _ (List.mem_singleton.mpr rfl))))))))))
theorem feS_127 : Cond.eq (.elem (.field (.string "PicturePegs$Tape" 96) "java/lang/String" "value" "[B") (.int (Int32.ofNat 127))) (.int (pg_tx.getD 127 0)) ∈ flatC (Cond.and given_1 narrow_1) := (List.mem_append_right _ (List.mem_append_right _ (List.mem_append_right _ (List.mem_append_right _ (List.mem_append_left _ (List.mem_append_right _ (List.mem_append_right _ (List.mem_append_left _ (List.mem_append_right _ (List.mem_singleton.mpr rfl))))))))))
theorem feS_128 : Cond.eq (.elem (.field (.string "PicturePegs$Tape" 96) "java/lang/String" "value" "[B") (.int (Int32.ofNat 128))) (.int (pg_tx.getD 128 0)) ∈ flatC (Cond.and given_1 narrow_1) := (List.mem_append_right _ (List.mem_append_right _ (List.mem_append_right _ (List.mem_append_right _ (List.mem_append_left _ (List.mem_append_right _ (List.mem_append_right _ (List.mem_append_right _ (List.mem_append_left _ (List.mem_singleton.mpr rfl))))))))))
theorem feS_129 : Cond.eq (.elem (.field (.string "PicturePegs$Tape" 96) "java/lang/String" "value" "[B") (.int (Int32.ofNat 129))) (.int (pg_tx.getD 129 0)) ∈ flatC (Cond.and given_1 narrow_1) := (List.mem_append_right _ (List.mem_append_right _ (List.mem_append_right _ (List.mem_append_right _ (List.mem_append_left _ (List.mem_append_right _ (List.mem_append_right _ (List.mem_append_right _ (List.mem_append_right _ (List.mem_singleton.mpr rfl))))))))))
theorem feS_130 : Cond.eq (.elem (.field (.string "PicturePegs$Tape" 96) "java/lang/String" "value" "[B") (.int (Int32.ofNat 130))) (.int (pg_tx.getD 130 0)) ∈ flatC (Cond.and given_1 narrow_1) := (List.mem_append_right _ (List.mem_append_right _ (List.mem_append_right _ (List.mem_append_right _ (List.mem_append_right _ (List.mem_append_left _ (List.mem_append_left _ (List.mem_append_left _ (List.mem_singleton.mpr rfl)))))))))
theorem feS_131 : Cond.eq (.elem (.field (.string "PicturePegs$Tape" 96) "java/lang/String" "value" "[B") (.int (Int32.ofNat 131))) (.int (pg_tx.getD 131 0)) ∈ flatC (Cond.and given_1 narrow_1) := (List.mem_append_right _ (List.mem_append_right _ (List.mem_append_right _ (List.mem_append_right _ (List.mem_append_right _ (List.mem_append_left _ (List.mem_append_left _ (List.mem_append_right _ (List.mem_append_left _ (List.mem_singleton.mpr rfl))))))))))
theorem feS_132 : Cond.eq (.elem (.field (.string "PicturePegs$Tape" 96) "java/lang/String" "value" "[B") (.int (Int32.ofNat 132))) (.int (pg_tx.getD 132 0)) ∈ flatC (Cond.and given_1 narrow_1) := (List.mem_append_right _ (List.mem_append_right _ (List.mem_append_right _ (List.mem_append_right _ (List.mem_append_right _ (List.mem_append_left _ (List.mem_append_left _ (List.mem_append_right _ (List.mem_append_right _ (List.mem_singleton.mpr rfl))))))))))
theorem feS_133 : Cond.eq (.elem (.field (.string "PicturePegs$Tape" 96) "java/lang/String" "value" "[B") (.int (Int32.ofNat 133))) (.int (pg_tx.getD 133 0)) ∈ flatC (Cond.and given_1 narrow_1) := (List.mem_append_right _ (List.mem_append_right _ (List.mem_append_right _ (List.mem_append_right _ (List.mem_append_right _ (List.mem_append_left _ (List.mem_append_right _ (List.mem_append_left _ (List.mem_append_left _ (List.mem_singleton.mpr rfl))))))))))
theorem feS_134 : Cond.eq (.elem (.field (.string "PicturePegs$Tape" 96) "java/lang/String" "value" "[B") (.int (Int32.ofNat 134))) (.int (pg_tx.getD 134 0)) ∈ flatC (Cond.and given_1 narrow_1) := (List.mem_append_right _ (List.mem_append_right _ (List.mem_append_right _ (List.mem_append_right _ (List.mem_append_right _ (List.mem_append_left _ (List.mem_append_right _ (List.mem_append_left _ (List.mem_append_right _ (List.mem_singleton.mpr rfl))))))))))
theorem feS_135 : Cond.eq (.elem (.field (.string "PicturePegs$Tape" 96) "java/lang/String" "value" "[B") (.int (Int32.ofNat 135))) (.int (pg_tx.getD 135 0)) ∈ flatC (Cond.and given_1 narrow_1) := (List.mem_append_right _ (List.mem_append_right _ (List.mem_append_right _ (List.mem_append_right _ (List.mem_append_right _ (List.mem_append_left _ (List.mem_append_right _ (List.mem_append_right _ (List.mem_append_left _ (List.mem_singleton.mpr rfl))))))))))
theorem feS_136 : Cond.eq (.elem (.field (.string "PicturePegs$Tape" 96) "java/lang/String" "value" "[B") (.int (Int32.ofNat 136))) (.int (pg_tx.getD 136 0)) ∈ flatC (Cond.and given_1 narrow_1) := (List.mem_append_right _ (List.mem_append_right _ (List.mem_append_right _ (List.mem_append_right _ (List.mem_append_right _ (List.mem_append_left _ (List.mem_append_right _ (List.mem_append_right _ (List.mem_append_right _ (List.mem_singleton.mpr rfl))))))))))
theorem feS_137 : Cond.eq (.elem (.field (.string "PicturePegs$Tape" 96) "java/lang/String" "value" "[B") (.int (Int32.ofNat 137))) (.int (pg_tx.getD 137 0)) ∈ flatC (Cond.and given_1 narrow_1) := (List.mem_append_right _ (List.mem_append_right _ (List.mem_append_right _ (List.mem_append_right _ (List.mem_append_right _ (List.mem_append_right _ (List.mem_append_left _ (List.mem_append_left _ (List.mem_singleton.mpr rfl)))))))))
theorem feS_138 : Cond.eq (.elem (.field (.string "PicturePegs$Tape" 96) "java/lang/String" "value" "[B") (.int (Int32.ofNat 138))) (.int (pg_tx.getD 138 0)) ∈ flatC (Cond.and given_1 narrow_1) := (List.mem_append_right _ (List.mem_append_right _ (List.mem_append_right _ (List.mem_append_right _ (List.mem_append_right _ (List.mem_append_right _ (List.mem_append_left _ (List.mem_append_right _ (List.mem_append_left _ (List.mem_singleton.mpr rfl))))))))))
theorem feS_139 : Cond.eq (.elem (.field (.string "PicturePegs$Tape" 96) "java/lang/String" "value" "[B") (.int (Int32.ofNat 139))) (.int (pg_tx.getD 139 0)) ∈ flatC (Cond.and given_1 narrow_1) := (List.mem_append_right _ (List.mem_append_right _ (List.mem_append_right _ (List.mem_append_right _ (List.mem_append_right _ (List.mem_append_right _ (List.mem_append_left _ (List.mem_append_right _ (List.mem_append_right _ (List.mem_singleton.mpr rfl))))))))))
theorem feS : ∀ j, j < 140 → Cond.eq (.elem (.field (.string "PicturePegs$Tape" 96) "java/lang/String" "value" "[B") (.int (Int32.ofNat j))) (.int (pg_tx.getD j 0)) ∈ flatC (Cond.and given_1 narrow_1) := by
  intro j hj
  match j, hj with
  | 0, _ => exact feS_0
  | 1, _ => exact feS_1
  | 2, _ => exact feS_2
  | 3, _ => exact feS_3
  | 4, _ => exact feS_4
  | 5, _ => exact feS_5
  | 6, _ => exact feS_6
  | 7, _ => exact feS_7
  | 8, _ => exact feS_8
  | 9, _ => exact feS_9
  | 10, _ => exact feS_10
  | 11, _ => exact feS_11
  | 12, _ => exact feS_12
  | 13, _ => exact feS_13
  | 14, _ => exact feS_14
  | 15, _ => exact feS_15
  | 16, _ => exact feS_16
  | 17, _ => exact feS_17
  | 18, _ => exact feS_18
  | 19, _ => exact feS_19
  | 20, _ => exact feS_20
  | 21, _ => exact feS_21
  | 22, _ => exact feS_22
  | 23, _ => exact feS_23
  | 24, _ => exact feS_24
  | 25, _ => exact feS_25
  | 26, _ => exact feS_26
  | 27, _ => exact feS_27
  | 28, _ => exact feS_28
  | 29, _ => exact feS_29
  | 30, _ => exact feS_30
  | 31, _ => exact feS_31
  | 32, _ => exact feS_32
  | 33, _ => exact feS_33
  | 34, _ => exact feS_34
  | 35, _ => exact feS_35
  | 36, _ => exact feS_36
  | 37, _ => exact feS_37
  | 38, _ => exact feS_38
  | 39, _ => exact feS_39
  | 40, _ => exact feS_40
  | 41, _ => exact feS_41
  | 42, _ => exact feS_42
  | 43, _ => exact feS_43
  | 44, _ => exact feS_44
  | 45, _ => exact feS_45
  | 46, _ => exact feS_46
  | 47, _ => exact feS_47
  | 48, _ => exact feS_48
  | 49, _ => exact feS_49
  | 50, _ => exact feS_50
  | 51, _ => exact feS_51
  | 52, _ => exact feS_52
  | 53, _ => exact feS_53
  | 54, _ => exact feS_54
  | 55, _ => exact feS_55
  | 56, _ => exact feS_56
  | 57, _ => exact feS_57
  | 58, _ => exact feS_58
  | 59, _ => exact feS_59
  | 60, _ => exact feS_60
  | 61, _ => exact feS_61
  | 62, _ => exact feS_62
  | 63, _ => exact feS_63
  | 64, _ => exact feS_64
  | 65, _ => exact feS_65
  | 66, _ => exact feS_66
  | 67, _ => exact feS_67
  | 68, _ => exact feS_68
  | 69, _ => exact feS_69
  | 70, _ => exact feS_70
  | 71, _ => exact feS_71
  | 72, _ => exact feS_72
  | 73, _ => exact feS_73
  | 74, _ => exact feS_74
  | 75, _ => exact feS_75
  | 76, _ => exact feS_76
  | 77, _ => exact feS_77
  | 78, _ => exact feS_78
  | 79, _ => exact feS_79
  | 80, _ => exact feS_80
  | 81, _ => exact feS_81
  | 82, _ => exact feS_82
  | 83, _ => exact feS_83
  | 84, _ => exact feS_84
  | 85, _ => exact feS_85
  | 86, _ => exact feS_86
  | 87, _ => exact feS_87
  | 88, _ => exact feS_88
  | 89, _ => exact feS_89
  | 90, _ => exact feS_90
  | 91, _ => exact feS_91
  | 92, _ => exact feS_92
  | 93, _ => exact feS_93
  | 94, _ => exact feS_94
  | 95, _ => exact feS_95
  | 96, _ => exact feS_96
  | 97, _ => exact feS_97
  | 98, _ => exact feS_98
  | 99, _ => exact feS_99
  | 100, _ => exact feS_100
  | 101, _ => exact feS_101
  | 102, _ => exact feS_102
  | 103, _ => exact feS_103
  | 104, _ => exact feS_104
  | 105, _ => exact feS_105
  | 106, _ => exact feS_106
  | 107, _ => exact feS_107
  | 108, _ => exact feS_108
  | 109, _ => exact feS_109
  | 110, _ => exact feS_110
  | 111, _ => exact feS_111
  | 112, _ => exact feS_112
  | 113, _ => exact feS_113
  | 114, _ => exact feS_114
  | 115, _ => exact feS_115
  | 116, _ => exact feS_116
  | 117, _ => exact feS_117
  | 118, _ => exact feS_118
  | 119, _ => exact feS_119
  | 120, _ => exact feS_120
  | 121, _ => exact feS_121
  | 122, _ => exact feS_122
  | 123, _ => exact feS_123
  | 124, _ => exact feS_124
  | 125, _ => exact feS_125
  | 126, _ => exact feS_126
  | 127, _ => exact feS_127
  | 128, _ => exact feS_128
  | 129, _ => exact feS_129
  | 130, _ => exact feS_130
  | 131, _ => exact feS_131
  | 132, _ => exact feS_132
  | 133, _ => exact feS_133
  | 134, _ => exact feS_134
  | 135, _ => exact feS_135
  | 136, _ => exact feS_136
  | 137, _ => exact feS_137
  | 138, _ => exact feS_138
  | 139, _ => exact feS_139
  | j + 140, h => omega
theorem fsx : Cond.exactly (.string "PicturePegs$Tape" 96) "java/lang/String" ∈ flatC (Cond.and given_1 narrow_1) := (List.mem_append_right _ (List.mem_append_left _ (List.mem_append_right _ (List.mem_append_left _ (List.mem_append_right _ (List.mem_append_left _ (List.mem_append_right _ (List.mem_append_right _ (List.mem_append_left _ (List.mem_singleton.mpr rfl))))))))))
theorem fsc : Cond.eq (.field (.string "PicturePegs$Tape" 96) "java/lang/String" "coder" "B") (.int 0) ∈ flatC (Cond.and given_1 narrow_1) := (List.mem_append_right _ (List.mem_append_left _ (List.mem_append_right _ (List.mem_append_left _ (List.mem_append_right _ (List.mem_append_left _ (List.mem_append_right _ (List.mem_append_right _ (List.mem_append_right _ (List.mem_singleton.mpr rfl))))))))))
theorem fsa : Cond.arrayOf (.field (.string "PicturePegs$Tape" 96) "java/lang/String" "value" "[B") .byte ∈ flatC (Cond.and given_1 narrow_1) := (List.mem_append_right _ (List.mem_append_left _ (List.mem_append_right _ (List.mem_append_left _ (List.mem_append_right _ (List.mem_append_right _ (List.mem_append_left _ (List.mem_append_left _ (List.mem_singleton.mpr rfl)))))))))
theorem fsl : Cond.eq (.length (.field (.string "PicturePegs$Tape" 96) "java/lang/String" "value" "[B")) (.int (Int32.ofNat 140)) ∈ flatC (Cond.and given_1 narrow_1) := (List.mem_append_right _ (List.mem_append_left _ (List.mem_append_right _ (List.mem_append_left _ (List.mem_append_right _ (List.mem_append_right _ (List.mem_append_left _ (List.mem_append_right _ (List.mem_append_left _ (List.mem_singleton.mpr rfl))))))))))
theorem fcs : Cond.eq (.static "java/lang/String" "COMPACT_STRINGS" "Z") (.int 1) ∈ flatC (Cond.and given_1 narrow_1) := (List.mem_append_right _ (List.mem_append_left _ (List.mem_append_left _ (List.mem_append_left _ (List.mem_append_left _ (List.mem_append_right _ (List.mem_append_right _ (List.mem_append_left _ (List.mem_append_left _ (List.mem_singleton.mpr rfl))))))))))
theorem fsi : Cond.isRef (.static "jdk/internal/util/Preconditions" "SIOOBE_FORMATTER" "Ljava/util/function/BiFunction;") ∈ flatC (Cond.and given_1 narrow_1) := (List.mem_append_right _ (List.mem_append_left _ (List.mem_append_left _ (List.mem_append_left _ (List.mem_append_left _ (List.mem_append_right _ (List.mem_append_right _ (List.mem_append_left _ (List.mem_append_right _ (List.mem_singleton.mpr rfl))))))))))
/-! THE CLAIM OUT OF ONE WALK OF THE LAW'S BODY. Your part is whole_start (and what it stands on); all else here is the same for every law, but numbers. -/
def R_law : String := "PicturePegsLaw"
def lw_P (b : Addr) (xs : List Int32) (args : Array Value) (s : State) : Prop := args = #[.ref b] ∧ s.IntsAt b xs ∧ xs.length ≤ 2560 ∧ (Jvm.Cond.and given_1 narrow_1).before args s = true
def lw_Q (_ : Array Value) (s : State) (o : Outcome) (t : State) : Prop := o = .returned (some (.int 1)) ∧ Framed s o t [] 600000 7302250
def lw_Z (below : List Frame) (a : Array Value) (s : State) : State → Prop := fun t => ∃ o, t.status = .running ∧ Ended t below o ∧ lw_Q a s o t
/-- the law's own end, with 1 on the stack, nothing written that was there before, its room as the claim has it -/
theorem lw_ret {p : Program} {l : Launch} {e : Env} {s : State} {m : MethodId} {below : List Frame} {meth : Method} {c : Code} {b : Nat} (hx : p.tables.exec = Jvm.exec) (hb : c.code = code) (hr : meth.sig.returnType = ret) (hlocks : meth.locks = false) {pc : Nat} {H : Heap} {ls : Array Slot} (hdg : decode code pc = .ok (.ireturn, 1)) : W p l e room_1 s m #[Value.ref b] below meth c H [] 600000 7302250 (lw_Z below #[Value.ref b] s) (F0 m pc ls [.int 1]) := by
  intro T hT X
  obtain ⟨fs, hret, hrun, hended, hW, hframe⟩ := X.leave (v := some (.int 1)) (hlocks := hlocks) (fun h => by rw [hr] at h; cases h)
  have hmeth' : T.vm.method? m = some meth := X.method'
  refine ⟨T.setFrames fs, ?_, .returned (some (.int 1)), hrun, hended, rfl, ⟨_, rfl⟩, hW, hframe⟩
  jvm_step X.here [X.here.top, hx, hb, hdg, hmeth', hr, ret, narrow_b1]
  (try refine ⟨rfl, ?_⟩); (try refine ⟨rfl, ?_⟩)
  first | (intro acts; rw [hret _ acts rfl rfl rfl]) | rw [hret _ _ rfl rfl rfl]
  exact Steps.refl _
/-- what holds at the law's entry: the machine, the code, the tables' words (any of lw_tbl by 'hts w (by decide +kernel)'), the script of L ints xs at the cell b, what the Statement gives of the start (any of its parts by flat_of_before) -/
def lw_At (p : Program) (s : State) (m : MethodId) (meth : Method) (c : Code) (b L : Nat) (xs : Nat → Int32) : Prop :=
  p.tables.exec = Jvm.exec ∧ c.code = code ∧ meth.sig.returnType = ret ∧ c.maxLocals = 4 ∧ s.vm.findClass R_law = some m.cls ∧ (∀ w ∈ lw_tbl, w.before #[Value.ref b] s = true) ∧ va_X b L xs s s.heap ∧ b < s.heap.size ∧ meth.locks = false ∧ (Jvm.Cond.and given_1 narrow_1).before #[Value.ref b] s = true
set_option maxHeartbeats 4000000 in
set_option maxRecDepth 20000 in
theorem ro_start {s : State} {b L : Nat} {xs : Nat → Int32} (hts : ∀ w ∈ lw_tbl, w.before #[Value.ref b] s = true) (hX : va_X b L xs s s.heap) (hbl : b < s.heap.size) (hL : L ≤ 2560) (hgv : (Jvm.Cond.and given_1 narrow_1).before #[Value.ref b] s = true) : ∃ rd : Nat → Nat, rd 906 = b ∧ pg_RO (L, xs) rd (fun q => s.heap.size ≤ q) s s.heap := by
  have hs := flat_of_before _ hgv
  have hA : ∀ a : Nat, a < s.heap.size → ¬ (fun q => s.heap.size ≤ q) a := fun a h q => absurd h (Nat.not_lt.mpr q)
  obtain ⟨t0, e0, T0⟩ := va_Tof (args := #[Value.ref b]) (s := s) (tm := (.static "PicturePegs" "LAW_AT_FIRST" "[I")) (ty := .int) (N := 4) (f := fun j => .int (pg_t0.getD j 0)) (A := fun q => s.heap.size ≤ q) (by decide) (hs _ fa0) (va_eqt (hs _ fn0)) (fun j hj => va_eqt (hs _ (fe0 j hj))) hA
  have Z0 : va_Z "PicturePegs" "LAW_AT_FIRST" "[I" (.ref t0) (fun q => s.heap.size ≤ q) s s.heap := va_Zof (hts (.laysStatic "PicturePegs" "LAW_AT_FIRST" "[I") (in_T (List.mem_append_left _ (List.mem_of_getElem? (i := 35) rfl)))) (hts (.initialized "PicturePegs") (in_T (List.mem_append_left _ (List.mem_of_getElem? (i := 1) rfl)))) e0 hA
  obtain ⟨t1, e1, T1⟩ := va_Tof (args := #[Value.ref b]) (s := s) (tm := (.static "PicturePegs" "LAW_MOST" "[I")) (ty := .int) (N := 4) (f := fun j => .int (pg_t1.getD j 0)) (A := fun q => s.heap.size ≤ q) (by decide) (hs _ fa1) (va_eqt (hs _ fn1)) (fun j hj => va_eqt (hs _ (fe1 j hj))) hA
  have Z1 : va_Z "PicturePegs" "LAW_MOST" "[I" (.ref t1) (fun q => s.heap.size ≤ q) s s.heap := va_Zof (hts (.laysStatic "PicturePegs" "LAW_MOST" "[I") (in_T (List.mem_append_right _ (List.mem_append_left _ (List.mem_of_getElem? (i := 111) rfl))))) (hts (.initialized "PicturePegs") (in_T (List.mem_append_left _ (List.mem_of_getElem? (i := 1) rfl)))) e1 hA
  obtain ⟨t2, e2, T2⟩ := va_Tof (args := #[Value.ref b]) (s := s) (tm := (.static "PicturePegs" "KIND_ABOVE" "[I")) (ty := .int) (N := 6) (f := fun j => .int (pg_t2.getD j 0)) (A := fun q => s.heap.size ≤ q) (by decide) (hs _ fa2) (va_eqt (hs _ fn2)) (fun j hj => va_eqt (hs _ (fe2 j hj))) hA
  have Z2 : va_Z "PicturePegs" "KIND_ABOVE" "[I" (.ref t2) (fun q => s.heap.size ≤ q) s s.heap := va_Zof (hts (.laysStatic "PicturePegs" "KIND_ABOVE" "[I") (in_T (List.mem_append_right _ (List.mem_append_right _ (List.mem_append_right _ (List.mem_append_left _ (List.mem_of_getElem? (i := 6) rfl))))))) (hts (.initialized "PicturePegs") (in_T (List.mem_append_left _ (List.mem_of_getElem? (i := 1) rfl)))) e2 hA
  obtain ⟨t3, e3, T3⟩ := va_Tof (args := #[Value.ref b]) (s := s) (tm := (.static "PicturePegs$Acts" "BODY_OF" "[I")) (ty := .int) (N := 24) (f := fun j => .int (pg_t3.getD j 0)) (A := fun q => s.heap.size ≤ q) (by decide) (hs _ fa3) (va_eqt (hs _ fn3)) (fun j hj => va_eqt (hs _ (fe3 j hj))) hA
  have Z3 : va_Z "PicturePegs$Acts" "BODY_OF" "[I" (.ref t3) (fun q => s.heap.size ≤ q) s s.heap := va_Zof (hts (.laysStatic "PicturePegs$Acts" "BODY_OF" "[I") (in_T (List.mem_append_right _ (List.mem_append_right _ (List.mem_append_right _ (List.mem_append_left _ (List.mem_of_getElem? (i := 24) rfl))))))) (hts (.initialized "PicturePegs$Acts") (in_T (List.mem_append_left _ (List.mem_of_getElem? (i := 5) rfl)))) e3 hA
  have Z4 : va_Z "java/lang/String" "COMPACT_STRINGS" "Z" (.int 1) (fun q => s.heap.size ≤ q) s s.heap := va_Zof (hts (.laysStatic "java/lang/String" "COMPACT_STRINGS" "Z") (in_T (List.mem_append_right _ (List.mem_append_left _ (List.mem_of_getElem? (i := 40) rfl))))) (hts (.initialized "java/lang/String") (in_T (List.mem_append_left _ (List.mem_of_getElem? (i := 9) rfl)))) (va_eqt (hs _ fcs)) hA
  obtain ⟨adK, adV, hSt, hEv⟩ := vk_Sof (args := #[Value.ref b]) (s := s) (N := 1) (tm := fun _ => (.string "PicturePegs$Tape" 96)) (len := [140]) (byt := [pg_tx]) (A := fun q => s.heap.size ≤ q) (fun i hi => by
    obtain rfl : i = 0 := by omega
    decide) (fun _ _ => hs _ fsx) (fun _ _ => hs _ fsc) (fun _ _ => hs _ fsa) (fun i hi => by
    obtain rfl : i = 0 := by omega
    exact hs _ fsl) (fun i hi j hj => by
    obtain rfl : i = 0 := by omega
    exact hs _ (feS j hj)) (fun i j hi hj hne => absurd (show i = j by omega) hne) hA
  have S6 : vk_S 1 [140] [pg_tx] (fun _ => adK 0) (fun _ => adV 0) (fun q => s.heap.size ≤ q) s s.heap := ⟨fun i hi => by
    obtain rfl : i = 0 := by omega
    exact hSt.1 0 hi, fun i j hi hj _ => by omega⟩
  have R8 : vk_R "PicturePegs$Tape" 96 "pupil  bishop burglardean   crackertwin   duck   drum   pear   kite   ladder blank  bell   pull   room   chance at     age    had    weighs " (adK 0) s := vk_R.of (hts (.stringRef "PicturePegs$Tape" 96 "pupil  bishop burglardean   crackertwin   duck   drum   pear   kite   ladder blank  bell   pull   room   chance at     age    had    weighs ") (in_T (List.mem_append_right _ (List.mem_append_left _ (List.mem_of_getElem? (i := 30) rfl))))) (hEv 0 (by decide))
  have T7 : va_T .int b L (fun j => .int (xs j)) (fun q => s.heap.size ≤ q) s s.heap := by
    obtain ⟨scr, x1, x2, x3, x4, x5⟩ := hX
    exact ⟨scr, x1, x2, x3, Nat.le_of_eq x4.symm, by rw [x4], x5, hA b hbl⟩
  rcases va_Zqof (A := fun q => s.heap.size ≤ q) (hts (.laysStatic "jdk/internal/util/Preconditions" "SIOOBE_FORMATTER" "Ljava/util/function/BiFunction;") (in_T (List.mem_append_right _ (List.mem_append_left _ (List.mem_of_getElem? (i := 48) rfl))))) (hts (.initialized "jdk/internal/util/Preconditions") (in_T (List.mem_append_left _ (List.mem_of_getElem? (i := 11) rfl)))) (hs _ fsi) hA with hz | ⟨tq, hz⟩
  · exact ⟨fun k => if k = 900 then t0 else if k = 901 then t1 else if k = 902 then t2 else if k = 903 then t3 else if k = 904 then adK 0 else if k = 905 then adV 0 else if k = 906 then b else 0, rfl, ⟨Z0, T0⟩, ⟨Z1, T1⟩, ⟨Z2, T2⟩, ⟨Z3, T3⟩, Z4, Or.inl hz, S6, T7, R8, va_Nw.of rfl (hts _ (in_T (List.mem_append_left _ (List.mem_of_getElem? (i := 34) rfl)))), va_Nw.of rfl (hts _ (in_T (List.mem_append_right _ (List.mem_append_left _ (List.mem_of_getElem? (i := 110) rfl))))), va_Nw.of rfl (hts _ (in_T (List.mem_append_right _ (List.mem_append_right _ (List.mem_append_left _ (List.mem_of_getElem? (i := 168) rfl))))))⟩
  · exact ⟨fun k => if k = 900 then t0 else if k = 901 then t1 else if k = 902 then t2 else if k = 903 then t3 else if k = 904 then adK 0 else if k = 905 then adV 0 else if k = 906 then b else tq, rfl, ⟨Z0, T0⟩, ⟨Z1, T1⟩, ⟨Z2, T2⟩, ⟨Z3, T3⟩, Z4, Or.inr hz, S6, T7, R8, va_Nw.of rfl (hts _ (in_T (List.mem_append_left _ (List.mem_of_getElem? (i := 34) rfl)))), va_Nw.of rfl (hts _ (in_T (List.mem_append_right _ (List.mem_append_left _ (List.mem_of_getElem? (i := 110) rfl))))), va_Nw.of rfl (hts _ (in_T (List.mem_append_right _ (List.mem_append_right _ (List.mem_append_left _ (List.mem_of_getElem? (i := 168) rfl))))))⟩
set_option maxHeartbeats 4000000 in
set_option maxRecDepth 20000 in
theorem k_start {s : State} {b : Nat} (hts : ∀ w ∈ lw_tbl, w.before #[Value.ref b] s = true) : ∃ (D : va_G) (cA : Nat → ClassId), va_K D vwCl (pg_tys cA) s := by
  obtain ⟨d0, i0, K0⟩ := u_known (C := RX0) (T := TX0) (N := 6) (n := 6) hts (fun w h => pg_tb_in (in_ws0 w h)) (hts (.instantiable RX0 6) (in_T (List.mem_append_left _ (List.mem_of_getElem? (i := 132) rfl))))
  obtain ⟨d1, i1, K1⟩ := u_known (C := RX1) (T := TX1) (N := 2) (n := 2) hts (fun w h => pg_tb_in (in_ws1 w h)) (hts (.instantiable RX1 2) (in_T (List.mem_append_left _ (List.mem_of_getElem? (i := 115) rfl))))
  obtain ⟨d2, i2, K2⟩ := u_known (C := RX2) (T := TX2) (N := 3) (n := 3) hts (fun w h => pg_tb_in (in_ws2 w h)) (hts (.instantiable RX2 3) (in_T (List.mem_append_left _ (List.mem_of_getElem? (i := 162) rfl))))
  obtain ⟨d3, i3, K3⟩ := u_known (C := RX3) (T := TX3) (N := 4) (n := 4) hts (fun w h => pg_tb_in (in_ws3 w h)) (hts (.instantiable RX3 4) (in_T (List.mem_append_left _ (List.mem_of_getElem? (i := 182) rfl))))
  obtain ⟨d4, i4, K4⟩ := u_known (C := RX4) (T := TX4) (N := 7) (n := 7) hts (fun w h => pg_tb_in (in_ws4 w h)) (hts (.instantiable RX4 7) (in_T (List.mem_append_left _ (List.mem_of_getElem? (i := 85) rfl))))
  obtain ⟨d5, i5, K5⟩ := u_known (C := RX5) (T := TX5) (N := 11) (n := 11) hts (fun w h => pg_tb_in (in_ws5 w h)) (hts (.instantiable RX5 11) (in_T (List.mem_append_left _ (List.mem_of_getElem? (i := 25) rfl))))
  obtain ⟨d6, i6, K6⟩ := u_known (C := RX6) (T := TX6) (N := 10) (n := 10) hts (fun w h => pg_tb_in (in_ws6 w h)) (hts (.instantiable RX6 10) (in_T (List.mem_append_left _ (List.mem_of_getElem? (i := 17) rfl))))
  obtain ⟨d7, i7, K7⟩ := u_known (C := RX7) (T := TX7) (N := 29) (n := 29) hts (fun w h => pg_tb_in (in_ws7 w h)) (hts (.instantiable RX7 29) (in_T (List.mem_append_right _ (List.mem_append_right _ (List.mem_append_right _ (List.mem_append_left _ (List.mem_of_getElem? (i := 58) rfl)))))))
  obtain ⟨c0, k0, m0, a01, a02, a03⟩ := Cond.arrayClass_spec (hts (.arrayClass .int) (in_T (List.mem_append_left _ (List.mem_of_getElem? (i := 83) rfl))))
  obtain ⟨c1, k1, m1, a11, a12, a13⟩ := Cond.arrayClass_spec (hts (.arrayClass .long) (in_T (List.mem_append_right _ (List.mem_append_right _ (List.mem_append_right _ (List.mem_append_left _ (List.mem_of_getElem? (i := 154) rfl)))))))
  obtain ⟨c2, k2, m2, a21, a22, a23⟩ := Cond.arrayClass_spec (hts (.arrayClass .byte) (in_T (List.mem_append_left _ (List.mem_of_getElem? (i := 113) rfl))))
  obtain ⟨m3, c3, k3, a31, _, a32, a33, a34⟩ := Cond.arrayOver_spec (hts (.arrayOver (.object "PicturePegs$Sheet")) (in_T (List.mem_append_left _ (List.mem_of_getElem? (i := 159) rfl))))
  obtain ⟨m4, c4, k4, a41, _, a42, a43, a44⟩ := Cond.arrayOver_spec (hts (.arrayOver (.object "PicturePegs$Shelf")) (in_T (List.mem_append_left _ (List.mem_of_getElem? (i := 161) rfl))))
  obtain ⟨m5, c5, k5, a51, _, a52, a53, a54⟩ := arrayOverA_spec (hts (.arrayOver (.array .int)) (in_T (List.mem_append_left _ (List.mem_of_getElem? (i := 121) rfl))))
  refine ⟨(fun k => ([d0, d1, d2, d3, d4, d5, d6, d7] : List ClassId).getD k d0, fun k => ([i0, i1, i2, i3, i4, i5, i6, i7] : List (Nat → Nat)).getD k i0), fun k => ([c0, c1, c2, c3, c4, c5] : List ClassId).getD k c0, ?_, ?_⟩
  · intro k q hq
    match k, hq with
    | 0, hq => cases hq; exact K0
    | 1, hq => cases hq; exact K1
    | 2, hq => cases hq; exact K2
    | 3, hq => cases hq; exact K3
    | 4, hq => cases hq; exact K4
    | 5, hq => cases hq; exact K5
    | 6, hq => cases hq; exact K6
    | 7, hq => cases hq; exact K7
    | k + 8, hq => cases hq
  · intro k q hq
    match k, hq with
    | 0, hq => cases hq; exact ⟨fun N z => ⟨(fun k h => by cases h), k0, a02, m0, a03⟩, a01⟩
    | 1, hq => cases hq; exact ⟨fun N z => ⟨(fun k h => by cases h), k1, a12, m1, a13⟩, a11⟩
    | 2, hq => cases hq; exact ⟨fun N z => ⟨(fun k h => by cases h), k2, a22, m2, a23⟩, a21⟩
    | 3, hq => cases hq; exact ⟨fun N z => ⟨(fun k h => by cases h), k3, a32, m3, a33⟩, k3, m3, a32, a33, a31, a34⟩
    | 4, hq => cases hq; exact ⟨fun N z => ⟨(fun k h => by cases h), k4, a42, m4, a43⟩, k4, m4, a42, a43, a41, a44⟩
    | 5, hq => cases hq; exact ⟨fun N z => ⟨(fun k h => by cases h), k5, a52, m5, a53⟩, a54⟩
    | k + 6, hq => cases hq
theorem an_start {s : State} {b : Nat} (hts : ∀ w ∈ lw_tbl, w.before #[Value.ref b] s = true) : pg_AN s := ⟨⟨va_AO.of (hts (.arrayOver (.object "PicturePegs$Sheet")) (in_T (List.mem_append_left _ (List.mem_of_getElem? (i := 159) rfl)))), va_AO.of (hts (.arrayOver (.object "PicturePegs$Shelf")) (in_T (List.mem_append_left _ (List.mem_of_getElem? (i := 161) rfl)))), (hts (.arrayOver (.array .int)) (in_T (List.mem_append_left _ (List.mem_of_getElem? (i := 121) rfl))))⟩, va_Nw.of rfl (hts _ (in_T (List.mem_append_left _ (List.mem_of_getElem? (i := 86) rfl)))), va_Nw.of rfl (hts _ (in_T (List.mem_append_left _ (List.mem_of_getElem? (i := 116) rfl)))), va_Nw.of rfl (hts _ (in_T (List.mem_append_left _ (List.mem_of_getElem? (i := 133) rfl)))), va_Nw.of rfl (hts _ (in_T (List.mem_append_left _ (List.mem_of_getElem? (i := 163) rfl)))), va_Nw.of rfl (hts _ (in_T (List.mem_append_left _ (List.mem_of_getElem? (i := 183) rfl))))⟩
def rfs : pg_Sh → List Nat
  | .inl (_, _, rs) => rs
  | .inr (_, fs) => fs.filterMap (fun f => if f < 2 then none else some (f - 2))
theorem el_cong {ad ad' : Nat → Nat} {cA : Nat → ClassId} {g g' : pg_S} {k : Nat} (x : pg_Sh) (h1 : g'.1 k = g.1 k) (h2 : g'.2 k = g.2 k) (h : ∀ r ∈ rfs x, ad' r = ad r) : pg_el ad' cA g' k x = pg_el ad cA g k x := by
  rcases x with ⟨t, n, rs⟩ | ⟨c, fs⟩
  · match t with
    | 0 => simp only [pg_el, h1]
    | 1 => simp only [pg_el, h2]
    | 2 => simp only [pg_el, h1]
    | t + 3 =>
      have e : (fun i : Nat => (rs[i]?).map ad') = fun i => (rs[i]?).map ad := by
        funext i
        cases hr : rs[i]? with
        | none => rfl
        | some r => exact congrArg some (h r (List.mem_of_getElem? hr))
      simp only [pg_el, e]
  · have e : fs.mapIdx (fun j f => pg_fv ad' g' k j f) = fs.mapIdx (fun j f => pg_fv ad g k j f) := by
      apply List.ext_getElem?
      intro i
      rw [List.getElem?_mapIdx, List.getElem?_mapIdx]
      cases hf : fs[i]? with
      | none => rfl
      | some f =>
        match f, hf with
        | 0, hf => simp only [Option.map_some, pg_fv, h1]
        | 1, hf => simp only [Option.map_some, pg_fv, h2]
        | r + 2, hf =>
          have : ad' r = ad r := h r (List.mem_filterMap.mpr ⟨r + 2, List.mem_of_getElem? hf, by rw [if_neg (by omega)]; rfl⟩)
          simp only [Option.map_some, pg_fv, this]
    simp only [pg_el, e]
theorem rf_lo : (pg_sh.take 59).all (fun x => (rfs x).all (fun r => decide (r < 59))) = true := by decide +kernel
theorem rf_hi : (pg_sh.drop 59).all (fun x => (rfs x).all (fun r => decide (59 ≤ r ∧ r < 75))) = true := by decide +kernel
theorem ws_take {ad ad' : Nat → Nat} {cA : Nat → ClassId} {g g' : pg_S} (h : ∀ k, k < 59 → ad' k = ad k) (h1 : ∀ k, k < 59 → g'.1 k = g.1 k) (h2 : ∀ k, k < 59 → g'.2 k = g.2 k) : (pg_ws ad' cA g').take 59 = (pg_ws ad cA g).take 59 := by
  apply List.ext_getElem?
  intro k
  by_cases hk : k < 59
  · rw [List.getElem?_take_of_lt hk, List.getElem?_take_of_lt hk]
    unfold pg_ws
    rw [List.getElem?_mapIdx, List.getElem?_mapIdx]
    cases hx : pg_sh[k]? with
    | none => rfl
    | some x =>
      have hm : x ∈ pg_sh.take 59 := List.mem_of_getElem? (i := k) (by rw [List.getElem?_take_of_lt hk]; exact hx)
      have hr := List.all_eq_true.mp (List.all_eq_true.mp rf_lo x hm)
      simp only [Option.map_some, h k hk, el_cong x (h1 k hk) (h2 k hk) (fun r hr2 => h r (of_decide_eq_true (hr r hr2)))]
  · rw [List.getElem?_eq_none (by rw [List.length_take]; omega), List.getElem?_eq_none (by rw [List.length_take]; omega)]
theorem ws_drop {ad ad' : Nat → Nat} {cA : Nat → ClassId} {g g' : pg_S} (h : ∀ k, 59 ≤ k → k < 75 → ad' k = ad k) (h1 : ∀ k, 59 ≤ k → k < 75 → g'.1 k = g.1 k) (h2 : ∀ k, 59 ≤ k → k < 75 → g'.2 k = g.2 k) : (pg_ws ad' cA g').drop 59 = (pg_ws ad cA g).drop 59 := by
  apply List.ext_getElem?
  intro k
  rw [List.getElem?_drop, List.getElem?_drop]
  unfold pg_ws
  rw [List.getElem?_mapIdx, List.getElem?_mapIdx]
  cases hx : pg_sh[59 + k]? with
  | none => rfl
  | some x =>
    have hl : 59 + k < 75 := (List.getElem?_eq_some_iff.mp hx).1
    have hm : x ∈ pg_sh.drop 59 := List.mem_of_getElem? (i := k) (by rw [List.getElem?_drop]; exact hx)
    have hr := List.all_eq_true.mp (List.all_eq_true.mp rf_hi x hm)
    simp only [Option.map_some, h (59 + k) (by omega) hl, el_cong x (h1 (59 + k) (by omega) hl) (h2 (59 + k) (by omega) hl) (fun r hr2 => h r (of_decide_eq_true (hr r hr2)).1 (of_decide_eq_true (hr r hr2)).2)]
theorem inv_start {g g6 g7 : pg_S} (i6 : ini6 g6) (i7 : ini7 g7) (h6 : ∀ k, k < 59 → g.1 k = g6.1 k) (h7 : ∀ k, 59 ≤ k → k < 75 → g.1 k = g7.1 k) : INV g := by
  obtain ⟨a1, a2, a3, a4, a5, a6, a7⟩ := i6
  obtain ⟨b1, b2, b3, b4, b5, b6, b7⟩ := i7
  have e59 := h7 59 (by decide) (by decide)
  refine ⟨⟨T0F 1, 0, ?_, ?_, T0F_wf 1⟩, ⟨fun _ => 0, 0, ⟨?_, by omega, fun j hj => absurd hj (by omega)⟩, ⟨?_, by omega, fun j hj => absurd hj (by omega)⟩⟩, ⟨0, by omega, ?_, ?_, fun j hj => absurd hj (by omega)⟩, fun s hs => ?_, ⟨fun _ => 2, fun _ => 0, fun _ => 0, fun s hs => ?_⟩, ⟨0, by omega, ?_, ?_, fun j hj => absurd hj (by omega)⟩, Or.inl ⟨?_, ?_⟩⟩
  · obtain ⟨q1, q2, q3, q4, q5⟩ := a1
    refine ⟨q1, fun j hj => ?_, fun j hj => ?_, fun j hj => ?_, fun k hk1 hk2 j hj => absurd hj (by omega)⟩
    · rw [h6 1 (by decide)]; exact q2 j hj
    · rw [h6 (1 + 1) (by decide)]; exact q3 j hj
    · rw [h6 (1 + 2) (by decide)]; exact q4 j hj
  · unfold MR at b1 ⊢
    rw [h7 60 (by decide) (by decide)]; exact b1
  · rw [h6 28 (by decide)]; exact a2
  · rw [e59]; exact b2
  · rw [h6 30 (by decide)]; exact a3
  · rw [e59]; exact b3
  · refine ⟨0, 0, by omega, by omega, ?_, ?_, ?_, ?_, fun j hj => absurd hj (by omega)⟩
    · rw [h6 _ (by omega)]; exact (a4 s hs).2
    · rw [h7 69 (by decide) (by decide)]; exact (b4 s hs).2
    · rw [h6 _ (by omega), (a4 s hs).1]; rfl
    · rw [h7 68 (by decide) (by decide), (b4 s hs).1]; rfl
  · refine ⟨⟨?_, fun q => absurd (show (2 : Int32) = 0 from q) (by decide), fun q => absurd (show (2 : Int32) = 1 from q) (by decide)⟩, ⟨?_, fun q => absurd (show (2 : Int32) = 0 from q) (by decide), fun q => absurd (show (2 : Int32) = 1 from q) (by decide)⟩, Or.inr (Or.inr rfl)⟩
    · rw [h6 _ (by omega)]; exact a5 s hs
    · rw [h7 71 (by decide) (by decide), b5 s hs]; rfl
  · rw [h6 42 (by decide)]; exact a6
  · rw [e59]; exact b6
  · rw [h6 0 (by decide)]; exact a7
  · rw [e59]; exact b7
