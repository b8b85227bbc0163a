theorem oiRX0_3 : Cond.methodLink RX0 3 objectInit ∈ pg_tb := in_t1 (List.mem_of_getElem? (i := 136) rfl) rfl
theorem oi_inst : Cond.instanceMethod objectInit ∈ pg_tb := in_t1 (List.mem_of_getElem? (i := 22) rfl) rfl
theorem oi_code : Cond.code objectInit ⟨#[0xb1]⟩ 1 none ∈ pg_tb := in_t1 (List.mem_of_getElem? (i := 23) rfl) rfl
theorem aw_int : Cond.arrayClass .int ∈ pg_tb := in_t1 (List.mem_of_getElem? (i := 83) rfl) rfl
theorem fwRX0_11 : Cond.fieldLink RX0 11 "PicturePegs$Acts" "bodies" "[I" ∈ pg_tb := in_t1 (List.mem_of_getElem? (i := 137) rfl) rfl
theorem fwRX0_15 : Cond.fieldLink RX0 15 "PicturePegs$Acts" "ran" "I" ∈ pg_tb := in_t1 (List.mem_of_getElem? (i := 139) rfl) rfl
theorem fwRX0_19 : Cond.fieldLink RX0 19 "PicturePegs$Acts" "kind" "I" ∈ pg_tb := in_t1 (List.mem_of_getElem? (i := 141) rfl) rfl
theorem fwRX0_22 : Cond.fieldLink RX0 22 "PicturePegs$Acts" "number" "I" ∈ pg_tb := in_t1 (List.mem_of_getElem? (i := 142) rfl) rfl
theorem fwRX0_25 : Cond.fieldLink RX0 25 "PicturePegs$Acts" "peg" "I" ∈ pg_tb := in_t1 (List.mem_of_getElem? (i := 143) rfl) rfl
theorem fwRX0_28 : Cond.fieldLink RX0 28 "PicturePegs$Acts" "parted" "Z" ∈ pg_tb := in_t1 (List.mem_of_getElem? (i := 144) rfl) rfl
theorem oiRX1_1 : Cond.methodLink RX1 1 objectInit ∈ pg_tb := in_t1 (List.mem_of_getElem? (i := 119) rfl) rfl
theorem cwRX1_9 : Cond.classLink RX1 9 "[[I" ∈ pg_tb := in_t1 (List.mem_of_getElem? (i := 120) rfl) rfl
theorem fwRX1_11 : Cond.fieldLink RX1 11 "PicturePegs$Rows" "cells" "[[I" ∈ pg_tb := in_t1 (List.mem_of_getElem? (i := 122) rfl) rfl
theorem fwRX1_14 : Cond.fieldLink RX1 14 "PicturePegs$Rows" "count" "I" ∈ pg_tb := in_t1 (List.mem_of_getElem? (i := 124) rfl) rfl
theorem oiRX2_3 : Cond.methodLink RX2 3 objectInit ∈ pg_tb := in_t1 (List.mem_of_getElem? (i := 166) rfl) rfl
theorem fwRX2_9 : Cond.fieldLink RX2 9 "PicturePegs$Sheet" "items" "[I" ∈ pg_tb := in_t1 (List.mem_of_getElem? (i := 167) rfl) rfl
theorem fwRX2_15 : Cond.fieldLink RX2 15 "PicturePegs$Sheet" "sort" "I" ∈ pg_tb := in_t1 (List.mem_of_getElem? (i := 169) rfl) rfl
theorem fwRX2_19 : Cond.fieldLink RX2 19 "PicturePegs$Sheet" "count" "I" ∈ pg_tb := in_t1 (List.mem_of_getElem? (i := 172) rfl) rfl
theorem oiRX3_3 : Cond.methodLink RX3 3 objectInit ∈ pg_tb := in_t1 (List.mem_of_getElem? (i := 186) rfl) rfl
theorem fwRX3_9 : Cond.fieldLink RX3 9 "PicturePegs$Shelf" "holds" "I" ∈ pg_tb := in_t1 (List.mem_of_getElem? (i := 187) rfl) rfl
theorem fwRX3_15 : Cond.fieldLink RX3 15 "PicturePegs$Shelf" "number" "I" ∈ pg_tb := in_t1 (List.mem_of_getElem? (i := 189) rfl) rfl
theorem fwRX3_18 : Cond.fieldLink RX3 18 "PicturePegs$Shelf" "sort" "I" ∈ pg_tb := in_t1 (List.mem_of_getElem? (i := 191) rfl) rfl
theorem fwRX3_21 : Cond.fieldLink RX3 21 "PicturePegs$Shelf" "items" "I" ∈ pg_tb := in_t1 (List.mem_of_getElem? (i := 193) rfl) rfl
theorem oiRX4_3 : Cond.methodLink RX4 3 objectInit ∈ pg_tb := in_t1 (List.mem_of_getElem? (i := 89) rfl) rfl
theorem aw_byte : Cond.arrayClass .byte ∈ pg_tb := in_t1 (List.mem_of_getElem? (i := 113) rfl) rfl
theorem fwRX4_11 : Cond.fieldLink RX4 11 "PicturePegs$Tape" "bytes" "[B" ∈ pg_tb := in_t1 (List.mem_of_getElem? (i := 90) rfl) rfl
theorem fwRX4_15 : Cond.fieldLink RX4 15 "PicturePegs$Tape" "length" "I" ∈ pg_tb := in_t1 (List.mem_of_getElem? (i := 91) rfl) rfl
theorem fwRX4_19 : Cond.fieldLink RX4 19 "PicturePegs$Tape" "next" "I" ∈ pg_tb := in_t1 (List.mem_of_getElem? (i := 93) rfl) rfl
theorem fwRX4_22 : Cond.fieldLink RX4 22 "PicturePegs$Tape" "start" "I" ∈ pg_tb := in_t1 (List.mem_of_getElem? (i := 94) rfl) rfl
theorem fwRX4_25 : Cond.fieldLink RX4 25 "PicturePegs$Tape" "sort" "I" ∈ pg_tb := in_t1 (List.mem_of_getElem? (i := 95) rfl) rfl
theorem fwRX4_28 : Cond.fieldLink RX4 28 "PicturePegs$Tape" "value" "I" ∈ pg_tb := in_t1 (List.mem_of_getElem? (i := 96) rfl) rfl
theorem fwRX4_31 : Cond.fieldLink RX4 31 "PicturePegs$Tape" "number" "I" ∈ pg_tb := in_t1 (List.mem_of_getElem? (i := 97) rfl) rfl
theorem fwRX5_9 : Cond.fieldLink RX5 9 "PicturePegs$Town" "laws" "[I" ∈ pg_tb := in_t1 (List.mem_of_getElem? (i := 36) rfl) rfl
theorem fwRX5_15 : Cond.fieldLink RX5 15 "PicturePegs$Town" "weights" "[I" ∈ pg_tb := in_t1 (List.mem_of_getElem? (i := 39) rfl) rfl
theorem fwRX5_36 : Cond.fieldLink RX5 36 "PicturePegs$Town" "people" "I" ∈ pg_tb := in_t1 (List.mem_of_getElem? (i := 53) rfl) rfl
theorem fwRX5_40 : Cond.fieldLink RX5 40 "PicturePegs$Town" "hour" "I" ∈ pg_tb := in_t1 (List.mem_of_getElem? (i := 56) rfl) rfl
theorem oiRX5_3 : Cond.methodLink RX5 3 objectInit ∈ pg_tb := in_t1 (List.mem_of_getElem? (i := 29) rfl) rfl
theorem fwRX5_18 : Cond.fieldLink RX5 18 "PicturePegs$Town" "kinds" "[I" ∈ pg_tb := in_t1 (List.mem_of_getElem? (i := 42) rfl) rfl
theorem fwRX5_21 : Cond.fieldLink RX5 21 "PicturePegs$Town" "pegs" "[I" ∈ pg_tb := in_t1 (List.mem_of_getElem? (i := 44) rfl) rfl
theorem fwRX5_24 : Cond.fieldLink RX5 24 "PicturePegs$Town" "ages" "[I" ∈ pg_tb := in_t1 (List.mem_of_getElem? (i := 46) rfl) rfl
theorem fwRX5_27 : Cond.fieldLink RX5 27 "PicturePegs$Town" "places" "[I" ∈ pg_tb := in_t1 (List.mem_of_getElem? (i := 48) rfl) rfl
theorem fwRX5_30 : Cond.fieldLink RX5 30 "PicturePegs$Town" "knows" "[I" ∈ pg_tb := in_t1 (List.mem_of_getElem? (i := 50) rfl) rfl
theorem fwRX5_33 : Cond.fieldLink RX5 33 "PicturePegs$Town" "leaning" "[I" ∈ pg_tb := in_t1 (List.mem_of_getElem? (i := 52) rfl) rfl
theorem fwRX5_43 : Cond.fieldLink RX5 43 "PicturePegs$Town" "z" "I" ∈ pg_tb := in_t1 (List.mem_of_getElem? (i := 58) rfl) rfl
theorem mlRX5_46 : Cond.methodLink RX5 46 mX5_startAnew.1 ∈ pg_tb := in_t1 (List.mem_of_getElem? (i := 30) rfl) rfl
theorem mi_X5_startAnew : Cond.instanceMethod mX5_startAnew.1 ∈ pg_tb := in_t1 (List.mem_of_getElem? (i := 31) rfl) rfl
theorem mn_X5_startAnew : Cond.initialized mX5_startAnew.1.cls ∈ pg_tb := in_t1 (List.mem_of_getElem? (i := 2) rfl) rfl
theorem ms_X5_startAnew : Cond.selects mX5_startAnew.1.cls mX5_startAnew.1 mX5_startAnew.1 ∈ pg_tb := in_t1 (List.mem_of_getElem? (i := 32) rfl) rfl
set_option maxHeartbeats 4000000 in
set_option maxRecDepth 20000 in
theorem iX0_init {sc : pg_Sc} {ad : Nat → Nat} {D : va_G} {cA : Nat → ClassId} (h0 : Nat) : qg_C sc mX0_init 1 1 30 [.ref h0] ad D cA [(h0, .inr (0, [.null, .int 0, .int 0, .int 0, .int 0, .int 0]))] (fun u : Nat => True) (fun u : Nat => [(h0, .inr (0, [.ref u, .int 0, .int 0, .int 0, .int 0, .int 0])), (u, .inl (cA 0, 30, .inl (fun _ => 0)))]) := by
  refine qg_C.of rfl (Nat.le_of_ble_eq_true rfl) rfl rfl ?_
  intro p l e s m args below meth c A Z ls hF hP hD hl ret
  obtain ⟨hx, hb, hml, hown, htb, hK, hA, hRO, hAO, hin⟩ := hF
  have hS : va_S A s.heap s.heap [] := va_S.rf
  have hin : meth.name = "<init>" := hin
  have hl : lv_has ls 1 [(0, .ref h0)] := hl
  refine lv_aload_n hx hb dX0_init_0 rfl (lv_at hl 0 rfl) ?_
  refine W.objInit hx hb hown (htb _ oiRX0_3) (htb _ oi_inst) (htb _ oi_code) rfl (by rw [hml]; exact hl.1) rfl dX0_init_1 (Nat.le_of_ble_eq_true rfl) (Nat.le_of_ble_eq_true rfl) ?_
  refine W.eq (g2 := F0 m 4 ls []) rfl ?_
  refine lv_aload_n hx hb dX0_init_4 rfl (lv_at hl 0 rfl) ?_
  refine lv_bipush (v := 30) hx hb dX0_init_5 (by decide) ?_
  refine qg_newa (a0 := (30, .inl (fun _ => 0))) (N' := 30) (atype := .int) (ty := .int) hx hb (htb _ aw_int) rfl hK hP hD hS hA 0 rfl (fun _ _ h => h) (fun _ => rfl) (by decide) (by decide) (show 30 * 4 ≤ 536870912 by decide) (Nat.le_of_ble_eq_true rfl) (Nat.le_of_ble_eq_true rfl) dX0_init_7 (fun q1 H hP hD hS => ?_)
  have hP : va_P D vwCl [(h0, .inr (0, [.null, .int 0, .int 0, .int 0, .int 0, .int 0])), (q1, .inl (cA 0, 30, .inl (fun _ => 0)))] H := hP
  have hD : va_D A [(h0, .inr (0, [.null, .int 0, .int 0, .int 0, .int 0, .int 0])), (q1, .inl (cA 0, 30, .inl (fun _ => 0)))] := hD
  refine va_putF (ci := 0) (v := .ref q1) (ty := tyX0 0) (C := RX0) (T := TX0) (N := 6) hx hb htb in_ws0 tyX0 tyX0_ok nmX0 hown hK hP hD hS 0 rfl rfl 0 (by decide) (htb _ fwRX0_11) (fun _ h => h) rfl hin rfl (tyX0_ok 0 (by decide)) rfl rfl (Nat.le_of_ble_eq_true rfl) dX0_init_9 (fun H locs hP hD hS => ?_)
  have hP : va_P D vwCl [(h0, .inr (0, [.ref q1, .int 0, .int 0, .int 0, .int 0, .int 0])), (q1, .inl (cA 0, 30, .inl (fun _ => 0)))] H := hP
  have hD : va_D A [(h0, .inr (0, [.ref q1, .int 0, .int 0, .int 0, .int 0, .int 0])), (q1, .inl (cA 0, 30, .inl (fun _ => 0)))] := hD
  refine lv_aload_n hx hb dX0_init_12 rfl (lv_at hl 0 rfl) ?_
  refine lv_iconst (v := 0) hx hb dX0_init_13 (by decide) ?_
  refine va_put (ci := 0) (v := .int 0) (ty := tyX0 1) (C := RX0) (T := TX0) (N := 6) hx hb htb in_ws0 tyX0 tyX0_ok nmX0 hown hK hP hD hS 0 rfl rfl 1 (by decide) (htb _ fwRX0_15) (fun _ h => h) rfl (tyX0_ok 1 (by decide)) rfl rfl (Nat.le_of_ble_eq_true rfl) dX0_init_14 (fun H locs hP hD hS => ?_)
  have hP : va_P D vwCl [(h0, .inr (0, [.ref q1, .int 0, .int 0, .int 0, .int 0, .int 0])), (q1, .inl (cA 0, 30, .inl (fun _ => 0)))] H := hP
  have hD : va_D A [(h0, .inr (0, [.ref q1, .int 0, .int 0, .int 0, .int 0, .int 0])), (q1, .inl (cA 0, 30, .inl (fun _ => 0)))] := hD
  refine lv_aload_n hx hb dX0_init_17 rfl (lv_at hl 0 rfl) ?_
  refine lv_iconst (v := 0) hx hb dX0_init_18 (by decide) ?_
  refine va_put (ci := 0) (v := .int 0) (ty := tyX0 2) (C := RX0) (T := TX0) (N := 6) hx hb htb in_ws0 tyX0 tyX0_ok nmX0 hown hK hP hD hS 0 rfl rfl 2 (by decide) (htb _ fwRX0_19) (fun _ h => h) rfl (tyX0_ok 2 (by decide)) rfl rfl (Nat.le_of_ble_eq_true rfl) dX0_init_19 (fun H locs hP hD hS => ?_)
  have hP : va_P D vwCl [(h0, .inr (0, [.ref q1, .int 0, .int 0, .int 0, .int 0, .int 0])), (q1, .inl (cA 0, 30, .inl (fun _ => 0)))] H := hP
  have hD : va_D A [(h0, .inr (0, [.ref q1, .int 0, .int 0, .int 0, .int 0, .int 0])), (q1, .inl (cA 0, 30, .inl (fun _ => 0)))] := hD
  refine lv_aload_n hx hb dX0_init_22 rfl (lv_at hl 0 rfl) ?_
  refine lv_iconst (v := 0) hx hb dX0_init_23 (by decide) ?_
  refine va_put (ci := 0) (v := .int 0) (ty := tyX0 3) (C := RX0) (T := TX0) (N := 6) hx hb htb in_ws0 tyX0 tyX0_ok nmX0 hown hK hP hD hS 0 rfl rfl 3 (by decide) (htb _ fwRX0_22) (fun _ h => h) rfl (tyX0_ok 3 (by decide)) rfl rfl (Nat.le_of_ble_eq_true rfl) dX0_init_24 (fun H locs hP hD hS => ?_)
  have hP : va_P D vwCl [(h0, .inr (0, [.ref q1, .int 0, .int 0, .int 0, .int 0, .int 0])), (q1, .inl (cA 0, 30, .inl (fun _ => 0)))] H := hP
  have hD : va_D A [(h0, .inr (0, [.ref q1, .int 0, .int 0, .int 0, .int 0, .int 0])), (q1, .inl (cA 0, 30, .inl (fun _ => 0)))] := hD
  refine lv_aload_n hx hb dX0_init_27 rfl (lv_at hl 0 rfl) ?_
  refine lv_iconst (v := 0) hx hb dX0_init_28 (by decide) ?_
  refine va_put (ci := 0) (v := .int 0) (ty := tyX0 4) (C := RX0) (T := TX0) (N := 6) hx hb htb in_ws0 tyX0 tyX0_ok nmX0 hown hK hP hD hS 0 rfl rfl 4 (by decide) (htb _ fwRX0_25) (fun _ h => h) rfl (tyX0_ok 4 (by decide)) rfl rfl (Nat.le_of_ble_eq_true rfl) dX0_init_29 (fun H locs hP hD hS => ?_)
  have hP : va_P D vwCl [(h0, .inr (0, [.ref q1, .int 0, .int 0, .int 0, .int 0, .int 0])), (q1, .inl (cA 0, 30, .inl (fun _ => 0)))] H := hP
  have hD : va_D A [(h0, .inr (0, [.ref q1, .int 0, .int 0, .int 0, .int 0, .int 0])), (q1, .inl (cA 0, 30, .inl (fun _ => 0)))] := hD
  refine lv_aload_n hx hb dX0_init_32 rfl (lv_at hl 0 rfl) ?_
  refine lv_iconst (v := 0) hx hb dX0_init_33 (by decide) ?_
  refine va_put (ci := 0) (v := .int 0) (ty := tyX0 5) (C := RX0) (T := TX0) (N := 6) hx hb htb in_ws0 tyX0 tyX0_ok nmX0 hown hK hP hD hS 0 rfl rfl 5 (by decide) (htb _ fwRX0_28) (fun _ h => h) rfl (tyX0_ok 5 (by decide)) rfl rfl (Nat.le_of_ble_eq_true rfl) dX0_init_34 (fun H locs hP hD hS => ?_)
  have hP : va_P D vwCl [(h0, .inr (0, [.ref q1, .int 0, .int 0, .int 0, .int 0, .int 0])), (q1, .inl (cA 0, 30, .inl (fun _ => 0)))] H := hP
  have hD : va_D A [(h0, .inr (0, [.ref q1, .int 0, .int 0, .int 0, .int 0, .int 0])), (q1, .inl (cA 0, 30, .inl (fun _ => 0)))] := hD
  refine W.widen (k := 1) (n := 30) (Nat.le_of_ble_eq_true rfl) (Nat.le_of_ble_eq_true rfl) ?_
  exact ret 37 ls H locs q1 dX0_init_37 trivial (hP.sub [0, 1] rfl) (hD.sub [0, 1] (by decide) rfl) hS
set_option maxHeartbeats 4000000 in
set_option maxRecDepth 20000 in
theorem iX1_init {sc : pg_Sc} {ad : Nat → Nat} {D : va_G} {cA : Nat → ClassId} (h0 : Nat) : qg_C sc mX1_init 1 11 40 [.ref h0] ad D cA [(h0, .inr (1, [.null, .int 0]))] (fun u : Nat => True) (fun u : Nat => [(h0, .inr (1, [.ref u, .int 0])), (u, .inl (cA 5, 10, .inr (.inr (.inr (.inr (fun i => ([u + 1 + 0, u + 1 + 1, u + 1 + 2, u + 1 + 3, u + 1 + 4, u + 1 + 5, u + 1 + 6, u + 1 + 7, u + 1 + 8, u + 1 + 9] : List Nat)[i]?)))))), (u + 1 + 0, .inl (cA 0, 3, .inl (fun _ => 0))), (u + 1 + 1, .inl (cA 0, 3, .inl (fun _ => 0))), (u + 1 + 2, .inl (cA 0, 3, .inl (fun _ => 0))), (u + 1 + 3, .inl (cA 0, 3, .inl (fun _ => 0))), (u + 1 + 4, .inl (cA 0, 3, .inl (fun _ => 0))), (u + 1 + 5, .inl (cA 0, 3, .inl (fun _ => 0))), (u + 1 + 6, .inl (cA 0, 3, .inl (fun _ => 0))), (u + 1 + 7, .inl (cA 0, 3, .inl (fun _ => 0))), (u + 1 + 8, .inl (cA 0, 3, .inl (fun _ => 0))), (u + 1 + 9, .inl (cA 0, 3, .inl (fun _ => 0)))]) := by
  refine qg_C.of rfl (Nat.le_of_ble_eq_true rfl) rfl rfl ?_
  intro p l e s m args below meth c A Z ls hF hP hD hl ret
  obtain ⟨hx, hb, hml, hown, htb, hK, hA, hRO, hAO, hin⟩ := hF
  have hS : va_S A s.heap s.heap [] := va_S.rf
  have hin : meth.name = "<init>" := hin
  have hl : lv_has ls 1 [(0, .ref h0)] := hl
  refine lv_aload_n hx hb dX1_init_0 rfl (lv_at hl 0 rfl) ?_
  refine W.objInit hx hb hown (htb _ oiRX1_1) (htb _ oi_inst) (htb _ oi_code) rfl (by rw [hml]; exact hl.1) rfl dX1_init_1 (Nat.le_of_ble_eq_true rfl) (Nat.le_of_ble_eq_true rfl) ?_
  refine W.eq (g2 := F0 m 4 ls []) rfl ?_
  refine lv_aload_n hx hb dX1_init_4 rfl (lv_at hl 0 rfl) ?_
  refine lv_bipush (v := 10) hx hb dX1_init_5 (by decide) ?_
  refine lv_iconst (v := 3) hx hb dX1_init_7 (by decide) ?_
  refine qg_multi hx hb hown (htb _ cwRX1_9) hAO.1.2.2 (htb _ aw_int) hK hP hD hS hA (Nat.le_of_ble_eq_true rfl) (Nat.le_of_ble_eq_true rfl) dX1_init_8 (fun q1 H locs hP hD hS => ?_)
  have hP : va_P D vwCl [(h0, .inr (1, [.null, .int 0])), (q1, .inl (cA 5, 10, .inr (.inr (.inr (.inr (fun i => ([q1 + 1 + 0, q1 + 1 + 1, q1 + 1 + 2, q1 + 1 + 3, q1 + 1 + 4, q1 + 1 + 5, q1 + 1 + 6, q1 + 1 + 7, q1 + 1 + 8, q1 + 1 + 9] : List Nat)[i]?)))))), (q1 + 1 + 0, .inl (cA 0, 3, .inl (fun _ => 0))), (q1 + 1 + 1, .inl (cA 0, 3, .inl (fun _ => 0))), (q1 + 1 + 2, .inl (cA 0, 3, .inl (fun _ => 0))), (q1 + 1 + 3, .inl (cA 0, 3, .inl (fun _ => 0))), (q1 + 1 + 4, .inl (cA 0, 3, .inl (fun _ => 0))), (q1 + 1 + 5, .inl (cA 0, 3, .inl (fun _ => 0))), (q1 + 1 + 6, .inl (cA 0, 3, .inl (fun _ => 0))), (q1 + 1 + 7, .inl (cA 0, 3, .inl (fun _ => 0))), (q1 + 1 + 8, .inl (cA 0, 3, .inl (fun _ => 0))), (q1 + 1 + 9, .inl (cA 0, 3, .inl (fun _ => 0)))] H := hP
  have hD : va_D A [(h0, .inr (1, [.null, .int 0])), (q1, .inl (cA 5, 10, .inr (.inr (.inr (.inr (fun i => ([q1 + 1 + 0, q1 + 1 + 1, q1 + 1 + 2, q1 + 1 + 3, q1 + 1 + 4, q1 + 1 + 5, q1 + 1 + 6, q1 + 1 + 7, q1 + 1 + 8, q1 + 1 + 9] : List Nat)[i]?)))))), (q1 + 1 + 0, .inl (cA 0, 3, .inl (fun _ => 0))), (q1 + 1 + 1, .inl (cA 0, 3, .inl (fun _ => 0))), (q1 + 1 + 2, .inl (cA 0, 3, .inl (fun _ => 0))), (q1 + 1 + 3, .inl (cA 0, 3, .inl (fun _ => 0))), (q1 + 1 + 4, .inl (cA 0, 3, .inl (fun _ => 0))), (q1 + 1 + 5, .inl (cA 0, 3, .inl (fun _ => 0))), (q1 + 1 + 6, .inl (cA 0, 3, .inl (fun _ => 0))), (q1 + 1 + 7, .inl (cA 0, 3, .inl (fun _ => 0))), (q1 + 1 + 8, .inl (cA 0, 3, .inl (fun _ => 0))), (q1 + 1 + 9, .inl (cA 0, 3, .inl (fun _ => 0)))] := hD
  refine va_putF (ci := 1) (v := .ref q1) (ty := tyX1 0) (C := RX1) (T := TX1) (N := 2) hx hb htb in_ws1 tyX1 tyX1_ok nmX1 hown hK hP hD hS 0 rfl rfl 0 (by decide) (htb _ fwRX1_11) (fun _ h => h) rfl hin rfl (tyX1_ok 0 (by decide)) rfl rfl (Nat.le_of_ble_eq_true rfl) dX1_init_12 (fun H locs hP hD hS => ?_)
  have hP : va_P D vwCl [(h0, .inr (1, [.ref q1, .int 0])), (q1, .inl (cA 5, 10, .inr (.inr (.inr (.inr (fun i => ([q1 + 1 + 0, q1 + 1 + 1, q1 + 1 + 2, q1 + 1 + 3, q1 + 1 + 4, q1 + 1 + 5, q1 + 1 + 6, q1 + 1 + 7, q1 + 1 + 8, q1 + 1 + 9] : List Nat)[i]?)))))), (q1 + 1 + 0, .inl (cA 0, 3, .inl (fun _ => 0))), (q1 + 1 + 1, .inl (cA 0, 3, .inl (fun _ => 0))), (q1 + 1 + 2, .inl (cA 0, 3, .inl (fun _ => 0))), (q1 + 1 + 3, .inl (cA 0, 3, .inl (fun _ => 0))), (q1 + 1 + 4, .inl (cA 0, 3, .inl (fun _ => 0))), (q1 + 1 + 5, .inl (cA 0, 3, .inl (fun _ => 0))), (q1 + 1 + 6, .inl (cA 0, 3, .inl (fun _ => 0))), (q1 + 1 + 7, .inl (cA 0, 3, .inl (fun _ => 0))), (q1 + 1 + 8, .inl (cA 0, 3, .inl (fun _ => 0))), (q1 + 1 + 9, .inl (cA 0, 3, .inl (fun _ => 0)))] H := hP
  have hD : va_D A [(h0, .inr (1, [.ref q1, .int 0])), (q1, .inl (cA 5, 10, .inr (.inr (.inr (.inr (fun i => ([q1 + 1 + 0, q1 + 1 + 1, q1 + 1 + 2, q1 + 1 + 3, q1 + 1 + 4, q1 + 1 + 5, q1 + 1 + 6, q1 + 1 + 7, q1 + 1 + 8, q1 + 1 + 9] : List Nat)[i]?)))))), (q1 + 1 + 0, .inl (cA 0, 3, .inl (fun _ => 0))), (q1 + 1 + 1, .inl (cA 0, 3, .inl (fun _ => 0))), (q1 + 1 + 2, .inl (cA 0, 3, .inl (fun _ => 0))), (q1 + 1 + 3, .inl (cA 0, 3, .inl (fun _ => 0))), (q1 + 1 + 4, .inl (cA 0, 3, .inl (fun _ => 0))), (q1 + 1 + 5, .inl (cA 0, 3, .inl (fun _ => 0))), (q1 + 1 + 6, .inl (cA 0, 3, .inl (fun _ => 0))), (q1 + 1 + 7, .inl (cA 0, 3, .inl (fun _ => 0))), (q1 + 1 + 8, .inl (cA 0, 3, .inl (fun _ => 0))), (q1 + 1 + 9, .inl (cA 0, 3, .inl (fun _ => 0)))] := hD
  refine lv_aload_n hx hb dX1_init_15 rfl (lv_at hl 0 rfl) ?_
  refine lv_iconst (v := 0) hx hb dX1_init_16 (by decide) ?_
  refine va_put (ci := 1) (v := .int 0) (ty := tyX1 1) (C := RX1) (T := TX1) (N := 2) hx hb htb in_ws1 tyX1 tyX1_ok nmX1 hown hK hP hD hS 0 rfl rfl 1 (by decide) (htb _ fwRX1_14) (fun _ h => h) rfl (tyX1_ok 1 (by decide)) rfl rfl (Nat.le_of_ble_eq_true rfl) dX1_init_17 (fun H locs hP hD hS => ?_)
  have hP : va_P D vwCl [(h0, .inr (1, [.ref q1, .int 0])), (q1, .inl (cA 5, 10, .inr (.inr (.inr (.inr (fun i => ([q1 + 1 + 0, q1 + 1 + 1, q1 + 1 + 2, q1 + 1 + 3, q1 + 1 + 4, q1 + 1 + 5, q1 + 1 + 6, q1 + 1 + 7, q1 + 1 + 8, q1 + 1 + 9] : List Nat)[i]?)))))), (q1 + 1 + 0, .inl (cA 0, 3, .inl (fun _ => 0))), (q1 + 1 + 1, .inl (cA 0, 3, .inl (fun _ => 0))), (q1 + 1 + 2, .inl (cA 0, 3, .inl (fun _ => 0))), (q1 + 1 + 3, .inl (cA 0, 3, .inl (fun _ => 0))), (q1 + 1 + 4, .inl (cA 0, 3, .inl (fun _ => 0))), (q1 + 1 + 5, .inl (cA 0, 3, .inl (fun _ => 0))), (q1 + 1 + 6, .inl (cA 0, 3, .inl (fun _ => 0))), (q1 + 1 + 7, .inl (cA 0, 3, .inl (fun _ => 0))), (q1 + 1 + 8, .inl (cA 0, 3, .inl (fun _ => 0))), (q1 + 1 + 9, .inl (cA 0, 3, .inl (fun _ => 0)))] H := hP
  have hD : va_D A [(h0, .inr (1, [.ref q1, .int 0])), (q1, .inl (cA 5, 10, .inr (.inr (.inr (.inr (fun i => ([q1 + 1 + 0, q1 + 1 + 1, q1 + 1 + 2, q1 + 1 + 3, q1 + 1 + 4, q1 + 1 + 5, q1 + 1 + 6, q1 + 1 + 7, q1 + 1 + 8, q1 + 1 + 9] : List Nat)[i]?)))))), (q1 + 1 + 0, .inl (cA 0, 3, .inl (fun _ => 0))), (q1 + 1 + 1, .inl (cA 0, 3, .inl (fun _ => 0))), (q1 + 1 + 2, .inl (cA 0, 3, .inl (fun _ => 0))), (q1 + 1 + 3, .inl (cA 0, 3, .inl (fun _ => 0))), (q1 + 1 + 4, .inl (cA 0, 3, .inl (fun _ => 0))), (q1 + 1 + 5, .inl (cA 0, 3, .inl (fun _ => 0))), (q1 + 1 + 6, .inl (cA 0, 3, .inl (fun _ => 0))), (q1 + 1 + 7, .inl (cA 0, 3, .inl (fun _ => 0))), (q1 + 1 + 8, .inl (cA 0, 3, .inl (fun _ => 0))), (q1 + 1 + 9, .inl (cA 0, 3, .inl (fun _ => 0)))] := hD
  refine W.widen (k := 11) (n := 40) (Nat.le_of_ble_eq_true rfl) (Nat.le_of_ble_eq_true rfl) ?_
  exact ret 20 ls H locs q1 dX1_init_20 trivial (hP.sub [0, 1, 2, 3, 4, 5, 6, 7, 8, 9, 10, 11] rfl) (hD.sub [0, 1, 2, 3, 4, 5, 6, 7, 8, 9, 10, 11] (by decide) rfl) hS
set_option maxHeartbeats 4000000 in
set_option maxRecDepth 20000 in
theorem iX2_init {sc : pg_Sc} {ad : Nat → Nat} {D : va_G} {cA : Nat → ClassId} (h0 : Nat) : qg_C sc mX2_init 1 1 40 [.ref h0] ad D cA [(h0, .inr (2, [.null, .int 0, .int 0]))] (fun u : Nat => True) (fun u : Nat => [(h0, .inr (2, [.ref u, .int (-1), .int 0])), (u, .inl (cA 0, 40, .inl (fun _ => 0)))]) := by
  refine qg_C.of rfl (Nat.le_of_ble_eq_true rfl) rfl rfl ?_
  intro p l e s m args below meth c A Z ls hF hP hD hl ret
  obtain ⟨hx, hb, hml, hown, htb, hK, hA, hRO, hAO, hin⟩ := hF
  have hS : va_S A s.heap s.heap [] := va_S.rf
  have hin : meth.name = "<init>" := hin
  have hl : lv_has ls 1 [(0, .ref h0)] := hl
  refine lv_aload_n hx hb dX2_init_0 rfl (lv_at hl 0 rfl) ?_
  refine W.objInit hx hb hown (htb _ oiRX2_3) (htb _ oi_inst) (htb _ oi_code) rfl (by rw [hml]; exact hl.1) rfl dX2_init_1 (Nat.le_of_ble_eq_true rfl) (Nat.le_of_ble_eq_true rfl) ?_
  refine W.eq (g2 := F0 m 4 ls []) rfl ?_
  refine lv_aload_n hx hb dX2_init_4 rfl (lv_at hl 0 rfl) ?_
  refine lv_bipush (v := 40) hx hb dX2_init_5 (by decide) ?_
  refine qg_newa (a0 := (40, .inl (fun _ => 0))) (N' := 40) (atype := .int) (ty := .int) hx hb (htb _ aw_int) rfl hK hP hD hS hA 0 rfl (fun _ _ h => h) (fun _ => rfl) (by decide) (by decide) (show 40 * 4 ≤ 536870912 by decide) (Nat.le_of_ble_eq_true rfl) (Nat.le_of_ble_eq_true rfl) dX2_init_7 (fun q1 H hP hD hS => ?_)
  have hP : va_P D vwCl [(h0, .inr (2, [.null, .int 0, .int 0])), (q1, .inl (cA 0, 40, .inl (fun _ => 0)))] H := hP
  have hD : va_D A [(h0, .inr (2, [.null, .int 0, .int 0])), (q1, .inl (cA 0, 40, .inl (fun _ => 0)))] := hD
  refine va_putF (ci := 2) (v := .ref q1) (ty := tyX2 0) (C := RX2) (T := TX2) (N := 3) hx hb htb in_ws2 tyX2 tyX2_ok nmX2 hown hK hP hD hS 0 rfl rfl 0 (by decide) (htb _ fwRX2_9) (fun _ h => h) rfl hin rfl (tyX2_ok 0 (by decide)) rfl rfl (Nat.le_of_ble_eq_true rfl) dX2_init_9 (fun H locs hP hD hS => ?_)
  have hP : va_P D vwCl [(h0, .inr (2, [.ref q1, .int 0, .int 0])), (q1, .inl (cA 0, 40, .inl (fun _ => 0)))] H := hP
  have hD : va_D A [(h0, .inr (2, [.ref q1, .int 0, .int 0])), (q1, .inl (cA 0, 40, .inl (fun _ => 0)))] := hD
  refine lv_aload_n hx hb dX2_init_12 rfl (lv_at hl 0 rfl) ?_
  refine lv_iconst (v := (-1)) hx hb dX2_init_13 (by decide) ?_
  refine va_put (ci := 2) (v := .int (-1)) (ty := tyX2 1) (C := RX2) (T := TX2) (N := 3) hx hb htb in_ws2 tyX2 tyX2_ok nmX2 hown hK hP hD hS 0 rfl rfl 1 (by decide) (htb _ fwRX2_15) (fun _ h => h) rfl (tyX2_ok 1 (by decide)) rfl rfl (Nat.le_of_ble_eq_true rfl) dX2_init_14 (fun H locs hP hD hS => ?_)
  have hP : va_P D vwCl [(h0, .inr (2, [.ref q1, .int (-1), .int 0])), (q1, .inl (cA 0, 40, .inl (fun _ => 0)))] H := hP
  have hD : va_D A [(h0, .inr (2, [.ref q1, .int (-1), .int 0])), (q1, .inl (cA 0, 40, .inl (fun _ => 0)))] := hD
  refine lv_aload_n hx hb dX2_init_17 rfl (lv_at hl 0 rfl) ?_
  refine lv_iconst (v := 0) hx hb dX2_init_18 (by decide) ?_
  refine va_put (ci := 2) (v := .int 0) (ty := tyX2 2) (C := RX2) (T := TX2) (N := 3) hx hb htb in_ws2 tyX2 tyX2_ok nmX2 hown hK hP hD hS 0 rfl rfl 2 (by decide) (htb _ fwRX2_19) (fun _ h => h) rfl (tyX2_ok 2 (by decide)) rfl rfl (Nat.le_of_ble_eq_true rfl) dX2_init_19 (fun H locs hP hD hS => ?_)
  have hP : va_P D vwCl [(h0, .inr (2, [.ref q1, .int (-1), .int 0])), (q1, .inl (cA 0, 40, .inl (fun _ => 0)))] H := hP
  have hD : va_D A [(h0, .inr (2, [.ref q1, .int (-1), .int 0])), (q1, .inl (cA 0, 40, .inl (fun _ => 0)))] := hD
  refine W.widen (k := 1) (n := 40) (Nat.le_of_ble_eq_true rfl) (Nat.le_of_ble_eq_true rfl) ?_
  exact ret 22 ls H locs q1 dX2_init_22 trivial (hP.sub [0, 1] rfl) (hD.sub [0, 1] (by decide) rfl) hS
set_option maxHeartbeats 4000000 in
set_option maxRecDepth 20000 in
theorem iX3_init {sc : pg_Sc} {ad : Nat → Nat} {D : va_G} {cA : Nat → ClassId} (h0 : Nat) : qg_C sc mX3_init 1 0 0 [.ref h0] ad D cA [(h0, .inr (3, [.int 0, .int 0, .int 0, .int 0]))] (fun u : Unit => True) (fun u : Unit => [(h0, .inr (3, [.int 2, .int 0, .int (-1), .int 0]))]) := by
  refine qg_C.of rfl (Nat.le_of_ble_eq_true rfl) rfl rfl ?_
  intro p l e s m args below meth c A Z ls hF hP hD hl ret
  obtain ⟨hx, hb, hml, hown, htb, hK, hA, hRO, hAO, hin⟩ := hF
  have hS : va_S A s.heap s.heap [] := va_S.rf
  have hin : meth.name = "<init>" := hin
  have hl : lv_has ls 1 [(0, .ref h0)] := hl
  refine lv_aload_n hx hb dX3_init_0 rfl (lv_at hl 0 rfl) ?_
  refine W.objInit hx hb hown (htb _ oiRX3_3) (htb _ oi_inst) (htb _ oi_code) rfl (by rw [hml]; exact hl.1) rfl dX3_init_1 (Nat.le_of_ble_eq_true rfl) (Nat.le_of_ble_eq_true rfl) ?_
  refine W.eq (g2 := F0 m 4 ls []) rfl ?_
  refine lv_aload_n hx hb dX3_init_4 rfl (lv_at hl 0 rfl) ?_
  refine lv_iconst (v := 2) hx hb dX3_init_5 (by decide) ?_
  refine va_put (ci := 3) (v := .int 2) (ty := tyX3 0) (C := RX3) (T := TX3) (N := 4) hx hb htb in_ws3 tyX3 tyX3_ok nmX3 hown hK hP hD hS 0 rfl rfl 0 (by decide) (htb _ fwRX3_9) (fun _ h => h) rfl (tyX3_ok 0 (by decide)) rfl rfl (Nat.le_of_ble_eq_true rfl) dX3_init_6 (fun H locs hP hD hS => ?_)
  have hP : va_P D vwCl [(h0, .inr (3, [.int 2, .int 0, .int 0, .int 0]))] H := hP
  have hD : va_D A [(h0, .inr (3, [.int 2, .int 0, .int 0, .int 0]))] := hD
  refine lv_aload_n hx hb dX3_init_9 rfl (lv_at hl 0 rfl) ?_
  refine lv_iconst (v := 0) hx hb dX3_init_10 (by decide) ?_
  refine va_put (ci := 3) (v := .int 0) (ty := tyX3 1) (C := RX3) (T := TX3) (N := 4) hx hb htb in_ws3 tyX3 tyX3_ok nmX3 hown hK hP hD hS 0 rfl rfl 1 (by decide) (htb _ fwRX3_15) (fun _ h => h) rfl (tyX3_ok 1 (by decide)) rfl rfl (Nat.le_of_ble_eq_true rfl) dX3_init_11 (fun H locs hP hD hS => ?_)
  have hP : va_P D vwCl [(h0, .inr (3, [.int 2, .int 0, .int 0, .int 0]))] H := hP
  have hD : va_D A [(h0, .inr (3, [.int 2, .int 0, .int 0, .int 0]))] := hD
  refine lv_aload_n hx hb dX3_init_14 rfl (lv_at hl 0 rfl) ?_
  refine lv_iconst (v := (-1)) hx hb dX3_init_15 (by decide) ?_
  refine va_put (ci := 3) (v := .int (-1)) (ty := tyX3 2) (C := RX3) (T := TX3) (N := 4) hx hb htb in_ws3 tyX3 tyX3_ok nmX3 hown hK hP hD hS 0 rfl rfl 2 (by decide) (htb _ fwRX3_18) (fun _ h => h) rfl (tyX3_ok 2 (by decide)) rfl rfl (Nat.le_of_ble_eq_true rfl) dX3_init_16 (fun H locs hP hD hS => ?_)
  have hP : va_P D vwCl [(h0, .inr (3, [.int 2, .int 0, .int (-1), .int 0]))] H := hP
  have hD : va_D A [(h0, .inr (3, [.int 2, .int 0, .int (-1), .int 0]))] := hD
  refine lv_aload_n hx hb dX3_init_19 rfl (lv_at hl 0 rfl) ?_
  refine lv_iconst (v := 0) hx hb dX3_init_20 (by decide) ?_
  refine va_put (ci := 3) (v := .int 0) (ty := tyX3 3) (C := RX3) (T := TX3) (N := 4) hx hb htb in_ws3 tyX3 tyX3_ok nmX3 hown hK hP hD hS 0 rfl rfl 3 (by decide) (htb _ fwRX3_21) (fun _ h => h) rfl (tyX3_ok 3 (by decide)) rfl rfl (Nat.le_of_ble_eq_true rfl) dX3_init_21 (fun H locs hP hD hS => ?_)
  have hP : va_P D vwCl [(h0, .inr (3, [.int 2, .int 0, .int (-1), .int 0]))] H := hP
  have hD : va_D A [(h0, .inr (3, [.int 2, .int 0, .int (-1), .int 0]))] := hD
  refine W.widen (k := 0) (n := 0) (Nat.le_of_ble_eq_true rfl) (Nat.le_of_ble_eq_true rfl) ?_
  exact ret 24 ls H locs () dX3_init_24 trivial (hP.sub [0] rfl) (hD.sub [0] (by decide) rfl) hS
set_option maxHeartbeats 4000000 in
set_option maxRecDepth 20000 in
theorem iX4_init {sc : pg_Sc} {ad : Nat → Nat} {D : va_G} {cA : Nat → ClassId} (h0 : Nat) : qg_C sc mX4_init 1 1 200 [.ref h0] ad D cA [(h0, .inr (4, [.null, .int 0, .int 0, .int 0, .int 0, .int 0, .int 0]))] (fun u : Nat => True) (fun u : Nat => [(h0, .inr (4, [.ref u, .int 0, .int 0, .int 0, .int 0, .int 0, .int 0])), (u, .inl (cA 2, 200, .inl (fun _ => 0)))]) := by
  refine qg_C.of rfl (Nat.le_of_ble_eq_true rfl) rfl rfl ?_
  intro p l e s m args below meth c A Z ls hF hP hD hl ret
  obtain ⟨hx, hb, hml, hown, htb, hK, hA, hRO, hAO, hin⟩ := hF
  have hS : va_S A s.heap s.heap [] := va_S.rf
  have hin : meth.name = "<init>" := hin
  have hl : lv_has ls 1 [(0, .ref h0)] := hl
  refine lv_aload_n hx hb dX4_init_0 rfl (lv_at hl 0 rfl) ?_
  refine W.objInit hx hb hown (htb _ oiRX4_3) (htb _ oi_inst) (htb _ oi_code) rfl (by rw [hml]; exact hl.1) rfl dX4_init_1 (Nat.le_of_ble_eq_true rfl) (Nat.le_of_ble_eq_true rfl) ?_
  refine W.eq (g2 := F0 m 4 ls []) rfl ?_
  refine lv_aload_n hx hb dX4_init_4 rfl (lv_at hl 0 rfl) ?_
  refine lv_sipush (v := 200) hx hb dX4_init_5 (by decide) ?_
  refine qg_newa (a0 := (200, .inl (fun _ => 0))) (N' := 200) (atype := .byte) (ty := .byte) hx hb (htb _ aw_byte) rfl hK hP hD hS hA 2 rfl (fun _ _ h => h) (fun _ => rfl) (by decide) (by decide) (show 200 * 1 ≤ 536870912 by decide) (Nat.le_of_ble_eq_true rfl) (Nat.le_of_ble_eq_true rfl) dX4_init_8 (fun q1 H hP hD hS => ?_)
  have hP : va_P D vwCl [(h0, .inr (4, [.null, .int 0, .int 0, .int 0, .int 0, .int 0, .int 0])), (q1, .inl (cA 2, 200, .inl (fun _ => 0)))] H := hP
  have hD : va_D A [(h0, .inr (4, [.null, .int 0, .int 0, .int 0, .int 0, .int 0, .int 0])), (q1, .inl (cA 2, 200, .inl (fun _ => 0)))] := hD
  refine va_putF (ci := 4) (v := .ref q1) (ty := tyX4 0) (C := RX4) (T := TX4) (N := 7) hx hb htb in_ws4 tyX4 tyX4_ok nmX4 hown hK hP hD hS 0 rfl rfl 0 (by decide) (htb _ fwRX4_11) (fun _ h => h) rfl hin rfl (tyX4_ok 0 (by decide)) rfl rfl (Nat.le_of_ble_eq_true rfl) dX4_init_10 (fun H locs hP hD hS => ?_)
  have hP : va_P D vwCl [(h0, .inr (4, [.ref q1, .int 0, .int 0, .int 0, .int 0, .int 0, .int 0])), (q1, .inl (cA 2, 200, .inl (fun _ => 0)))] H := hP
  have hD : va_D A [(h0, .inr (4, [.ref q1, .int 0, .int 0, .int 0, .int 0, .int 0, .int 0])), (q1, .inl (cA 2, 200, .inl (fun _ => 0)))] := hD
  refine lv_aload_n hx hb dX4_init_13 rfl (lv_at hl 0 rfl) ?_
  refine lv_iconst (v := 0) hx hb dX4_init_14 (by decide) ?_
  refine va_put (ci := 4) (v := .int 0) (ty := tyX4 1) (C := RX4) (T := TX4) (N := 7) hx hb htb in_ws4 tyX4 tyX4_ok nmX4 hown hK hP hD hS 0 rfl rfl 1 (by decide) (htb _ fwRX4_15) (fun _ h => h) rfl (tyX4_ok 1 (by decide)) rfl rfl (Nat.le_of_ble_eq_true rfl) dX4_init_15 (fun H locs hP hD hS => ?_)
  have hP : va_P D vwCl [(h0, .inr (4, [.ref q1, .int 0, .int 0, .int 0, .int 0, .int 0, .int 0])), (q1, .inl (cA 2, 200, .inl (fun _ => 0)))] H := hP
  have hD : va_D A [(h0, .inr (4, [.ref q1, .int 0, .int 0, .int 0, .int 0, .int 0, .int 0])), (q1, .inl (cA 2, 200, .inl (fun _ => 0)))] := hD
  refine lv_aload_n hx hb dX4_init_18 rfl (lv_at hl 0 rfl) ?_
  refine lv_iconst (v := 0) hx hb dX4_init_19 (by decide) ?_
  refine va_put (ci := 4) (v := .int 0) (ty := tyX4 2) (C := RX4) (T := TX4) (N := 7) hx hb htb in_ws4 tyX4 tyX4_ok nmX4 hown hK hP hD hS 0 rfl rfl 2 (by decide) (htb _ fwRX4_19) (fun _ h => h) rfl (tyX4_ok 2 (by decide)) rfl rfl (Nat.le_of_ble_eq_true rfl) dX4_init_20 (fun H locs hP hD hS => ?_)
  have hP : va_P D vwCl [(h0, .inr (4, [.ref q1, .int 0, .int 0, .int 0, .int 0, .int 0, .int 0])), (q1, .inl (cA 2, 200, .inl (fun _ => 0)))] H := hP
  have hD : va_D A [(h0, .inr (4, [.ref q1, .int 0, .int 0, .int 0, .int 0, .int 0, .int 0])), (q1, .inl (cA 2, 200, .inl (fun _ => 0)))] := hD
  refine lv_aload_n hx hb dX4_init_23 rfl (lv_at hl 0 rfl) ?_
  refine lv_iconst (v := 0) hx hb dX4_init_24 (by decide) ?_
  refine va_put (ci := 4) (v := .int 0) (ty := tyX4 3) (C := RX4) (T := TX4) (N := 7) hx hb htb in_ws4 tyX4 tyX4_ok nmX4 hown hK hP hD hS 0 rfl rfl 3 (by decide) (htb _ fwRX4_22) (fun _ h => h) rfl (tyX4_ok 3 (by decide)) rfl rfl (Nat.le_of_ble_eq_true rfl) dX4_init_25 (fun H locs hP hD hS => ?_)
  have hP : va_P D vwCl [(h0, .inr (4, [.ref q1, .int 0, .int 0, .int 0, .int 0, .int 0, .int 0])), (q1, .inl (cA 2, 200, .inl (fun _ => 0)))] H := hP
  have hD : va_D A [(h0, .inr (4, [.ref q1, .int 0, .int 0, .int 0, .int 0, .int 0, .int 0])), (q1, .inl (cA 2, 200, .inl (fun _ => 0)))] := hD
  refine lv_aload_n hx hb dX4_init_28 rfl (lv_at hl 0 rfl) ?_
  refine lv_iconst (v := 0) hx hb dX4_init_29 (by decide) ?_
  refine va_put (ci := 4) (v := .int 0) (ty := tyX4 4) (C := RX4) (T := TX4) (N := 7) hx hb htb in_ws4 tyX4 tyX4_ok nmX4 hown hK hP hD hS 0 rfl rfl 4 (by decide) (htb _ fwRX4_25) (fun _ h => h) rfl (tyX4_ok 4 (by decide)) rfl rfl (Nat.le_of_ble_eq_true rfl) dX4_init_30 (fun H locs hP hD hS => ?_)
  have hP : va_P D vwCl [(h0, .inr (4, [.ref q1, .int 0, .int 0, .int 0, .int 0, .int 0, .int 0])), (q1, .inl (cA 2, 200, .inl (fun _ => 0)))] H := hP
  have hD : va_D A [(h0, .inr (4, [.ref q1, .int 0, .int 0, .int 0, .int 0, .int 0, .int 0])), (q1, .inl (cA 2, 200, .inl (fun _ => 0)))] := hD
  refine lv_aload_n hx hb dX4_init_33 rfl (lv_at hl 0 rfl) ?_
  refine lv_iconst (v := 0) hx hb dX4_init_34 (by decide) ?_
  refine va_put (ci := 4) (v := .int 0) (ty := tyX4 5) (C := RX4) (T := TX4) (N := 7) hx hb htb in_ws4 tyX4 tyX4_ok nmX4 hown hK hP hD hS 0 rfl rfl 5 (by decide) (htb _ fwRX4_28) (fun _ h => h) rfl (tyX4_ok 5 (by decide)) rfl rfl (Nat.le_of_ble_eq_true rfl) dX4_init_35 (fun H locs hP hD hS => ?_)
  have hP : va_P D vwCl [(h0, .inr (4, [.ref q1, .int 0, .int 0, .int 0, .int 0, .int 0, .int 0])), (q1, .inl (cA 2, 200, .inl (fun _ => 0)))] H := hP
  have hD : va_D A [(h0, .inr (4, [.ref q1, .int 0, .int 0, .int 0, .int 0, .int 0, .int 0])), (q1, .inl (cA 2, 200, .inl (fun _ => 0)))] := hD
  refine lv_aload_n hx hb dX4_init_38 rfl (lv_at hl 0 rfl) ?_
  refine lv_iconst (v := 0) hx hb dX4_init_39 (by decide) ?_
  refine va_put (ci := 4) (v := .int 0) (ty := tyX4 6) (C := RX4) (T := TX4) (N := 7) hx hb htb in_ws4 tyX4 tyX4_ok nmX4 hown hK hP hD hS 0 rfl rfl 6 (by decide) (htb _ fwRX4_31) (fun _ h => h) rfl (tyX4_ok 6 (by decide)) rfl rfl (Nat.le_of_ble_eq_true rfl) dX4_init_40 (fun H locs hP hD hS => ?_)
  have hP : va_P D vwCl [(h0, .inr (4, [.ref q1, .int 0, .int 0, .int 0, .int 0, .int 0, .int 0])), (q1, .inl (cA 2, 200, .inl (fun _ => 0)))] H := hP
  have hD : va_D A [(h0, .inr (4, [.ref q1, .int 0, .int 0, .int 0, .int 0, .int 0, .int 0])), (q1, .inl (cA 2, 200, .inl (fun _ => 0)))] := hD
  refine W.widen (k := 1) (n := 200) (Nat.le_of_ble_eq_true rfl) (Nat.le_of_ble_eq_true rfl) ?_
  exact ret 43 ls H locs q1 dX4_init_43 trivial (hP.sub [0, 1] rfl) (hD.sub [0, 1] (by decide) rfl) hS
set_option maxHeartbeats 4000000 in
set_option maxRecDepth 20000 in
theorem iX5_startAnew {sc : pg_Sc} {ad : Nat → Nat} {D : va_G} {cA : Nat → ClassId} (h0 f0 f1 f2 f3 f4 f5 f6 f7 : Nat) (pe hr z : Int32) (La We : Nat → Int32) : qg_C sc mX5_startAnew 1 0 0 [.ref h0] ad D cA [(h0, .inr (5, [.ref f0, .ref f1, .ref f2, .ref f3, .ref f4, .ref f5, .ref f6, .ref f7, .int pe, .int hr, .int z])), (f0, .inl (cA 0, 4, .inl La)), (f1, .inl (cA 0, 6, .inl We))] (fun u : (Nat → Int32) × (Nat → Int32) => (∀ i, i < 4 → u.1 i = pg_t0.getD i 0) ∧ ∀ i, i < 6 → u.2 i = if i = 5 then 0 else 30) (fun u : (Nat → Int32) × (Nat → Int32) => [(h0, .inr (5, [.ref f0, .ref f1, .ref f2, .ref f3, .ref f4, .ref f5, .ref f6, .ref f7, .int 0, .int 0, .int z])), (f0, .inl (cA 0, 4, .inl u.1)), (f1, .inl (cA 0, 6, .inl u.2))]) := by
  refine qg_C.of rfl (Nat.le_of_ble_eq_true rfl) rfl rfl ?_
  intro p l e s m args below meth c A Z ls hF hP hD hl ret
  obtain ⟨hx, hb, hml, hown, htb, hK, hA, hRO, hAO, hin⟩ := hF
  have hS : va_S A s.heap s.heap [] := va_S.rf
  have hl : lv_has ls 2 [(0, .ref h0)] := hl
  obtain ⟨⟨ro1, ro2⟩, _, _, _, _, _, _, _, _, ro10, _, _⟩ := id hRO
  refine lv_iconst (v := 0) hx hb dX5_startAnew_0 (by decide) ?_
  refine lv_istore_n (lv' := [(1, .int 0), (0, .ref h0)]) hx hb dX5_startAnew_1 rfl hl (by decide) rfl (fun ls hl => ?_)
  refine lv_iload_n hx hb dX5_startAnew_2 rfl (lv_at hl 0 rfl) ?_
  refine lv_iconst (v := 4) hx hb dX5_startAnew_3 (by decide) ?_
  refine lv_icmp_ge (tgt := 24) hx hb dX5_startAnew_4 (by decide) (fun hh => absurd hh (by decide)) (fun _ => ?_)
  refine lv_aload_n hx hb dX5_startAnew_7 rfl (lv_at hl 1 rfl) ?_
  refine va_get (ci := 5) (v := .ref f0) (C := RX5) (T := TX5) (N := 11) hx hb htb in_ws5 hown hK hP 0 rfl rfl 0 (by decide) (htb _ fwRX5_9) (fun _ h => h) rfl dX5_startAnew_8 ?_
  refine lv_iload_n hx hb dX5_startAnew_11 rfl (lv_at hl 0 rfl) ?_
  refine va_getsN hx hb ro1 hS hown (va_Nw.use rfl ro10) (fun _ h => h) dX5_startAnew_12 ?_
  refine lv_iload_n hx hb dX5_startAnew_15 rfl (lv_at hl 0 rfl) ?_
  refine va_ti (v := .int 4) (i := 0) hx hb ro2 hS (by unfold vp_in; decide) (by rfl) dX5_startAnew_16 ?_
  refine va_iast (x := 4) (i := 0) hx hb hK hP hD hS 1 0 rfl rfl (by unfold vp_in; decide) dX5_startAnew_17 (fun H locs hP hD hS => ?_)
  have hP : va_P D vwCl [(h0, .inr (5, [.ref f0, .ref f1, .ref f2, .ref f3, .ref f4, .ref f5, .ref f6, .ref f7, .int pe, .int hr, .int z])), (f0, .inl (cA 0, 4, .inl (upd La ((0 : Int32).toNatClampNeg) 4))), (f1, .inl (cA 0, 6, .inl We))] H := hP
  have hD : va_D A [(h0, .inr (5, [.ref f0, .ref f1, .ref f2, .ref f3, .ref f4, .ref f5, .ref f6, .ref f7, .int pe, .int hr, .int z])), (f0, .inl (cA 0, 4, .inl (upd La ((0 : Int32).toNatClampNeg) 4))), (f1, .inl (cA 0, 6, .inl We))] := hD
  refine lv_iinc (v := 1) (k := 0) (lv' := [(1, .int 1), (0, .ref h0)]) hx hb dX5_startAnew_18 hl rfl (by decide) (by decide) rfl (fun ls hl => ?_)
  refine lv_goto (tgt := 2) hx hb dX5_startAnew_21 (by decide) ?_
  refine lv_iload_n hx hb dX5_startAnew_2 rfl (lv_at hl 0 rfl) ?_
  refine lv_iconst (v := 4) hx hb dX5_startAnew_3 (by decide) ?_
  refine lv_icmp_ge (tgt := 24) hx hb dX5_startAnew_4 (by decide) (fun hh => absurd hh (by decide)) (fun _ => ?_)
  refine lv_aload_n hx hb dX5_startAnew_7 rfl (lv_at hl 1 rfl) ?_
  refine va_get (ci := 5) (v := .ref f0) (C := RX5) (T := TX5) (N := 11) hx hb htb in_ws5 hown hK hP 0 rfl rfl 0 (by decide) (htb _ fwRX5_9) (fun _ h => h) rfl dX5_startAnew_8 ?_
  refine lv_iload_n hx hb dX5_startAnew_11 rfl (lv_at hl 0 rfl) ?_
  refine va_getsN hx hb ro1 hS hown (va_Nw.use rfl ro10) (fun _ h => h) dX5_startAnew_12 ?_
  refine lv_iload_n hx hb dX5_startAnew_15 rfl (lv_at hl 0 rfl) ?_
  refine va_ti (v := .int 1) (i := 1) hx hb ro2 hS (by unfold vp_in; decide) (by rfl) dX5_startAnew_16 ?_
  refine va_iast (x := 1) (i := 1) hx hb hK hP hD hS 1 0 rfl rfl (by unfold vp_in; decide) dX5_startAnew_17 (fun H locs hP hD hS => ?_)
  have hP : va_P D vwCl [(h0, .inr (5, [.ref f0, .ref f1, .ref f2, .ref f3, .ref f4, .ref f5, .ref f6, .ref f7, .int pe, .int hr, .int z])), (f0, .inl (cA 0, 4, .inl (upd (upd La ((0 : Int32).toNatClampNeg) 4) ((1 : Int32).toNatClampNeg) 1))), (f1, .inl (cA 0, 6, .inl We))] H := hP
  have hD : va_D A [(h0, .inr (5, [.ref f0, .ref f1, .ref f2, .ref f3, .ref f4, .ref f5, .ref f6, .ref f7, .int pe, .int hr, .int z])), (f0, .inl (cA 0, 4, .inl (upd (upd La ((0 : Int32).toNatClampNeg) 4) ((1 : Int32).toNatClampNeg) 1))), (f1, .inl (cA 0, 6, .inl We))] := hD
  refine lv_iinc (v := 2) (k := 0) (lv' := [(1, .int 2), (0, .ref h0)]) hx hb dX5_startAnew_18 hl rfl (by decide) (by decide) rfl (fun ls hl => ?_)
  refine lv_goto (tgt := 2) hx hb dX5_startAnew_21 (by decide) ?_
  refine lv_iload_n hx hb dX5_startAnew_2 rfl (lv_at hl 0 rfl) ?_
  refine lv_iconst (v := 4) hx hb dX5_startAnew_3 (by decide) ?_
  refine lv_icmp_ge (tgt := 24) hx hb dX5_startAnew_4 (by decide) (fun hh => absurd hh (by decide)) (fun _ => ?_)
  refine lv_aload_n hx hb dX5_startAnew_7 rfl (lv_at hl 1 rfl) ?_
  refine va_get (ci := 5) (v := .ref f0) (C := RX5) (T := TX5) (N := 11) hx hb htb in_ws5 hown hK hP 0 rfl rfl 0 (by decide) (htb _ fwRX5_9) (fun _ h => h) rfl dX5_startAnew_8 ?_
  refine lv_iload_n hx hb dX5_startAnew_11 rfl (lv_at hl 0 rfl) ?_
  refine va_getsN hx hb ro1 hS hown (va_Nw.use rfl ro10) (fun _ h => h) dX5_startAnew_12 ?_
  refine lv_iload_n hx hb dX5_startAnew_15 rfl (lv_at hl 0 rfl) ?_
  refine va_ti (v := .int 2) (i := 2) hx hb ro2 hS (by unfold vp_in; decide) (by rfl) dX5_startAnew_16 ?_
  refine va_iast (x := 2) (i := 2) hx hb hK hP hD hS 1 0 rfl rfl (by unfold vp_in; decide) dX5_startAnew_17 (fun H locs hP hD hS => ?_)
  have hP : va_P D vwCl [(h0, .inr (5, [.ref f0, .ref f1, .ref f2, .ref f3, .ref f4, .ref f5, .ref f6, .ref f7, .int pe, .int hr, .int z])), (f0, .inl (cA 0, 4, .inl (upd (upd (upd La ((0 : Int32).toNatClampNeg) 4) ((1 : Int32).toNatClampNeg) 1) ((2 : Int32).toNatClampNeg) 2))), (f1, .inl (cA 0, 6, .inl We))] H := hP
  have hD : va_D A [(h0, .inr (5, [.ref f0, .ref f1, .ref f2, .ref f3, .ref f4, .ref f5, .ref f6, .ref f7, .int pe, .int hr, .int z])), (f0, .inl (cA 0, 4, .inl (upd (upd (upd La ((0 : Int32).toNatClampNeg) 4) ((1 : Int32).toNatClampNeg) 1) ((2 : Int32).toNatClampNeg) 2))), (f1, .inl (cA 0, 6, .inl We))] := hD
  refine lv_iinc (v := 3) (k := 0) (lv' := [(1, .int 3), (0, .ref h0)]) hx hb dX5_startAnew_18 hl rfl (by decide) (by decide) rfl (fun ls hl => ?_)
  refine lv_goto (tgt := 2) hx hb dX5_startAnew_21 (by decide) ?_
  refine lv_iload_n hx hb dX5_startAnew_2 rfl (lv_at hl 0 rfl) ?_
  refine lv_iconst (v := 4) hx hb dX5_startAnew_3 (by decide) ?_
  refine lv_icmp_ge (tgt := 24) hx hb dX5_startAnew_4 (by decide) (fun hh => absurd hh (by decide)) (fun _ => ?_)
  refine lv_aload_n hx hb dX5_startAnew_7 rfl (lv_at hl 1 rfl) ?_
  refine va_get (ci := 5) (v := .ref f0) (C := RX5) (T := TX5) (N := 11) hx hb htb in_ws5 hown hK hP 0 rfl rfl 0 (by decide) (htb _ fwRX5_9) (fun _ h => h) rfl dX5_startAnew_8 ?_
  refine lv_iload_n hx hb dX5_startAnew_11 rfl (lv_at hl 0 rfl) ?_
  refine va_getsN hx hb ro1 hS hown (va_Nw.use rfl ro10) (fun _ h => h) dX5_startAnew_12 ?_
  refine lv_iload_n hx hb dX5_startAnew_15 rfl (lv_at hl 0 rfl) ?_
  refine va_ti (v := .int 20) (i := 3) hx hb ro2 hS (by unfold vp_in; decide) (by rfl) dX5_startAnew_16 ?_
  refine va_iast (x := 20) (i := 3) hx hb hK hP hD hS 1 0 rfl rfl (by unfold vp_in; decide) dX5_startAnew_17 (fun H locs hP hD hS => ?_)
  have hP : va_P D vwCl [(h0, .inr (5, [.ref f0, .ref f1, .ref f2, .ref f3, .ref f4, .ref f5, .ref f6, .ref f7, .int pe, .int hr, .int z])), (f0, .inl (cA 0, 4, .inl (upd (upd (upd (upd La ((0 : Int32).toNatClampNeg) 4) ((1 : Int32).toNatClampNeg) 1) ((2 : Int32).toNatClampNeg) 2) ((3 : Int32).toNatClampNeg) 20))), (f1, .inl (cA 0, 6, .inl We))] H := hP
  have hD : va_D A [(h0, .inr (5, [.ref f0, .ref f1, .ref f2, .ref f3, .ref f4, .ref f5, .ref f6, .ref f7, .int pe, .int hr, .int z])), (f0, .inl (cA 0, 4, .inl (upd (upd (upd (upd La ((0 : Int32).toNatClampNeg) 4) ((1 : Int32).toNatClampNeg) 1) ((2 : Int32).toNatClampNeg) 2) ((3 : Int32).toNatClampNeg) 20))), (f1, .inl (cA 0, 6, .inl We))] := hD
  refine lv_iinc (v := 4) (k := 0) (lv' := [(1, .int 4), (0, .ref h0)]) hx hb dX5_startAnew_18 hl rfl (by decide) (by decide) rfl (fun ls hl => ?_)
  refine lv_goto (tgt := 2) hx hb dX5_startAnew_21 (by decide) ?_
  refine lv_iload_n hx hb dX5_startAnew_2 rfl (lv_at hl 0 rfl) ?_
  refine lv_iconst (v := 4) hx hb dX5_startAnew_3 (by decide) ?_
  refine lv_icmp_ge (tgt := 24) hx hb dX5_startAnew_4 (by decide) (fun _ => ?_) (fun hh => absurd (by decide) hh)
  refine lv_iconst (v := 0) hx hb dX5_startAnew_24 (by decide) ?_
  refine lv_istore_n (lv' := [(1, .int 0), (0, .ref h0)]) hx hb dX5_startAnew_25 rfl hl (by decide) rfl (fun ls hl => ?_)
  refine lv_iload_n hx hb dX5_startAnew_26 rfl (lv_at hl 0 rfl) ?_
  refine lv_bipush (v := 6) hx hb dX5_startAnew_27 (by decide) ?_
  refine lv_icmp_ge (tgt := 55) hx hb dX5_startAnew_29 (by decide) (fun hh => absurd hh (by decide)) (fun _ => ?_)
  refine lv_aload_n hx hb dX5_startAnew_32 rfl (lv_at hl 1 rfl) ?_
  refine va_get (ci := 5) (v := .ref f1) (C := RX5) (T := TX5) (N := 11) hx hb htb in_ws5 hown hK hP 0 rfl rfl 1 (by decide) (htb _ fwRX5_15) (fun _ h => h) rfl dX5_startAnew_33 ?_
  refine lv_iload_n hx hb dX5_startAnew_36 rfl (lv_at hl 0 rfl) ?_
  refine lv_iload_n hx hb dX5_startAnew_37 rfl (lv_at hl 0 rfl) ?_
  refine lv_iconst (v := 5) hx hb dX5_startAnew_38 (by decide) ?_
  refine lv_icmp_ne (tgt := 46) hx hb dX5_startAnew_39 (by decide) (fun _ => ?_) (fun hh => absurd hh (by decide))
  refine lv_bipush (v := 30) hx hb dX5_startAnew_46 (by decide) ?_
  refine va_iast (x := 30) (i := 0) hx hb hK hP hD hS 2 0 rfl rfl (by unfold vp_in; decide) dX5_startAnew_48 (fun H locs hP hD hS => ?_)
  have hP : va_P D vwCl [(h0, .inr (5, [.ref f0, .ref f1, .ref f2, .ref f3, .ref f4, .ref f5, .ref f6, .ref f7, .int pe, .int hr, .int z])), (f0, .inl (cA 0, 4, .inl (upd (upd (upd (upd La ((0 : Int32).toNatClampNeg) 4) ((1 : Int32).toNatClampNeg) 1) ((2 : Int32).toNatClampNeg) 2) ((3 : Int32).toNatClampNeg) 20))), (f1, .inl (cA 0, 6, .inl (upd We ((0 : Int32).toNatClampNeg) 30)))] H := hP
  have hD : va_D A [(h0, .inr (5, [.ref f0, .ref f1, .ref f2, .ref f3, .ref f4, .ref f5, .ref f6, .ref f7, .int pe, .int hr, .int z])), (f0, .inl (cA 0, 4, .inl (upd (upd (upd (upd La ((0 : Int32).toNatClampNeg) 4) ((1 : Int32).toNatClampNeg) 1) ((2 : Int32).toNatClampNeg) 2) ((3 : Int32).toNatClampNeg) 20))), (f1, .inl (cA 0, 6, .inl (upd We ((0 : Int32).toNatClampNeg) 30)))] := hD
  refine lv_iinc (v := 1) (k := 0) (lv' := [(1, .int 1), (0, .ref h0)]) hx hb dX5_startAnew_49 hl rfl (by decide) (by decide) rfl (fun ls hl => ?_)
  refine lv_goto (tgt := 26) hx hb dX5_startAnew_52 (by decide) ?_
  refine lv_iload_n hx hb dX5_startAnew_26 rfl (lv_at hl 0 rfl) ?_
  refine lv_bipush (v := 6) hx hb dX5_startAnew_27 (by decide) ?_
  refine lv_icmp_ge (tgt := 55) hx hb dX5_startAnew_29 (by decide) (fun hh => absurd hh (by decide)) (fun _ => ?_)
  refine lv_aload_n hx hb dX5_startAnew_32 rfl (lv_at hl 1 rfl) ?_
  refine va_get (ci := 5) (v := .ref f1) (C := RX5) (T := TX5) (N := 11) hx hb htb in_ws5 hown hK hP 0 rfl rfl 1 (by decide) (htb _ fwRX5_15) (fun _ h => h) rfl dX5_startAnew_33 ?_
  refine lv_iload_n hx hb dX5_startAnew_36 rfl (lv_at hl 0 rfl) ?_
  refine lv_iload_n hx hb dX5_startAnew_37 rfl (lv_at hl 0 rfl) ?_
  refine lv_iconst (v := 5) hx hb dX5_startAnew_38 (by decide) ?_
  refine lv_icmp_ne (tgt := 46) hx hb dX5_startAnew_39 (by decide) (fun _ => ?_) (fun hh => absurd hh (by decide))
  refine lv_bipush (v := 30) hx hb dX5_startAnew_46 (by decide) ?_
  refine va_iast (x := 30) (i := 1) hx hb hK hP hD hS 2 0 rfl rfl (by unfold vp_in; decide) dX5_startAnew_48 (fun H locs hP hD hS => ?_)
  have hP : va_P D vwCl [(h0, .inr (5, [.ref f0, .ref f1, .ref f2, .ref f3, .ref f4, .ref f5, .ref f6, .ref f7, .int pe, .int hr, .int z])), (f0, .inl (cA 0, 4, .inl (upd (upd (upd (upd La ((0 : Int32).toNatClampNeg) 4) ((1 : Int32).toNatClampNeg) 1) ((2 : Int32).toNatClampNeg) 2) ((3 : Int32).toNatClampNeg) 20))), (f1, .inl (cA 0, 6, .inl (upd (upd We ((0 : Int32).toNatClampNeg) 30) ((1 : Int32).toNatClampNeg) 30)))] H := hP
  have hD : va_D A [(h0, .inr (5, [.ref f0, .ref f1, .ref f2, .ref f3, .ref f4, .ref f5, .ref f6, .ref f7, .int pe, .int hr, .int z])), (f0, .inl (cA 0, 4, .inl (upd (upd (upd (upd La ((0 : Int32).toNatClampNeg) 4) ((1 : Int32).toNatClampNeg) 1) ((2 : Int32).toNatClampNeg) 2) ((3 : Int32).toNatClampNeg) 20))), (f1, .inl (cA 0, 6, .inl (upd (upd We ((0 : Int32).toNatClampNeg) 30) ((1 : Int32).toNatClampNeg) 30)))] := hD
  refine lv_iinc (v := 2) (k := 0) (lv' := [(1, .int 2), (0, .ref h0)]) hx hb dX5_startAnew_49 hl rfl (by decide) (by decide) rfl (fun ls hl => ?_)
  refine lv_goto (tgt := 26) hx hb dX5_startAnew_52 (by decide) ?_
  refine lv_iload_n hx hb dX5_startAnew_26 rfl (lv_at hl 0 rfl) ?_
  refine lv_bipush (v := 6) hx hb dX5_startAnew_27 (by decide) ?_
  refine lv_icmp_ge (tgt := 55) hx hb dX5_startAnew_29 (by decide) (fun hh => absurd hh (by decide)) (fun _ => ?_)
  refine lv_aload_n hx hb dX5_startAnew_32 rfl (lv_at hl 1 rfl) ?_
  refine va_get (ci := 5) (v := .ref f1) (C := RX5) (T := TX5) (N := 11) hx hb htb in_ws5 hown hK hP 0 rfl rfl 1 (by decide) (htb _ fwRX5_15) (fun _ h => h) rfl dX5_startAnew_33 ?_
  refine lv_iload_n hx hb dX5_startAnew_36 rfl (lv_at hl 0 rfl) ?_
  refine lv_iload_n hx hb dX5_startAnew_37 rfl (lv_at hl 0 rfl) ?_
  refine lv_iconst (v := 5) hx hb dX5_startAnew_38 (by decide) ?_
  refine lv_icmp_ne (tgt := 46) hx hb dX5_startAnew_39 (by decide) (fun _ => ?_) (fun hh => absurd hh (by decide))
  refine lv_bipush (v := 30) hx hb dX5_startAnew_46 (by decide) ?_
  refine va_iast (x := 30) (i := 2) hx hb hK hP hD hS 2 0 rfl rfl (by unfold vp_in; decide) dX5_startAnew_48 (fun H locs hP hD hS => ?_)
  have hP : va_P D vwCl [(h0, .inr (5, [.ref f0, .ref f1, .ref f2, .ref f3, .ref f4, .ref f5, .ref f6, .ref f7, .int pe, .int hr, .int z])), (f0, .inl (cA 0, 4, .inl (upd (upd (upd (upd La ((0 : Int32).toNatClampNeg) 4) ((1 : Int32).toNatClampNeg) 1) ((2 : Int32).toNatClampNeg) 2) ((3 : Int32).toNatClampNeg) 20))), (f1, .inl (cA 0, 6, .inl (upd (upd (upd We ((0 : Int32).toNatClampNeg) 30) ((1 : Int32).toNatClampNeg) 30) ((2 : Int32).toNatClampNeg) 30)))] H := hP
  have hD : va_D A [(h0, .inr (5, [.ref f0, .ref f1, .ref f2, .ref f3, .ref f4, .ref f5, .ref f6, .ref f7, .int pe, .int hr, .int z])), (f0, .inl (cA 0, 4, .inl (upd (upd (upd (upd La ((0 : Int32).toNatClampNeg) 4) ((1 : Int32).toNatClampNeg) 1) ((2 : Int32).toNatClampNeg) 2) ((3 : Int32).toNatClampNeg) 20))), (f1, .inl (cA 0, 6, .inl (upd (upd (upd We ((0 : Int32).toNatClampNeg) 30) ((1 : Int32).toNatClampNeg) 30) ((2 : Int32).toNatClampNeg) 30)))] := hD
  refine lv_iinc (v := 3) (k := 0) (lv' := [(1, .int 3), (0, .ref h0)]) hx hb dX5_startAnew_49 hl rfl (by decide) (by decide) rfl (fun ls hl => ?_)
  refine lv_goto (tgt := 26) hx hb dX5_startAnew_52 (by decide) ?_
  refine lv_iload_n hx hb dX5_startAnew_26 rfl (lv_at hl 0 rfl) ?_
  refine lv_bipush (v := 6) hx hb dX5_startAnew_27 (by decide) ?_
  refine lv_icmp_ge (tgt := 55) hx hb dX5_startAnew_29 (by decide) (fun hh => absurd hh (by decide)) (fun _ => ?_)
  refine lv_aload_n hx hb dX5_startAnew_32 rfl (lv_at hl 1 rfl) ?_
  refine va_get (ci := 5) (v := .ref f1) (C := RX5) (T := TX5) (N := 11) hx hb htb in_ws5 hown hK hP 0 rfl rfl 1 (by decide) (htb _ fwRX5_15) (fun _ h => h) rfl dX5_startAnew_33 ?_
  refine lv_iload_n hx hb dX5_startAnew_36 rfl (lv_at hl 0 rfl) ?_
  refine lv_iload_n hx hb dX5_startAnew_37 rfl (lv_at hl 0 rfl) ?_
  refine lv_iconst (v := 5) hx hb dX5_startAnew_38 (by decide) ?_
  refine lv_icmp_ne (tgt := 46) hx hb dX5_startAnew_39 (by decide) (fun _ => ?_) (fun hh => absurd hh (by decide))
  refine lv_bipush (v := 30) hx hb dX5_startAnew_46 (by decide) ?_
  refine va_iast (x := 30) (i := 3) hx hb hK hP hD hS 2 0 rfl rfl (by unfold vp_in; decide) dX5_startAnew_48 (fun H locs hP hD hS => ?_)
  have hP : va_P D vwCl [(h0, .inr (5, [.ref f0, .ref f1, .ref f2, .ref f3, .ref f4, .ref f5, .ref f6, .ref f7, .int pe, .int hr, .int z])), (f0, .inl (cA 0, 4, .inl (upd (upd (upd (upd La ((0 : Int32).toNatClampNeg) 4) ((1 : Int32).toNatClampNeg) 1) ((2 : Int32).toNatClampNeg) 2) ((3 : Int32).toNatClampNeg) 20))), (f1, .inl (cA 0, 6, .inl (upd (upd (upd (upd We ((0 : Int32).toNatClampNeg) 30) ((1 : Int32).toNatClampNeg) 30) ((2 : Int32).toNatClampNeg) 30) ((3 : Int32).toNatClampNeg) 30)))] H := hP
  have hD : va_D A [(h0, .inr (5, [.ref f0, .ref f1, .ref f2, .ref f3, .ref f4, .ref f5, .ref f6, .ref f7, .int pe, .int hr, .int z])), (f0, .inl (cA 0, 4, .inl (upd (upd (upd (upd La ((0 : Int32).toNatClampNeg) 4) ((1 : Int32).toNatClampNeg) 1) ((2 : Int32).toNatClampNeg) 2) ((3 : Int32).toNatClampNeg) 20))), (f1, .inl (cA 0, 6, .inl (upd (upd (upd (upd We ((0 : Int32).toNatClampNeg) 30) ((1 : Int32).toNatClampNeg) 30) ((2 : Int32).toNatClampNeg) 30) ((3 : Int32).toNatClampNeg) 30)))] := hD
  refine lv_iinc (v := 4) (k := 0) (lv' := [(1, .int 4), (0, .ref h0)]) hx hb dX5_startAnew_49 hl rfl (by decide) (by decide) rfl (fun ls hl => ?_)
  refine lv_goto (tgt := 26) hx hb dX5_startAnew_52 (by decide) ?_
  refine lv_iload_n hx hb dX5_startAnew_26 rfl (lv_at hl 0 rfl) ?_
  refine lv_bipush (v := 6) hx hb dX5_startAnew_27 (by decide) ?_
  refine lv_icmp_ge (tgt := 55) hx hb dX5_startAnew_29 (by decide) (fun hh => absurd hh (by decide)) (fun _ => ?_)
  refine lv_aload_n hx hb dX5_startAnew_32 rfl (lv_at hl 1 rfl) ?_
  refine va_get (ci := 5) (v := .ref f1) (C := RX5) (T := TX5) (N := 11) hx hb htb in_ws5 hown hK hP 0 rfl rfl 1 (by decide) (htb _ fwRX5_15) (fun _ h => h) rfl dX5_startAnew_33 ?_
  refine lv_iload_n hx hb dX5_startAnew_36 rfl (lv_at hl 0 rfl) ?_
  refine lv_iload_n hx hb dX5_startAnew_37 rfl (lv_at hl 0 rfl) ?_
  refine lv_iconst (v := 5) hx hb dX5_startAnew_38 (by decide) ?_
  refine lv_icmp_ne (tgt := 46) hx hb dX5_startAnew_39 (by decide) (fun _ => ?_) (fun hh => absurd hh (by decide))
  refine lv_bipush (v := 30) hx hb dX5_startAnew_46 (by decide) ?_
  refine va_iast (x := 30) (i := 4) hx hb hK hP hD hS 2 0 rfl rfl (by unfold vp_in; decide) dX5_startAnew_48 (fun H locs hP hD hS => ?_)
  have hP : va_P D vwCl [(h0, .inr (5, [.ref f0, .ref f1, .ref f2, .ref f3, .ref f4, .ref f5, .ref f6, .ref f7, .int pe, .int hr, .int z])), (f0, .inl (cA 0, 4, .inl (upd (upd (upd (upd La ((0 : Int32).toNatClampNeg) 4) ((1 : Int32).toNatClampNeg) 1) ((2 : Int32).toNatClampNeg) 2) ((3 : Int32).toNatClampNeg) 20))), (f1, .inl (cA 0, 6, .inl (upd (upd (upd (upd (upd We ((0 : Int32).toNatClampNeg) 30) ((1 : Int32).toNatClampNeg) 30) ((2 : Int32).toNatClampNeg) 30) ((3 : Int32).toNatClampNeg) 30) ((4 : Int32).toNatClampNeg) 30)))] H := hP
  have hD : va_D A [(h0, .inr (5, [.ref f0, .ref f1, .ref f2, .ref f3, .ref f4, .ref f5, .ref f6, .ref f7, .int pe, .int hr, .int z])), (f0, .inl (cA 0, 4, .inl (upd (upd (upd (upd La ((0 : Int32).toNatClampNeg) 4) ((1 : Int32).toNatClampNeg) 1) ((2 : Int32).toNatClampNeg) 2) ((3 : Int32).toNatClampNeg) 20))), (f1, .inl (cA 0, 6, .inl (upd (upd (upd (upd (upd We ((0 : Int32).toNatClampNeg) 30) ((1 : Int32).toNatClampNeg) 30) ((2 : Int32).toNatClampNeg) 30) ((3 : Int32).toNatClampNeg) 30) ((4 : Int32).toNatClampNeg) 30)))] := hD
  refine lv_iinc (v := 5) (k := 0) (lv' := [(1, .int 5), (0, .ref h0)]) hx hb dX5_startAnew_49 hl rfl (by decide) (by decide) rfl (fun ls hl => ?_)
  refine lv_goto (tgt := 26) hx hb dX5_startAnew_52 (by decide) ?_
  refine lv_iload_n hx hb dX5_startAnew_26 rfl (lv_at hl 0 rfl) ?_
  refine lv_bipush (v := 6) hx hb dX5_startAnew_27 (by decide) ?_
  refine lv_icmp_ge (tgt := 55) hx hb dX5_startAnew_29 (by decide) (fun hh => absurd hh (by decide)) (fun _ => ?_)
  refine lv_aload_n hx hb dX5_startAnew_32 rfl (lv_at hl 1 rfl) ?_
  refine va_get (ci := 5) (v := .ref f1) (C := RX5) (T := TX5) (N := 11) hx hb htb in_ws5 hown hK hP 0 rfl rfl 1 (by decide) (htb _ fwRX5_15) (fun _ h => h) rfl dX5_startAnew_33 ?_
  refine lv_iload_n hx hb dX5_startAnew_36 rfl (lv_at hl 0 rfl) ?_
  refine lv_iload_n hx hb dX5_startAnew_37 rfl (lv_at hl 0 rfl) ?_
  refine lv_iconst (v := 5) hx hb dX5_startAnew_38 (by decide) ?_
  refine lv_icmp_ne (tgt := 46) hx hb dX5_startAnew_39 (by decide) (fun hh => absurd rfl hh) (fun _ => ?_)
  refine lv_iconst (v := 0) hx hb dX5_startAnew_42 (by decide) ?_
  refine lv_goto (tgt := 48) hx hb dX5_startAnew_43 (by decide) ?_
  refine va_iast (x := 0) (i := 5) hx hb hK hP hD hS 2 0 rfl rfl (by unfold vp_in; decide) dX5_startAnew_48 (fun H locs hP hD hS => ?_)
  have hP : va_P D vwCl [(h0, .inr (5, [.ref f0, .ref f1, .ref f2, .ref f3, .ref f4, .ref f5, .ref f6, .ref f7, .int pe, .int hr, .int z])), (f0, .inl (cA 0, 4, .inl (upd (upd (upd (upd La ((0 : Int32).toNatClampNeg) 4) ((1 : Int32).toNatClampNeg) 1) ((2 : Int32).toNatClampNeg) 2) ((3 : Int32).toNatClampNeg) 20))), (f1, .inl (cA 0, 6, .inl (upd (upd (upd (upd (upd (upd We ((0 : Int32).toNatClampNeg) 30) ((1 : Int32).toNatClampNeg) 30) ((2 : Int32).toNatClampNeg) 30) ((3 : Int32).toNatClampNeg) 30) ((4 : Int32).toNatClampNeg) 30) ((5 : Int32).toNatClampNeg) 0)))] H := hP
  have hD : va_D A [(h0, .inr (5, [.ref f0, .ref f1, .ref f2, .ref f3, .ref f4, .ref f5, .ref f6, .ref f7, .int pe, .int hr, .int z])), (f0, .inl (cA 0, 4, .inl (upd (upd (upd (upd La ((0 : Int32).toNatClampNeg) 4) ((1 : Int32).toNatClampNeg) 1) ((2 : Int32).toNatClampNeg) 2) ((3 : Int32).toNatClampNeg) 20))), (f1, .inl (cA 0, 6, .inl (upd (upd (upd (upd (upd (upd We ((0 : Int32).toNatClampNeg) 30) ((1 : Int32).toNatClampNeg) 30) ((2 : Int32).toNatClampNeg) 30) ((3 : Int32).toNatClampNeg) 30) ((4 : Int32).toNatClampNeg) 30) ((5 : Int32).toNatClampNeg) 0)))] := hD
  refine lv_iinc (v := 6) (k := 0) (lv' := [(1, .int 6), (0, .ref h0)]) hx hb dX5_startAnew_49 hl rfl (by decide) (by decide) rfl (fun ls hl => ?_)
  refine lv_goto (tgt := 26) hx hb dX5_startAnew_52 (by decide) ?_
  refine lv_iload_n hx hb dX5_startAnew_26 rfl (lv_at hl 0 rfl) ?_
  refine lv_bipush (v := 6) hx hb dX5_startAnew_27 (by decide) ?_
  refine lv_icmp_ge (tgt := 55) hx hb dX5_startAnew_29 (by decide) (fun _ => ?_) (fun hh => absurd (by decide) hh)
  refine lv_aload_n hx hb dX5_startAnew_55 rfl (lv_at hl 1 rfl) ?_
  refine lv_iconst (v := 0) hx hb dX5_startAnew_56 (by decide) ?_
  refine va_put (ci := 5) (v := .int 0) (ty := tyX5 8) (C := RX5) (T := TX5) (N := 11) hx hb htb in_ws5 tyX5 tyX5_ok nmX5 hown hK hP hD hS 0 rfl rfl 8 (by decide) (htb _ fwRX5_36) (fun _ h => h) rfl (tyX5_ok 8 (by decide)) rfl rfl (Nat.le_of_ble_eq_true rfl) dX5_startAnew_57 (fun H locs hP hD hS => ?_)
  have hP : va_P D vwCl [(h0, .inr (5, [.ref f0, .ref f1, .ref f2, .ref f3, .ref f4, .ref f5, .ref f6, .ref f7, .int 0, .int hr, .int z])), (f0, .inl (cA 0, 4, .inl (upd (upd (upd (upd La ((0 : Int32).toNatClampNeg) 4) ((1 : Int32).toNatClampNeg) 1) ((2 : Int32).toNatClampNeg) 2) ((3 : Int32).toNatClampNeg) 20))), (f1, .inl (cA 0, 6, .inl (upd (upd (upd (upd (upd (upd We ((0 : Int32).toNatClampNeg) 30) ((1 : Int32).toNatClampNeg) 30) ((2 : Int32).toNatClampNeg) 30) ((3 : Int32).toNatClampNeg) 30) ((4 : Int32).toNatClampNeg) 30) ((5 : Int32).toNatClampNeg) 0)))] H := hP
  have hD : va_D A [(h0, .inr (5, [.ref f0, .ref f1, .ref f2, .ref f3, .ref f4, .ref f5, .ref f6, .ref f7, .int 0, .int hr, .int z])), (f0, .inl (cA 0, 4, .inl (upd (upd (upd (upd La ((0 : Int32).toNatClampNeg) 4) ((1 : Int32).toNatClampNeg) 1) ((2 : Int32).toNatClampNeg) 2) ((3 : Int32).toNatClampNeg) 20))), (f1, .inl (cA 0, 6, .inl (upd (upd (upd (upd (upd (upd We ((0 : Int32).toNatClampNeg) 30) ((1 : Int32).toNatClampNeg) 30) ((2 : Int32).toNatClampNeg) 30) ((3 : Int32).toNatClampNeg) 30) ((4 : Int32).toNatClampNeg) 30) ((5 : Int32).toNatClampNeg) 0)))] := hD
  refine lv_aload_n hx hb dX5_startAnew_60 rfl (lv_at hl 1 rfl) ?_
  refine lv_iconst (v := 0) hx hb dX5_startAnew_61 (by decide) ?_
  refine va_put (ci := 5) (v := .int 0) (ty := tyX5 9) (C := RX5) (T := TX5) (N := 11) hx hb htb in_ws5 tyX5 tyX5_ok nmX5 hown hK hP hD hS 0 rfl rfl 9 (by decide) (htb _ fwRX5_40) (fun _ h => h) rfl (tyX5_ok 9 (by decide)) rfl rfl (Nat.le_of_ble_eq_true rfl) dX5_startAnew_62 (fun H locs hP hD hS => ?_)
  have hP : va_P D vwCl [(h0, .inr (5, [.ref f0, .ref f1, .ref f2, .ref f3, .ref f4, .ref f5, .ref f6, .ref f7, .int 0, .int 0, .int z])), (f0, .inl (cA 0, 4, .inl (upd (upd (upd (upd La ((0 : Int32).toNatClampNeg) 4) ((1 : Int32).toNatClampNeg) 1) ((2 : Int32).toNatClampNeg) 2) ((3 : Int32).toNatClampNeg) 20))), (f1, .inl (cA 0, 6, .inl (upd (upd (upd (upd (upd (upd We ((0 : Int32).toNatClampNeg) 30) ((1 : Int32).toNatClampNeg) 30) ((2 : Int32).toNatClampNeg) 30) ((3 : Int32).toNatClampNeg) 30) ((4 : Int32).toNatClampNeg) 30) ((5 : Int32).toNatClampNeg) 0)))] H := hP
  have hD : va_D A [(h0, .inr (5, [.ref f0, .ref f1, .ref f2, .ref f3, .ref f4, .ref f5, .ref f6, .ref f7, .int 0, .int 0, .int z])), (f0, .inl (cA 0, 4, .inl (upd (upd (upd (upd La ((0 : Int32).toNatClampNeg) 4) ((1 : Int32).toNatClampNeg) 1) ((2 : Int32).toNatClampNeg) 2) ((3 : Int32).toNatClampNeg) 20))), (f1, .inl (cA 0, 6, .inl (upd (upd (upd (upd (upd (upd We ((0 : Int32).toNatClampNeg) 30) ((1 : Int32).toNatClampNeg) 30) ((2 : Int32).toNatClampNeg) 30) ((3 : Int32).toNatClampNeg) 30) ((4 : Int32).toNatClampNeg) 30) ((5 : Int32).toNatClampNeg) 0)))] := hD
  refine W.widen (k := 0) (n := 0) (Nat.le_of_ble_eq_true rfl) (Nat.le_of_ble_eq_true rfl) ?_
  exact ret 65 ls H locs ((upd (upd (upd (upd La ((0 : Int32).toNatClampNeg) 4) ((1 : Int32).toNatClampNeg) 1) ((2 : Int32).toNatClampNeg) 2) ((3 : Int32).toNatClampNeg) 20), (upd (upd (upd (upd (upd (upd We ((0 : Int32).toNatClampNeg) 30) ((1 : Int32).toNatClampNeg) 30) ((2 : Int32).toNatClampNeg) 30) ((3 : Int32).toNatClampNeg) 30) ((4 : Int32).toNatClampNeg) 30) ((5 : Int32).toNatClampNeg) 0)) dX5_startAnew_65 ⟨fun i hi => by rcases (show i = 0 ∨ i = 1 ∨ i = 2 ∨ i = 3 by omega) with rfl | rfl | rfl | rfl <;> rfl, fun i hi => by rcases (show i = 0 ∨ i = 1 ∨ i = 2 ∨ i = 3 ∨ i = 4 ∨ i = 5 by omega) with rfl | rfl | rfl | rfl | rfl | rfl <;> rfl⟩ (hP.sub [0, 1, 2] rfl) (hD.sub [0, 1, 2] (by decide) rfl) hS
set_option maxHeartbeats 4000000 in
set_option maxRecDepth 20000 in
theorem iX5_init {sc : pg_Sc} {ad : Nat → Nat} {D : va_G} {cA : Nat → ClassId} (h0 : Nat) : qg_C sc mX5_init 2 8 58 [.ref h0] ad D cA [(h0, .inr (5, [.null, .null, .null, .null, .null, .null, .null, .null, .int 0, .int 0, .int 0]))] (fun u : (Nat → Nat) × (Nat → Int32) × (Nat → Int32) => (∀ i, i < 4 → u.2.1 i = pg_t0.getD i 0) ∧ ∀ i, i < 6 → u.2.2 i = if i = 5 then 0 else 30) (fun u : (Nat → Nat) × (Nat → Int32) × (Nat → Int32) => [(h0, .inr (5, [.ref (u.1 0), .ref (u.1 1), .ref (u.1 2), .ref (u.1 3), .ref (u.1 4), .ref (u.1 5), .ref (u.1 6), .ref (u.1 7), .int 0, .int 0, .int 1])), ((u.1 0), .inl (cA 0, 4, .inl u.2.1)), ((u.1 1), .inl (cA 0, 6, .inl u.2.2)), ((u.1 2), .inl (cA 0, 8, .inl (fun _ => 0))), ((u.1 3), .inl (cA 0, 8, .inl (fun _ => 0))), ((u.1 4), .inl (cA 0, 8, .inl (fun _ => 0))), ((u.1 5), .inl (cA 0, 8, .inl (fun _ => 0))), ((u.1 6), .inl (cA 0, 8, .inl (fun _ => 0))), ((u.1 7), .inl (cA 0, 8, .inl (fun _ => 0)))]) := by
  refine qg_C.of rfl (Nat.le_of_ble_eq_true rfl) rfl rfl ?_
  intro p l e s m args below meth c A Z ls hF hP hD hl ret
  obtain ⟨hx, hb, hml, hown, htb, hK, hA, hRO, hAO, hin⟩ := hF
  have hS : va_S A s.heap s.heap [] := va_S.rf
  have hin : meth.name = "<init>" := hin
  have hl : lv_has ls 1 [(0, .ref h0)] := hl
  refine lv_aload_n hx hb dX5_init_0 rfl (lv_at hl 0 rfl) ?_
  refine W.objInit hx hb hown (htb _ oiRX5_3) (htb _ oi_inst) (htb _ oi_code) rfl (by rw [hml]; exact hl.1) rfl dX5_init_1 (Nat.le_of_ble_eq_true rfl) (Nat.le_of_ble_eq_true rfl) ?_
  refine W.eq (g2 := F0 m 4 ls []) rfl ?_
  refine lv_aload_n hx hb dX5_init_4 rfl (lv_at hl 0 rfl) ?_
  refine lv_iconst (v := 4) hx hb dX5_init_5 (by decide) ?_
  refine qg_newa (a0 := (4, .inl (fun _ => 0))) (N' := 4) (atype := .int) (ty := .int) hx hb (htb _ aw_int) rfl hK hP hD hS hA 0 rfl (fun _ _ h => h) (fun _ => rfl) (by decide) (by decide) (show 4 * 4 ≤ 536870912 by decide) (Nat.le_of_ble_eq_true rfl) (Nat.le_of_ble_eq_true rfl) dX5_init_6 (fun q1 H hP hD hS => ?_)
  have hP : va_P D vwCl [(h0, .inr (5, [.null, .null, .null, .null, .null, .null, .null, .null, .int 0, .int 0, .int 0])), (q1, .inl (cA 0, 4, .inl (fun _ => 0)))] H := hP
  have hD : va_D A [(h0, .inr (5, [.null, .null, .null, .null, .null, .null, .null, .null, .int 0, .int 0, .int 0])), (q1, .inl (cA 0, 4, .inl (fun _ => 0)))] := hD
  refine va_putF (ci := 5) (v := .ref q1) (ty := tyX5 0) (C := RX5) (T := TX5) (N := 11) hx hb htb in_ws5 tyX5 tyX5_ok nmX5 hown hK hP hD hS 0 rfl rfl 0 (by decide) (htb _ fwRX5_9) (fun _ h => h) rfl hin rfl (tyX5_ok 0 (by decide)) rfl rfl (Nat.le_of_ble_eq_true rfl) dX5_init_8 (fun H locs hP hD hS => ?_)
  have hP : va_P D vwCl [(h0, .inr (5, [.ref q1, .null, .null, .null, .null, .null, .null, .null, .int 0, .int 0, .int 0])), (q1, .inl (cA 0, 4, .inl (fun _ => 0)))] H := hP
  have hD : va_D A [(h0, .inr (5, [.ref q1, .null, .null, .null, .null, .null, .null, .null, .int 0, .int 0, .int 0])), (q1, .inl (cA 0, 4, .inl (fun _ => 0)))] := hD
  refine lv_aload_n hx hb dX5_init_11 rfl (lv_at hl 0 rfl) ?_
  refine lv_bipush (v := 6) hx hb dX5_init_12 (by decide) ?_
  refine qg_newa (a0 := (6, .inl (fun _ => 0))) (N' := 6) (atype := .int) (ty := .int) hx hb (htb _ aw_int) rfl hK hP hD hS hA 0 rfl (fun _ _ h => h) (fun _ => rfl) (by decide) (by decide) (show 6 * 4 ≤ 536870912 by decide) (Nat.le_of_ble_eq_true rfl) (Nat.le_of_ble_eq_true rfl) dX5_init_14 (fun q2 H hP hD hS => ?_)
  have hP : va_P D vwCl [(h0, .inr (5, [.ref q1, .null, .null, .null, .null, .null, .null, .null, .int 0, .int 0, .int 0])), (q1, .inl (cA 0, 4, .inl (fun _ => 0))), (q2, .inl (cA 0, 6, .inl (fun _ => 0)))] H := hP
  have hD : va_D A [(h0, .inr (5, [.ref q1, .null, .null, .null, .null, .null, .null, .null, .int 0, .int 0, .int 0])), (q1, .inl (cA 0, 4, .inl (fun _ => 0))), (q2, .inl (cA 0, 6, .inl (fun _ => 0)))] := hD
  refine va_putF (ci := 5) (v := .ref q2) (ty := tyX5 1) (C := RX5) (T := TX5) (N := 11) hx hb htb in_ws5 tyX5 tyX5_ok nmX5 hown hK hP hD hS 0 rfl rfl 1 (by decide) (htb _ fwRX5_15) (fun _ h => h) rfl hin rfl (tyX5_ok 1 (by decide)) rfl rfl (Nat.le_of_ble_eq_true rfl) dX5_init_16 (fun H locs hP hD hS => ?_)
  have hP : va_P D vwCl [(h0, .inr (5, [.ref q1, .ref q2, .null, .null, .null, .null, .null, .null, .int 0, .int 0, .int 0])), (q1, .inl (cA 0, 4, .inl (fun _ => 0))), (q2, .inl (cA 0, 6, .inl (fun _ => 0)))] H := hP
  have hD : va_D A [(h0, .inr (5, [.ref q1, .ref q2, .null, .null, .null, .null, .null, .null, .int 0, .int 0, .int 0])), (q1, .inl (cA 0, 4, .inl (fun _ => 0))), (q2, .inl (cA 0, 6, .inl (fun _ => 0)))] := hD
  refine lv_aload_n hx hb dX5_init_19 rfl (lv_at hl 0 rfl) ?_
  refine lv_bipush (v := 8) hx hb dX5_init_20 (by decide) ?_
  refine qg_newa (a0 := (8, .inl (fun _ => 0))) (N' := 8) (atype := .int) (ty := .int) hx hb (htb _ aw_int) rfl hK hP hD hS hA 0 rfl (fun _ _ h => h) (fun _ => rfl) (by decide) (by decide) (show 8 * 4 ≤ 536870912 by decide) (Nat.le_of_ble_eq_true rfl) (Nat.le_of_ble_eq_true rfl) dX5_init_22 (fun q3 H hP hD hS => ?_)
  have hP : va_P D vwCl [(h0, .inr (5, [.ref q1, .ref q2, .null, .null, .null, .null, .null, .null, .int 0, .int 0, .int 0])), (q1, .inl (cA 0, 4, .inl (fun _ => 0))), (q2, .inl (cA 0, 6, .inl (fun _ => 0))), (q3, .inl (cA 0, 8, .inl (fun _ => 0)))] H := hP
  have hD : va_D A [(h0, .inr (5, [.ref q1, .ref q2, .null, .null, .null, .null, .null, .null, .int 0, .int 0, .int 0])), (q1, .inl (cA 0, 4, .inl (fun _ => 0))), (q2, .inl (cA 0, 6, .inl (fun _ => 0))), (q3, .inl (cA 0, 8, .inl (fun _ => 0)))] := hD
  refine va_putF (ci := 5) (v := .ref q3) (ty := tyX5 2) (C := RX5) (T := TX5) (N := 11) hx hb htb in_ws5 tyX5 tyX5_ok nmX5 hown hK hP hD hS 0 rfl rfl 2 (by decide) (htb _ fwRX5_18) (fun _ h => h) rfl hin rfl (tyX5_ok 2 (by decide)) rfl rfl (Nat.le_of_ble_eq_true rfl) dX5_init_24 (fun H locs hP hD hS => ?_)
  have hP : va_P D vwCl [(h0, .inr (5, [.ref q1, .ref q2, .ref q3, .null, .null, .null, .null, .null, .int 0, .int 0, .int 0])), (q1, .inl (cA 0, 4, .inl (fun _ => 0))), (q2, .inl (cA 0, 6, .inl (fun _ => 0))), (q3, .inl (cA 0, 8, .inl (fun _ => 0)))] H := hP
  have hD : va_D A [(h0, .inr (5, [.ref q1, .ref q2, .ref q3, .null, .null, .null, .null, .null, .int 0, .int 0, .int 0])), (q1, .inl (cA 0, 4, .inl (fun _ => 0))), (q2, .inl (cA 0, 6, .inl (fun _ => 0))), (q3, .inl (cA 0, 8, .inl (fun _ => 0)))] := hD
  refine lv_aload_n hx hb dX5_init_27 rfl (lv_at hl 0 rfl) ?_
  refine lv_bipush (v := 8) hx hb dX5_init_28 (by decide) ?_
  refine qg_newa (a0 := (8, .inl (fun _ => 0))) (N' := 8) (atype := .int) (ty := .int) hx hb (htb _ aw_int) rfl hK hP hD hS hA 0 rfl (fun _ _ h => h) (fun _ => rfl) (by decide) (by decide) (show 8 * 4 ≤ 536870912 by decide) (Nat.le_of_ble_eq_true rfl) (Nat.le_of_ble_eq_true rfl) dX5_init_30 (fun q4 H hP hD hS => ?_)
  have hP : va_P D vwCl [(h0, .inr (5, [.ref q1, .ref q2, .ref q3, .null, .null, .null, .null, .null, .int 0, .int 0, .int 0])), (q1, .inl (cA 0, 4, .inl (fun _ => 0))), (q2, .inl (cA 0, 6, .inl (fun _ => 0))), (q3, .inl (cA 0, 8, .inl (fun _ => 0))), (q4, .inl (cA 0, 8, .inl (fun _ => 0)))] H := hP
  have hD : va_D A [(h0, .inr (5, [.ref q1, .ref q2, .ref q3, .null, .null, .null, .null, .null, .int 0, .int 0, .int 0])), (q1, .inl (cA 0, 4, .inl (fun _ => 0))), (q2, .inl (cA 0, 6, .inl (fun _ => 0))), (q3, .inl (cA 0, 8, .inl (fun _ => 0))), (q4, .inl (cA 0, 8, .inl (fun _ => 0)))] := hD
  refine va_putF (ci := 5) (v := .ref q4) (ty := tyX5 3) (C := RX5) (T := TX5) (N := 11) hx hb htb in_ws5 tyX5 tyX5_ok nmX5 hown hK hP hD hS 0 rfl rfl 3 (by decide) (htb _ fwRX5_21) (fun _ h => h) rfl hin rfl (tyX5_ok 3 (by decide)) rfl rfl (Nat.le_of_ble_eq_true rfl) dX5_init_32 (fun H locs hP hD hS => ?_)
  have hP : va_P D vwCl [(h0, .inr (5, [.ref q1, .ref q2, .ref q3, .ref q4, .null, .null, .null, .null, .int 0, .int 0, .int 0])), (q1, .inl (cA 0, 4, .inl (fun _ => 0))), (q2, .inl (cA 0, 6, .inl (fun _ => 0))), (q3, .inl (cA 0, 8, .inl (fun _ => 0))), (q4, .inl (cA 0, 8, .inl (fun _ => 0)))] H := hP
  have hD : va_D A [(h0, .inr (5, [.ref q1, .ref q2, .ref q3, .ref q4, .null, .null, .null, .null, .int 0, .int 0, .int 0])), (q1, .inl (cA 0, 4, .inl (fun _ => 0))), (q2, .inl (cA 0, 6, .inl (fun _ => 0))), (q3, .inl (cA 0, 8, .inl (fun _ => 0))), (q4, .inl (cA 0, 8, .inl (fun _ => 0)))] := hD
  refine lv_aload_n hx hb dX5_init_35 rfl (lv_at hl 0 rfl) ?_
  refine lv_bipush (v := 8) hx hb dX5_init_36 (by decide) ?_
  refine qg_newa (a0 := (8, .inl (fun _ => 0))) (N' := 8) (atype := .int) (ty := .int) hx hb (htb _ aw_int) rfl hK hP hD hS hA 0 rfl (fun _ _ h => h) (fun _ => rfl) (by decide) (by decide) (show 8 * 4 ≤ 536870912 by decide) (Nat.le_of_ble_eq_true rfl) (Nat.le_of_ble_eq_true rfl) dX5_init_38 (fun q5 H hP hD hS => ?_)
  have hP : va_P D vwCl [(h0, .inr (5, [.ref q1, .ref q2, .ref q3, .ref q4, .null, .null, .null, .null, .int 0, .int 0, .int 0])), (q1, .inl (cA 0, 4, .inl (fun _ => 0))), (q2, .inl (cA 0, 6, .inl (fun _ => 0))), (q3, .inl (cA 0, 8, .inl (fun _ => 0))), (q4, .inl (cA 0, 8, .inl (fun _ => 0))), (q5, .inl (cA 0, 8, .inl (fun _ => 0)))] H := hP
  have hD : va_D A [(h0, .inr (5, [.ref q1, .ref q2, .ref q3, .ref q4, .null, .null, .null, .null, .int 0, .int 0, .int 0])), (q1, .inl (cA 0, 4, .inl (fun _ => 0))), (q2, .inl (cA 0, 6, .inl (fun _ => 0))), (q3, .inl (cA 0, 8, .inl (fun _ => 0))), (q4, .inl (cA 0, 8, .inl (fun _ => 0))), (q5, .inl (cA 0, 8, .inl (fun _ => 0)))] := hD
  refine va_putF (ci := 5) (v := .ref q5) (ty := tyX5 4) (C := RX5) (T := TX5) (N := 11) hx hb htb in_ws5 tyX5 tyX5_ok nmX5 hown hK hP hD hS 0 rfl rfl 4 (by decide) (htb _ fwRX5_24) (fun _ h => h) rfl hin rfl (tyX5_ok 4 (by decide)) rfl rfl (Nat.le_of_ble_eq_true rfl) dX5_init_40 (fun H locs hP hD hS => ?_)
  have hP : va_P D vwCl [(h0, .inr (5, [.ref q1, .ref q2, .ref q3, .ref q4, .ref q5, .null, .null, .null, .int 0, .int 0, .int 0])), (q1, .inl (cA 0, 4, .inl (fun _ => 0))), (q2, .inl (cA 0, 6, .inl (fun _ => 0))), (q3, .inl (cA 0, 8, .inl (fun _ => 0))), (q4, .inl (cA 0, 8, .inl (fun _ => 0))), (q5, .inl (cA 0, 8, .inl (fun _ => 0)))] H := hP
  have hD : va_D A [(h0, .inr (5, [.ref q1, .ref q2, .ref q3, .ref q4, .ref q5, .null, .null, .null, .int 0, .int 0, .int 0])), (q1, .inl (cA 0, 4, .inl (fun _ => 0))), (q2, .inl (cA 0, 6, .inl (fun _ => 0))), (q3, .inl (cA 0, 8, .inl (fun _ => 0))), (q4, .inl (cA 0, 8, .inl (fun _ => 0))), (q5, .inl (cA 0, 8, .inl (fun _ => 0)))] := hD
  refine lv_aload_n hx hb dX5_init_43 rfl (lv_at hl 0 rfl) ?_
  refine lv_bipush (v := 8) hx hb dX5_init_44 (by decide) ?_
  refine qg_newa (a0 := (8, .inl (fun _ => 0))) (N' := 8) (atype := .int) (ty := .int) hx hb (htb _ aw_int) rfl hK hP hD hS hA 0 rfl (fun _ _ h => h) (fun _ => rfl) (by decide) (by decide) (show 8 * 4 ≤ 536870912 by decide) (Nat.le_of_ble_eq_true rfl) (Nat.le_of_ble_eq_true rfl) dX5_init_46 (fun q6 H hP hD hS => ?_)
  have hP : va_P D vwCl [(h0, .inr (5, [.ref q1, .ref q2, .ref q3, .ref q4, .ref q5, .null, .null, .null, .int 0, .int 0, .int 0])), (q1, .inl (cA 0, 4, .inl (fun _ => 0))), (q2, .inl (cA 0, 6, .inl (fun _ => 0))), (q3, .inl (cA 0, 8, .inl (fun _ => 0))), (q4, .inl (cA 0, 8, .inl (fun _ => 0))), (q5, .inl (cA 0, 8, .inl (fun _ => 0))), (q6, .inl (cA 0, 8, .inl (fun _ => 0)))] H := hP
  have hD : va_D A [(h0, .inr (5, [.ref q1, .ref q2, .ref q3, .ref q4, .ref q5, .null, .null, .null, .int 0, .int 0, .int 0])), (q1, .inl (cA 0, 4, .inl (fun _ => 0))), (q2, .inl (cA 0, 6, .inl (fun _ => 0))), (q3, .inl (cA 0, 8, .inl (fun _ => 0))), (q4, .inl (cA 0, 8, .inl (fun _ => 0))), (q5, .inl (cA 0, 8, .inl (fun _ => 0))), (q6, .inl (cA 0, 8, .inl (fun _ => 0)))] := hD
  refine va_putF (ci := 5) (v := .ref q6) (ty := tyX5 5) (C := RX5) (T := TX5) (N := 11) hx hb htb in_ws5 tyX5 tyX5_ok nmX5 hown hK hP hD hS 0 rfl rfl 5 (by decide) (htb _ fwRX5_27) (fun _ h => h) rfl hin rfl (tyX5_ok 5 (by decide)) rfl rfl (Nat.le_of_ble_eq_true rfl) dX5_init_48 (fun H locs hP hD hS => ?_)
  have hP : va_P D vwCl [(h0, .inr (5, [.ref q1, .ref q2, .ref q3, .ref q4, .ref q5, .ref q6, .null, .null, .int 0, .int 0, .int 0])), (q1, .inl (cA 0, 4, .inl (fun _ => 0))), (q2, .inl (cA 0, 6, .inl (fun _ => 0))), (q3, .inl (cA 0, 8, .inl (fun _ => 0))), (q4, .inl (cA 0, 8, .inl (fun _ => 0))), (q5, .inl (cA 0, 8, .inl (fun _ => 0))), (q6, .inl (cA 0, 8, .inl (fun _ => 0)))] H := hP
  have hD : va_D A [(h0, .inr (5, [.ref q1, .ref q2, .ref q3, .ref q4, .ref q5, .ref q6, .null, .null, .int 0, .int 0, .int 0])), (q1, .inl (cA 0, 4, .inl (fun _ => 0))), (q2, .inl (cA 0, 6, .inl (fun _ => 0))), (q3, .inl (cA 0, 8, .inl (fun _ => 0))), (q4, .inl (cA 0, 8, .inl (fun _ => 0))), (q5, .inl (cA 0, 8, .inl (fun _ => 0))), (q6, .inl (cA 0, 8, .inl (fun _ => 0)))] := hD
  refine lv_aload_n hx hb dX5_init_51 rfl (lv_at hl 0 rfl) ?_
  refine lv_bipush (v := 8) hx hb dX5_init_52 (by decide) ?_
  refine qg_newa (a0 := (8, .inl (fun _ => 0))) (N' := 8) (atype := .int) (ty := .int) hx hb (htb _ aw_int) rfl hK hP hD hS hA 0 rfl (fun _ _ h => h) (fun _ => rfl) (by decide) (by decide) (show 8 * 4 ≤ 536870912 by decide) (Nat.le_of_ble_eq_true rfl) (Nat.le_of_ble_eq_true rfl) dX5_init_54 (fun q7 H hP hD hS => ?_)
  have hP : va_P D vwCl [(h0, .inr (5, [.ref q1, .ref q2, .ref q3, .ref q4, .ref q5, .ref q6, .null, .null, .int 0, .int 0, .int 0])), (q1, .inl (cA 0, 4, .inl (fun _ => 0))), (q2, .inl (cA 0, 6, .inl (fun _ => 0))), (q3, .inl (cA 0, 8, .inl (fun _ => 0))), (q4, .inl (cA 0, 8, .inl (fun _ => 0))), (q5, .inl (cA 0, 8, .inl (fun _ => 0))), (q6, .inl (cA 0, 8, .inl (fun _ => 0))), (q7, .inl (cA 0, 8, .inl (fun _ => 0)))] H := hP
  have hD : va_D A [(h0, .inr (5, [.ref q1, .ref q2, .ref q3, .ref q4, .ref q5, .ref q6, .null, .null, .int 0, .int 0, .int 0])), (q1, .inl (cA 0, 4, .inl (fun _ => 0))), (q2, .inl (cA 0, 6, .inl (fun _ => 0))), (q3, .inl (cA 0, 8, .inl (fun _ => 0))), (q4, .inl (cA 0, 8, .inl (fun _ => 0))), (q5, .inl (cA 0, 8, .inl (fun _ => 0))), (q6, .inl (cA 0, 8, .inl (fun _ => 0))), (q7, .inl (cA 0, 8, .inl (fun _ => 0)))] := hD
  refine va_putF (ci := 5) (v := .ref q7) (ty := tyX5 6) (C := RX5) (T := TX5) (N := 11) hx hb htb in_ws5 tyX5 tyX5_ok nmX5 hown hK hP hD hS 0 rfl rfl 6 (by decide) (htb _ fwRX5_30) (fun _ h => h) rfl hin rfl (tyX5_ok 6 (by decide)) rfl rfl (Nat.le_of_ble_eq_true rfl) dX5_init_56 (fun H locs hP hD hS => ?_)
  have hP : va_P D vwCl [(h0, .inr (5, [.ref q1, .ref q2, .ref q3, .ref q4, .ref q5, .ref q6, .ref q7, .null, .int 0, .int 0, .int 0])), (q1, .inl (cA 0, 4, .inl (fun _ => 0))), (q2, .inl (cA 0, 6, .inl (fun _ => 0))), (q3, .inl (cA 0, 8, .inl (fun _ => 0))), (q4, .inl (cA 0, 8, .inl (fun _ => 0))), (q5, .inl (cA 0, 8, .inl (fun _ => 0))), (q6, .inl (cA 0, 8, .inl (fun _ => 0))), (q7, .inl (cA 0, 8, .inl (fun _ => 0)))] H := hP
  have hD : va_D A [(h0, .inr (5, [.ref q1, .ref q2, .ref q3, .ref q4, .ref q5, .ref q6, .ref q7, .null, .int 0, .int 0, .int 0])), (q1, .inl (cA 0, 4, .inl (fun _ => 0))), (q2, .inl (cA 0, 6, .inl (fun _ => 0))), (q3, .inl (cA 0, 8, .inl (fun _ => 0))), (q4, .inl (cA 0, 8, .inl (fun _ => 0))), (q5, .inl (cA 0, 8, .inl (fun _ => 0))), (q6, .inl (cA 0, 8, .inl (fun _ => 0))), (q7, .inl (cA 0, 8, .inl (fun _ => 0)))] := hD
  refine lv_aload_n hx hb dX5_init_59 rfl (lv_at hl 0 rfl) ?_
  refine lv_bipush (v := 8) hx hb dX5_init_60 (by decide) ?_
  refine qg_newa (a0 := (8, .inl (fun _ => 0))) (N' := 8) (atype := .int) (ty := .int) hx hb (htb _ aw_int) rfl hK hP hD hS hA 0 rfl (fun _ _ h => h) (fun _ => rfl) (by decide) (by decide) (show 8 * 4 ≤ 536870912 by decide) (Nat.le_of_ble_eq_true rfl) (Nat.le_of_ble_eq_true rfl) dX5_init_62 (fun q8 H hP hD hS => ?_)
  have hP : va_P D vwCl [(h0, .inr (5, [.ref q1, .ref q2, .ref q3, .ref q4, .ref q5, .ref q6, .ref q7, .null, .int 0, .int 0, .int 0])), (q1, .inl (cA 0, 4, .inl (fun _ => 0))), (q2, .inl (cA 0, 6, .inl (fun _ => 0))), (q3, .inl (cA 0, 8, .inl (fun _ => 0))), (q4, .inl (cA 0, 8, .inl (fun _ => 0))), (q5, .inl (cA 0, 8, .inl (fun _ => 0))), (q6, .inl (cA 0, 8, .inl (fun _ => 0))), (q7, .inl (cA 0, 8, .inl (fun _ => 0))), (q8, .inl (cA 0, 8, .inl (fun _ => 0)))] H := hP
  have hD : va_D A [(h0, .inr (5, [.ref q1, .ref q2, .ref q3, .ref q4, .ref q5, .ref q6, .ref q7, .null, .int 0, .int 0, .int 0])), (q1, .inl (cA 0, 4, .inl (fun _ => 0))), (q2, .inl (cA 0, 6, .inl (fun _ => 0))), (q3, .inl (cA 0, 8, .inl (fun _ => 0))), (q4, .inl (cA 0, 8, .inl (fun _ => 0))), (q5, .inl (cA 0, 8, .inl (fun _ => 0))), (q6, .inl (cA 0, 8, .inl (fun _ => 0))), (q7, .inl (cA 0, 8, .inl (fun _ => 0))), (q8, .inl (cA 0, 8, .inl (fun _ => 0)))] := hD
  refine va_putF (ci := 5) (v := .ref q8) (ty := tyX5 7) (C := RX5) (T := TX5) (N := 11) hx hb htb in_ws5 tyX5 tyX5_ok nmX5 hown hK hP hD hS 0 rfl rfl 7 (by decide) (htb _ fwRX5_33) (fun _ h => h) rfl hin rfl (tyX5_ok 7 (by decide)) rfl rfl (Nat.le_of_ble_eq_true rfl) dX5_init_64 (fun H locs hP hD hS => ?_)
  have hP : va_P D vwCl [(h0, .inr (5, [.ref q1, .ref q2, .ref q3, .ref q4, .ref q5, .ref q6, .ref q7, .ref q8, .int 0, .int 0, .int 0])), (q1, .inl (cA 0, 4, .inl (fun _ => 0))), (q2, .inl (cA 0, 6, .inl (fun _ => 0))), (q3, .inl (cA 0, 8, .inl (fun _ => 0))), (q4, .inl (cA 0, 8, .inl (fun _ => 0))), (q5, .inl (cA 0, 8, .inl (fun _ => 0))), (q6, .inl (cA 0, 8, .inl (fun _ => 0))), (q7, .inl (cA 0, 8, .inl (fun _ => 0))), (q8, .inl (cA 0, 8, .inl (fun _ => 0)))] H := hP
  have hD : va_D A [(h0, .inr (5, [.ref q1, .ref q2, .ref q3, .ref q4, .ref q5, .ref q6, .ref q7, .ref q8, .int 0, .int 0, .int 0])), (q1, .inl (cA 0, 4, .inl (fun _ => 0))), (q2, .inl (cA 0, 6, .inl (fun _ => 0))), (q3, .inl (cA 0, 8, .inl (fun _ => 0))), (q4, .inl (cA 0, 8, .inl (fun _ => 0))), (q5, .inl (cA 0, 8, .inl (fun _ => 0))), (q6, .inl (cA 0, 8, .inl (fun _ => 0))), (q7, .inl (cA 0, 8, .inl (fun _ => 0))), (q8, .inl (cA 0, 8, .inl (fun _ => 0)))] := hD
  refine lv_aload_n hx hb dX5_init_67 rfl (lv_at hl 0 rfl) ?_
  refine lv_iconst (v := 0) hx hb dX5_init_68 (by decide) ?_
  refine va_put (ci := 5) (v := .int 0) (ty := tyX5 8) (C := RX5) (T := TX5) (N := 11) hx hb htb in_ws5 tyX5 tyX5_ok nmX5 hown hK hP hD hS 0 rfl rfl 8 (by decide) (htb _ fwRX5_36) (fun _ h => h) rfl (tyX5_ok 8 (by decide)) rfl rfl (Nat.le_of_ble_eq_true rfl) dX5_init_69 (fun H locs hP hD hS => ?_)
  have hP : va_P D vwCl [(h0, .inr (5, [.ref q1, .ref q2, .ref q3, .ref q4, .ref q5, .ref q6, .ref q7, .ref q8, .int 0, .int 0, .int 0])), (q1, .inl (cA 0, 4, .inl (fun _ => 0))), (q2, .inl (cA 0, 6, .inl (fun _ => 0))), (q3, .inl (cA 0, 8, .inl (fun _ => 0))), (q4, .inl (cA 0, 8, .inl (fun _ => 0))), (q5, .inl (cA 0, 8, .inl (fun _ => 0))), (q6, .inl (cA 0, 8, .inl (fun _ => 0))), (q7, .inl (cA 0, 8, .inl (fun _ => 0))), (q8, .inl (cA 0, 8, .inl (fun _ => 0)))] H := hP
  have hD : va_D A [(h0, .inr (5, [.ref q1, .ref q2, .ref q3, .ref q4, .ref q5, .ref q6, .ref q7, .ref q8, .int 0, .int 0, .int 0])), (q1, .inl (cA 0, 4, .inl (fun _ => 0))), (q2, .inl (cA 0, 6, .inl (fun _ => 0))), (q3, .inl (cA 0, 8, .inl (fun _ => 0))), (q4, .inl (cA 0, 8, .inl (fun _ => 0))), (q5, .inl (cA 0, 8, .inl (fun _ => 0))), (q6, .inl (cA 0, 8, .inl (fun _ => 0))), (q7, .inl (cA 0, 8, .inl (fun _ => 0))), (q8, .inl (cA 0, 8, .inl (fun _ => 0)))] := hD
  refine lv_aload_n hx hb dX5_init_72 rfl (lv_at hl 0 rfl) ?_
  refine lv_iconst (v := 0) hx hb dX5_init_73 (by decide) ?_
  refine va_put (ci := 5) (v := .int 0) (ty := tyX5 9) (C := RX5) (T := TX5) (N := 11) hx hb htb in_ws5 tyX5 tyX5_ok nmX5 hown hK hP hD hS 0 rfl rfl 9 (by decide) (htb _ fwRX5_40) (fun _ h => h) rfl (tyX5_ok 9 (by decide)) rfl rfl (Nat.le_of_ble_eq_true rfl) dX5_init_74 (fun H locs hP hD hS => ?_)
  have hP : va_P D vwCl [(h0, .inr (5, [.ref q1, .ref q2, .ref q3, .ref q4, .ref q5, .ref q6, .ref q7, .ref q8, .int 0, .int 0, .int 0])), (q1, .inl (cA 0, 4, .inl (fun _ => 0))), (q2, .inl (cA 0, 6, .inl (fun _ => 0))), (q3, .inl (cA 0, 8, .inl (fun _ => 0))), (q4, .inl (cA 0, 8, .inl (fun _ => 0))), (q5, .inl (cA 0, 8, .inl (fun _ => 0))), (q6, .inl (cA 0, 8, .inl (fun _ => 0))), (q7, .inl (cA 0, 8, .inl (fun _ => 0))), (q8, .inl (cA 0, 8, .inl (fun _ => 0)))] H := hP
  have hD : va_D A [(h0, .inr (5, [.ref q1, .ref q2, .ref q3, .ref q4, .ref q5, .ref q6, .ref q7, .ref q8, .int 0, .int 0, .int 0])), (q1, .inl (cA 0, 4, .inl (fun _ => 0))), (q2, .inl (cA 0, 6, .inl (fun _ => 0))), (q3, .inl (cA 0, 8, .inl (fun _ => 0))), (q4, .inl (cA 0, 8, .inl (fun _ => 0))), (q5, .inl (cA 0, 8, .inl (fun _ => 0))), (q6, .inl (cA 0, 8, .inl (fun _ => 0))), (q7, .inl (cA 0, 8, .inl (fun _ => 0))), (q8, .inl (cA 0, 8, .inl (fun _ => 0)))] := hD
  refine lv_aload_n hx hb dX5_init_77 rfl (lv_at hl 0 rfl) ?_
  refine lv_iconst (v := 1) hx hb dX5_init_78 (by decide) ?_
  refine va_put (ci := 5) (v := .int 1) (ty := tyX5 10) (C := RX5) (T := TX5) (N := 11) hx hb htb in_ws5 tyX5 tyX5_ok nmX5 hown hK hP hD hS 0 rfl rfl 10 (by decide) (htb _ fwRX5_43) (fun _ h => h) rfl (tyX5_ok 10 (by decide)) rfl rfl (Nat.le_of_ble_eq_true rfl) dX5_init_79 (fun H locs hP hD hS => ?_)
  have hP : va_P D vwCl [(h0, .inr (5, [.ref q1, .ref q2, .ref q3, .ref q4, .ref q5, .ref q6, .ref q7, .ref q8, .int 0, .int 0, .int 1])), (q1, .inl (cA 0, 4, .inl (fun _ => 0))), (q2, .inl (cA 0, 6, .inl (fun _ => 0))), (q3, .inl (cA 0, 8, .inl (fun _ => 0))), (q4, .inl (cA 0, 8, .inl (fun _ => 0))), (q5, .inl (cA 0, 8, .inl (fun _ => 0))), (q6, .inl (cA 0, 8, .inl (fun _ => 0))), (q7, .inl (cA 0, 8, .inl (fun _ => 0))), (q8, .inl (cA 0, 8, .inl (fun _ => 0)))] H := hP
  have hD : va_D A [(h0, .inr (5, [.ref q1, .ref q2, .ref q3, .ref q4, .ref q5, .ref q6, .ref q7, .ref q8, .int 0, .int 0, .int 1])), (q1, .inl (cA 0, 4, .inl (fun _ => 0))), (q2, .inl (cA 0, 6, .inl (fun _ => 0))), (q3, .inl (cA 0, 8, .inl (fun _ => 0))), (q4, .inl (cA 0, 8, .inl (fun _ => 0))), (q5, .inl (cA 0, 8, .inl (fun _ => 0))), (q6, .inl (cA 0, 8, .inl (fun _ => 0))), (q7, .inl (cA 0, 8, .inl (fun _ => 0))), (q8, .inl (cA 0, 8, .inl (fun _ => 0)))] := hD
  refine lv_aload_n hx hb dX5_init_82 rfl (lv_at hl 0 rfl) ?_
  refine qg_callV (H0 := s.heap) (M' := mX5_startAnew) (b := h0) (wc := [(h0, .inr (5, [.ref q1, .ref q2, .ref q3, .ref q4, .ref q5, .ref q6, .ref q7, .ref q8, .int 0, .int 0, .int 1])), (q1, .inl (cA 0, 4, .inl (fun _ => 0))), (q2, .inl (cA 0, 6, .inl (fun _ => 0)))]) (wr := [(q3, .inl (cA 0, 8, .inl (fun _ => 0))), (q4, .inl (cA 0, 8, .inl (fun _ => 0))), (q5, .inl (cA 0, 8, .inl (fun _ => 0))), (q6, .inl (cA 0, 8, .inl (fun _ => 0))), (q7, .inl (cA 0, 8, .inl (fun _ => 0))), (q8, .inl (cA 0, 8, .inl (fun _ => 0)))]) (rest := []) hx hb hml hl.1 hown htb hK hRO hAO hA hP hD hS (iX5_startAnew h0 q1 q2 q3 q4 q5 q6 q7 q8 0 0 1 (fun _ => 0) (fun _ => 0)) mlRX5_46 mi_X5_startAnew mn_X5_startAnew kX5_startAnew rfl ⟨by decide +kernel, by decide +kernel, by decide +kernel⟩ ⟨⟨Nat.le_of_ble_eq_true rfl, Nat.le_of_ble_eq_true rfl⟩, Nat.le_of_ble_eq_true rfl, Nat.le_of_ble_eq_true rfl⟩ ms_X5_startAnew (kb := 0) rfl rfl [0, 1, 2] [3, 4, 5, 6, 7, 8] rfl rfl (by decide) (by decide) (by decide) (Nat.le_of_ble_eq_true rfl) dX5_init_83 (fun v5 H locs hu8 hP hD hS => ?_)
  have hP : va_P D vwCl [(q3, .inl (cA 0, 8, .inl (fun _ => 0))), (q4, .inl (cA 0, 8, .inl (fun _ => 0))), (q5, .inl (cA 0, 8, .inl (fun _ => 0))), (q6, .inl (cA 0, 8, .inl (fun _ => 0))), (q7, .inl (cA 0, 8, .inl (fun _ => 0))), (q8, .inl (cA 0, 8, .inl (fun _ => 0))), (h0, .inr (5, [.ref q1, .ref q2, .ref q3, .ref q4, .ref q5, .ref q6, .ref q7, .ref q8, .int 0, .int 0, .int 1])), (q1, .inl (cA 0, 4, .inl v5.1)), (q2, .inl (cA 0, 6, .inl v5.2))] H := hP
  have hD : va_D A [(q3, .inl (cA 0, 8, .inl (fun _ => 0))), (q4, .inl (cA 0, 8, .inl (fun _ => 0))), (q5, .inl (cA 0, 8, .inl (fun _ => 0))), (q6, .inl (cA 0, 8, .inl (fun _ => 0))), (q7, .inl (cA 0, 8, .inl (fun _ => 0))), (q8, .inl (cA 0, 8, .inl (fun _ => 0))), (h0, .inr (5, [.ref q1, .ref q2, .ref q3, .ref q4, .ref q5, .ref q6, .ref q7, .ref q8, .int 0, .int 0, .int 1])), (q1, .inl (cA 0, 4, .inl v5.1)), (q2, .inl (cA 0, 6, .inl v5.2))] := hD
  refine W.widen (k := 8) (n := 58) (Nat.le_of_ble_eq_true rfl) (Nat.le_of_ble_eq_true rfl) ?_
  exact ret 86 ls H locs ((fun k => ([q1, q2, q3, q4, q5, q6, q7, q8] : List Nat).getD k 0), v5.1, v5.2) dX5_init_86 hu8 (hP.sub [6, 7, 8, 0, 1, 2, 3, 4, 5] rfl) (hD.sub [6, 7, 8, 0, 1, 2, 3, 4, 5] (by decide) rfl) hS
set_option maxHeartbeats 4000000 in
set_option maxRecDepth 20000 in
theorem iX7_begins {sc : pg_Sc} {ad : Nat → Nat} {D : va_G} {cA : Nat → ClassId} (r : Nat) (f0 : Nat → Int32) : qg_C sc mX7_begins 1 0 0 [.ref r] ad D cA [(r, .inl (cA 0, 53, .inl f0))] (fun u : Nat → Int32 => ∀ j, j < 53 → u j = bgF 5 j) (fun u => [(r, .inl (cA 0, 53, .inl u))]) := by
  refine qg_C.of rfl (Nat.le_of_ble_eq_true rfl) rfl rfl ?_
  intro p l e s m args below meth c A Z ls hF hP hD hl ret
  obtain ⟨hx, hb, hml, hown, htb, hK, hA, hRO, hAO, hin⟩ := hF
  have hS : va_S A s.heap s.heap [] := va_S.rf
  have hl : lv_has ls 2 [(0, .ref r)] := hl
  have lp2 : ∀ (n i : Nat) (f : Nat → Int32) (H : Heap) (locs : List Loc) (ls : Array Slot), i + n = 5 → (∀ j, j < 53 → f j = bgF i j) → va_P D vwCl [(r, .inl (cA 0, 53, .inl f))] H → va_D A [(r, .inl (cA 0, 53, .inl f))] → va_S A s.heap H locs → lv_has ls 2 [(1, .int (nI i)), (0, .ref r)] → W p l e (qg_rm 1 0 0) s m args below meth c H locs 0 0 Z (F0 m 37 ls []) := by
    intro n
    induction n with
    | zero =>
      intro i f H locs ls hi hf hP hD hS hl
      obtain rfl : i = 5 := by omega
      refine lv_iload_n hx hb dX7_begins_37 rfl (lv_at hl 0 rfl) ?_
      refine lv_iconst (v := 5) hx hb dX7_begins_38 (by decide) ?_
      refine lv_icmp_ge (tgt := 56) hx hb dX7_begins_39 (by decide) (fun _ => ?_) (fun hh => absurd (by decide) hh)
      exact ret 56 ls H locs f dX7_begins_56 hf hP hD hS
    | succ n ih =>
      intro i f H locs ls hi hf hP hD hS hl
      have h5 : i < 5 := by omega
      refine lv_iload_n hx hb dX7_begins_37 rfl (lv_at hl 0 rfl) ?_
      refine lv_iconst (v := 5) hx hb dX7_begins_38 (by decide) ?_
      refine lv_icmp_ge (tgt := 56) hx hb dX7_begins_39 (by decide) (fun hh => absurd hh (nI_ge (b := 5) h5 (by decide))) (fun _ => ?_)
      refine lv_aload_n hx hb dX7_begins_42 rfl (lv_at hl 1 rfl) ?_
      refine lv_bipush (v := 7) hx hb dX7_begins_43 (by decide) ?_
      refine lv_iload_n hx hb dX7_begins_45 rfl (lv_at hl 0 rfl) ?_
      refine lv_iadd hx hb dX7_begins_46 ?_
      refine lv_bipush (v := 30) hx hb dX7_begins_47 (by decide) ?_
      rw [show (7 : Int32) + nI i = nI (7 + i) by rw [show (7 : Int32) = nI 7 from rfl, nI_add]]
      refine va_iast (x := 30) (i := nI (7 + i)) hx hb hK hP hD hS 0 0 rfl rfl (vp_in_nI (by omega) (by decide)) dX7_begins_49 (fun H locs hP hD hS => ?_)
      rw [nI_clamp (show 7 + i < 2 ^ 31 by omega)] at hP hD
      refine lv_iinc (v := nI (i + 1)) (k := 0) (lv' := [(1, .int (nI (i + 1))), (0, .ref r)]) hx hb dX7_begins_50 hl rfl (nI_succ i).symm (by decide) rfl (fun ls hl => ?_)
      refine lv_goto (tgt := 37) hx hb dX7_begins_53 (by decide) ?_
      refine ih (i + 1) (upd f (7 + i) 30) H locs ls (by omega) (fun j hj => ?_) hP hD hS hl
      rw [bg_s i j h5]
      unfold upd
      by_cases e : j = 7 + i
      · rw [if_pos e, if_pos e]
      · rw [if_neg e, if_neg e]; exact hf j hj
  have at18 : ∀ (f : Nat → Int32) (H : Heap) (locs : List Loc) (ls : Array Slot), (∀ j, j < 53 → f j = 0) → va_P D vwCl [(r, .inl (cA 0, 53, .inl f))] H → va_D A [(r, .inl (cA 0, 53, .inl f))] → va_S A s.heap H locs → lv_has ls 2 [(1, .int (nI 53)), (0, .ref r)] → W p l e (qg_rm 1 0 0) s m args below meth c H locs 0 0 Z (F0 m 18 ls []) := by
    intro f H locs ls hf hP hD hS hl
    refine lv_aload_n hx hb dX7_begins_18 rfl (lv_at hl 1 rfl) ?_
    refine lv_iconst (v := 0) hx hb dX7_begins_19 (by decide) ?_
    refine lv_iconst (v := 4) hx hb dX7_begins_20 (by decide) ?_
    refine va_iast (x := 4) (i := 0) hx hb hK hP hD hS 0 0 rfl rfl (by unfold vp_in; decide) dX7_begins_21 (fun H locs hP hD hS => ?_)
    have hP : va_P D vwCl [(r, .inl (cA 0, 53, .inl (upd f ((0 : Int32).toNatClampNeg) 4)))] H := hP
    have hD : va_D A [(r, .inl (cA 0, 53, .inl (upd f ((0 : Int32).toNatClampNeg) 4)))] := hD
    refine lv_aload_n hx hb dX7_begins_22 rfl (lv_at hl 1 rfl) ?_
    refine lv_iconst (v := 1) hx hb dX7_begins_23 (by decide) ?_
    refine lv_iconst (v := 1) hx hb dX7_begins_24 (by decide) ?_
    refine va_iast (x := 1) (i := 1) hx hb hK hP hD hS 0 0 rfl rfl (by unfold vp_in; decide) dX7_begins_25 (fun H locs hP hD hS => ?_)
    have hP : va_P D vwCl [(r, .inl (cA 0, 53, .inl (upd (upd f ((0 : Int32).toNatClampNeg) 4) ((1 : Int32).toNatClampNeg) 1)))] H := hP
    have hD : va_D A [(r, .inl (cA 0, 53, .inl (upd (upd f ((0 : Int32).toNatClampNeg) 4) ((1 : Int32).toNatClampNeg) 1)))] := hD
    refine lv_aload_n hx hb dX7_begins_26 rfl (lv_at hl 1 rfl) ?_
    refine lv_iconst (v := 2) hx hb dX7_begins_27 (by decide) ?_
    refine lv_iconst (v := 2) hx hb dX7_begins_28 (by decide) ?_
    refine va_iast (x := 2) (i := 2) hx hb hK hP hD hS 0 0 rfl rfl (by unfold vp_in; decide) dX7_begins_29 (fun H locs hP hD hS => ?_)
    have hP : va_P D vwCl [(r, .inl (cA 0, 53, .inl (upd (upd (upd f ((0 : Int32).toNatClampNeg) 4) ((1 : Int32).toNatClampNeg) 1) ((2 : Int32).toNatClampNeg) 2)))] H := hP
    have hD : va_D A [(r, .inl (cA 0, 53, .inl (upd (upd (upd f ((0 : Int32).toNatClampNeg) 4) ((1 : Int32).toNatClampNeg) 1) ((2 : Int32).toNatClampNeg) 2)))] := hD
    refine lv_aload_n hx hb dX7_begins_30 rfl (lv_at hl 1 rfl) ?_
    refine lv_iconst (v := 3) hx hb dX7_begins_31 (by decide) ?_
    refine lv_bipush (v := 20) hx hb dX7_begins_32 (by decide) ?_
    refine va_iast (x := 20) (i := 3) hx hb hK hP hD hS 0 0 rfl rfl (by unfold vp_in; decide) dX7_begins_34 (fun H locs hP hD hS => ?_)
    have hP : va_P D vwCl [(r, .inl (cA 0, 53, .inl (upd (upd (upd (upd f ((0 : Int32).toNatClampNeg) 4) ((1 : Int32).toNatClampNeg) 1) ((2 : Int32).toNatClampNeg) 2) ((3 : Int32).toNatClampNeg) 20)))] H := hP
    have hD : va_D A [(r, .inl (cA 0, 53, .inl (upd (upd (upd (upd f ((0 : Int32).toNatClampNeg) 4) ((1 : Int32).toNatClampNeg) 1) ((2 : Int32).toNatClampNeg) 2) ((3 : Int32).toNatClampNeg) 20)))] := hD
    refine lv_iconst (v := 0) hx hb dX7_begins_35 (by decide) ?_
    refine lv_istore_n (lv' := [(1, .int 0), (0, .ref r)]) hx hb dX7_begins_36 rfl hl (by decide) rfl (fun ls hl => ?_)
    refine lp2 5 0 _ H locs ls (by omega) (fun j hj => ?_) hP hD hS hl
    exact bg_0 j hf hj
  have lp1 : ∀ (n i : Nat) (f : Nat → Int32) (H : Heap) (locs : List Loc) (ls : Array Slot), i + n = 53 → (∀ j, j < i → f j = 0) → va_P D vwCl [(r, .inl (cA 0, 53, .inl f))] H → va_D A [(r, .inl (cA 0, 53, .inl f))] → va_S A s.heap H locs → lv_has ls 2 [(1, .int (nI i)), (0, .ref r)] → W p l e (qg_rm 1 0 0) s m args below meth c H locs 0 0 Z (F0 m 2 ls []) := by
    intro n
    induction n with
    | zero =>
      intro i f H locs ls hi hf hP hD hS hl
      obtain rfl : i = 53 := by omega
      refine lv_iload_n hx hb dX7_begins_2 rfl (lv_at hl 0 rfl) ?_
      refine lv_bipush (v := 53) hx hb dX7_begins_3 (by decide) ?_
      refine lv_icmp_ge (tgt := 18) hx hb dX7_begins_5 (by decide) (fun _ => ?_) (fun hh => absurd (by decide) hh)
      exact at18 f H locs ls hf hP hD hS hl
    | succ n ih =>
      intro i f H locs ls hi hf hP hD hS hl
      have h5 : i < 53 := by omega
      refine lv_iload_n hx hb dX7_begins_2 rfl (lv_at hl 0 rfl) ?_
      refine lv_bipush (v := 53) hx hb dX7_begins_3 (by decide) ?_
      refine lv_icmp_ge (tgt := 18) hx hb dX7_begins_5 (by decide) (fun hh => absurd hh (nI_ge (b := 53) h5 (by decide))) (fun _ => ?_)
      refine lv_aload_n hx hb dX7_begins_8 rfl (lv_at hl 1 rfl) ?_
      refine lv_iload_n hx hb dX7_begins_9 rfl (lv_at hl 0 rfl) ?_
      refine lv_iconst (v := 0) hx hb dX7_begins_10 (by decide) ?_
      refine va_iast (x := 0) (i := nI i) hx hb hK hP hD hS 0 0 rfl rfl (vp_in_nI h5 (by decide)) dX7_begins_11 (fun H locs hP hD hS => ?_)
      rw [nI_clamp (show i < 2 ^ 31 by omega)] at hP hD
      refine lv_iinc (v := nI (i + 1)) (k := 0) (lv' := [(1, .int (nI (i + 1))), (0, .ref r)]) hx hb dX7_begins_12 hl rfl (nI_succ i).symm (by decide) rfl (fun ls hl => ?_)
      refine lv_goto (tgt := 2) hx hb dX7_begins_15 (by decide) ?_
      refine ih (i + 1) (upd f i 0) H locs ls (by omega) (fun j hj => ?_) hP hD hS hl
      unfold upd
      by_cases e : j = i
      · rw [if_pos e]
      · rw [if_neg e]; exact hf j (by omega)
  refine lv_iconst (v := 0) hx hb dX7_begins_0 (by decide) ?_
  refine lv_istore_n (lv' := [(1, .int 0), (0, .ref r)]) hx hb dX7_begins_1 rfl hl (by decide) rfl (fun ls hl => ?_)
  exact lp1 53 0 f0 s.heap [] ls (by omega) (fun j hj => absurd hj (by omega)) hP hD hS hl
