theorem in_ws0 : ∀ w ∈ u_ws RX0 TX0 6, w ∈ pg_tb := by decide +kernel
theorem in_ws1 : ∀ w ∈ u_ws RX1 TX1 2, w ∈ pg_tb := by decide +kernel
theorem in_ws2 : ∀ w ∈ u_ws RX2 TX2 3, w ∈ pg_tb := by decide +kernel
theorem in_ws3 : ∀ w ∈ u_ws RX3 TX3 4, w ∈ pg_tb := by decide +kernel
theorem in_ws4 : ∀ w ∈ u_ws RX4 TX4 7, w ∈ pg_tb := by decide +kernel
theorem in_ws5 : ∀ w ∈ u_ws RX5 TX5 11, w ∈ pg_tb := by decide +kernel
theorem in_ws6 : ∀ w ∈ u_ws RX6 TX6 10, w ∈ pg_tb := by decide +kernel
theorem in_ws7 : ∀ w ∈ u_ws RX7 TX7 29, w ∈ pg_tb := by decide +kernel
theorem flRX5_9 : pg_FL RX5 9 5 0 := ⟨(RX5, TX5, 11), rfl, by decide, in_t1 (List.mem_of_getElem? (i := 36) rfl) rfl, in_ws5, ⟨tyX5, tyX5_ok⟩, nmX5⟩
theorem flRX6_104 : pg_FL RX6 104 5 0 := ⟨(RX5, TX5, 11), rfl, by decide, in_t1 (List.mem_of_getElem? (i := 37) rfl) rfl, in_ws5, ⟨tyX5, tyX5_ok⟩, nmX5⟩
theorem flRX4_78 : pg_FL RX4 78 5 0 := ⟨(RX5, TX5, 11), rfl, by decide, in_t1 (List.mem_of_getElem? (i := 38) rfl) rfl, in_ws5, ⟨tyX5, tyX5_ok⟩, nmX5⟩
theorem flRX5_15 : pg_FL RX5 15 5 1 := ⟨(RX5, TX5, 11), rfl, by decide, in_t1 (List.mem_of_getElem? (i := 39) rfl) rfl, in_ws5, ⟨tyX5, tyX5_ok⟩, nmX5⟩
theorem flRX4_71 : pg_FL RX4 71 5 1 := ⟨(RX5, TX5, 11), rfl, by decide, in_t1 (List.mem_of_getElem? (i := 40) rfl) rfl, in_ws5, ⟨tyX5, tyX5_ok⟩, nmX5⟩
theorem flRX6_154 : pg_FL RX6 154 5 1 := ⟨(RX5, TX5, 11), rfl, by decide, in_t1 (List.mem_of_getElem? (i := 41) rfl) rfl, in_ws5, ⟨tyX5, tyX5_ok⟩, nmX5⟩
theorem flRX5_18 : pg_FL RX5 18 5 2 := ⟨(RX5, TX5, 11), rfl, by decide, in_t1 (List.mem_of_getElem? (i := 42) rfl) rfl, in_ws5, ⟨tyX5, tyX5_ok⟩, nmX5⟩
theorem flRX6_115 : pg_FL RX6 115 5 2 := ⟨(RX5, TX5, 11), rfl, by decide, in_t1 (List.mem_of_getElem? (i := 43) rfl) rfl, in_ws5, ⟨tyX5, tyX5_ok⟩, nmX5⟩
theorem flRX5_21 : pg_FL RX5 21 5 3 := ⟨(RX5, TX5, 11), rfl, by decide, in_t1 (List.mem_of_getElem? (i := 44) rfl) rfl, in_ws5, ⟨tyX5, tyX5_ok⟩, nmX5⟩
theorem flRX6_118 : pg_FL RX6 118 5 3 := ⟨(RX5, TX5, 11), rfl, by decide, in_t1 (List.mem_of_getElem? (i := 45) rfl) rfl, in_ws5, ⟨tyX5, tyX5_ok⟩, nmX5⟩
theorem flRX5_24 : pg_FL RX5 24 5 4 := ⟨(RX5, TX5, 11), rfl, by decide, in_t1 (List.mem_of_getElem? (i := 46) rfl) rfl, in_ws5, ⟨tyX5, tyX5_ok⟩, nmX5⟩
theorem flRX6_121 : pg_FL RX6 121 5 4 := ⟨(RX5, TX5, 11), rfl, by decide, in_t1 (List.mem_of_getElem? (i := 47) rfl) rfl, in_ws5, ⟨tyX5, tyX5_ok⟩, nmX5⟩
theorem flRX5_27 : pg_FL RX5 27 5 5 := ⟨(RX5, TX5, 11), rfl, by decide, in_t1 (List.mem_of_getElem? (i := 48) rfl) rfl, in_ws5, ⟨tyX5, tyX5_ok⟩, nmX5⟩
theorem flRX6_124 : pg_FL RX6 124 5 5 := ⟨(RX5, TX5, 11), rfl, by decide, in_t1 (List.mem_of_getElem? (i := 49) rfl) rfl, in_ws5, ⟨tyX5, tyX5_ok⟩, nmX5⟩
theorem flRX5_30 : pg_FL RX5 30 5 6 := ⟨(RX5, TX5, 11), rfl, by decide, in_t1 (List.mem_of_getElem? (i := 50) rfl) rfl, in_ws5, ⟨tyX5, tyX5_ok⟩, nmX5⟩
theorem flRX6_127 : pg_FL RX6 127 5 6 := ⟨(RX5, TX5, 11), rfl, by decide, in_t1 (List.mem_of_getElem? (i := 51) rfl) rfl, in_ws5, ⟨tyX5, tyX5_ok⟩, nmX5⟩
theorem flRX5_33 : pg_FL RX5 33 5 7 := ⟨(RX5, TX5, 11), rfl, by decide, in_t1 (List.mem_of_getElem? (i := 52) rfl) rfl, in_ws5, ⟨tyX5, tyX5_ok⟩, nmX5⟩
theorem flRX5_36 : pg_FL RX5 36 5 8 := ⟨(RX5, TX5, 11), rfl, by decide, in_t1 (List.mem_of_getElem? (i := 53) rfl) rfl, in_ws5, ⟨tyX5, tyX5_ok⟩, nmX5⟩
theorem flRX6_94 : pg_FL RX6 94 5 8 := ⟨(RX5, TX5, 11), rfl, by decide, in_t1 (List.mem_of_getElem? (i := 54) rfl) rfl, in_ws5, ⟨tyX5, tyX5_ok⟩, nmX5⟩
theorem flRX4_51 : pg_FL RX4 51 5 8 := ⟨(RX5, TX5, 11), rfl, by decide, in_t1 (List.mem_of_getElem? (i := 55) rfl) rfl, in_ws5, ⟨tyX5, tyX5_ok⟩, nmX5⟩
theorem flRX5_40 : pg_FL RX5 40 5 9 := ⟨(RX5, TX5, 11), rfl, by decide, in_t1 (List.mem_of_getElem? (i := 56) rfl) rfl, in_ws5, ⟨tyX5, tyX5_ok⟩, nmX5⟩
theorem flRX6_174 : pg_FL RX6 174 5 9 := ⟨(RX5, TX5, 11), rfl, by decide, in_t1 (List.mem_of_getElem? (i := 57) rfl) rfl, in_ws5, ⟨tyX5, tyX5_ok⟩, nmX5⟩
theorem flRX5_43 : pg_FL RX5 43 5 10 := ⟨(RX5, TX5, 11), rfl, by decide, in_t1 (List.mem_of_getElem? (i := 58) rfl) rfl, in_ws5, ⟨tyX5, tyX5_ok⟩, nmX5⟩
theorem flRX6_76 : pg_FL RX6 76 5 10 := ⟨(RX5, TX5, 11), rfl, by decide, in_t1 (List.mem_of_getElem? (i := 59) rfl) rfl, in_ws5, ⟨tyX5, tyX5_ok⟩, nmX5⟩
theorem flRX4_11 : pg_FL RX4 11 4 0 := ⟨(RX4, TX4, 7), rfl, by decide, in_t1 (List.mem_of_getElem? (i := 90) rfl) rfl, in_ws4, ⟨tyX4, tyX4_ok⟩, nmX4⟩
theorem flRX4_15 : pg_FL RX4 15 4 1 := ⟨(RX4, TX4, 7), rfl, by decide, in_t1 (List.mem_of_getElem? (i := 91) rfl) rfl, in_ws4, ⟨tyX4, tyX4_ok⟩, nmX4⟩
theorem flRX6_84 : pg_FL RX6 84 4 1 := ⟨(RX4, TX4, 7), rfl, by decide, in_t1 (List.mem_of_getElem? (i := 92) rfl) rfl, in_ws4, ⟨tyX4, tyX4_ok⟩, nmX4⟩
theorem flRX4_19 : pg_FL RX4 19 4 2 := ⟨(RX4, TX4, 7), rfl, by decide, in_t1 (List.mem_of_getElem? (i := 93) rfl) rfl, in_ws4, ⟨tyX4, tyX4_ok⟩, nmX4⟩
theorem flRX4_22 : pg_FL RX4 22 4 3 := ⟨(RX4, TX4, 7), rfl, by decide, in_t1 (List.mem_of_getElem? (i := 94) rfl) rfl, in_ws4, ⟨tyX4, tyX4_ok⟩, nmX4⟩
theorem flRX4_25 : pg_FL RX4 25 4 4 := ⟨(RX4, TX4, 7), rfl, by decide, in_t1 (List.mem_of_getElem? (i := 95) rfl) rfl, in_ws4, ⟨tyX4, tyX4_ok⟩, nmX4⟩
theorem flRX4_28 : pg_FL RX4 28 4 5 := ⟨(RX4, TX4, 7), rfl, by decide, in_t1 (List.mem_of_getElem? (i := 96) rfl) rfl, in_ws4, ⟨tyX4, tyX4_ok⟩, nmX4⟩
theorem flRX4_31 : pg_FL RX4 31 4 6 := ⟨(RX4, TX4, 7), rfl, by decide, in_t1 (List.mem_of_getElem? (i := 97) rfl) rfl, in_ws4, ⟨tyX4, tyX4_ok⟩, nmX4⟩
theorem flRX1_11 : pg_FL RX1 11 1 0 := ⟨(RX1, TX1, 2), rfl, by decide, in_t1 (List.mem_of_getElem? (i := 122) rfl) rfl, in_ws1, ⟨tyX1, tyX1_ok⟩, nmX1⟩
theorem flRX6_239 : pg_FL RX6 239 1 0 := ⟨(RX1, TX1, 2), rfl, by decide, in_t1 (List.mem_of_getElem? (i := 123) rfl) rfl, in_ws1, ⟨tyX1, tyX1_ok⟩, nmX1⟩
theorem flRX1_14 : pg_FL RX1 14 1 1 := ⟨(RX1, TX1, 2), rfl, by decide, in_t1 (List.mem_of_getElem? (i := 124) rfl) rfl, in_ws1, ⟨tyX1, tyX1_ok⟩, nmX1⟩
theorem flRX6_91 : pg_FL RX6 91 1 1 := ⟨(RX1, TX1, 2), rfl, by decide, in_t1 (List.mem_of_getElem? (i := 125) rfl) rfl, in_ws1, ⟨tyX1, tyX1_ok⟩, nmX1⟩
theorem flRX0_11 : pg_FL RX0 11 0 0 := ⟨(RX0, TX0, 6), rfl, by decide, in_t1 (List.mem_of_getElem? (i := 137) rfl) rfl, in_ws0, ⟨tyX0, tyX0_ok⟩, nmX0⟩
theorem flRX6_305 : pg_FL RX6 305 0 0 := ⟨(RX0, TX0, 6), rfl, by decide, in_t1 (List.mem_of_getElem? (i := 138) rfl) rfl, in_ws0, ⟨tyX0, tyX0_ok⟩, nmX0⟩
theorem flRX0_15 : pg_FL RX0 15 0 1 := ⟨(RX0, TX0, 6), rfl, by decide, in_t1 (List.mem_of_getElem? (i := 139) rfl) rfl, in_ws0, ⟨tyX0, tyX0_ok⟩, nmX0⟩
theorem flRX6_296 : pg_FL RX6 296 0 1 := ⟨(RX0, TX0, 6), rfl, by decide, in_t1 (List.mem_of_getElem? (i := 140) rfl) rfl, in_ws0, ⟨tyX0, tyX0_ok⟩, nmX0⟩
theorem flRX0_19 : pg_FL RX0 19 0 2 := ⟨(RX0, TX0, 6), rfl, by decide, in_t1 (List.mem_of_getElem? (i := 141) rfl) rfl, in_ws0, ⟨tyX0, tyX0_ok⟩, nmX0⟩
theorem flRX0_22 : pg_FL RX0 22 0 3 := ⟨(RX0, TX0, 6), rfl, by decide, in_t1 (List.mem_of_getElem? (i := 142) rfl) rfl, in_ws0, ⟨tyX0, tyX0_ok⟩, nmX0⟩
theorem flRX0_25 : pg_FL RX0 25 0 4 := ⟨(RX0, TX0, 6), rfl, by decide, in_t1 (List.mem_of_getElem? (i := 143) rfl) rfl, in_ws0, ⟨tyX0, tyX0_ok⟩, nmX0⟩
theorem flRX0_28 : pg_FL RX0 28 0 5 := ⟨(RX0, TX0, 6), rfl, by decide, in_t1 (List.mem_of_getElem? (i := 144) rfl) rfl, in_ws0, ⟨tyX0, tyX0_ok⟩, nmX0⟩
theorem flRX2_9 : pg_FL RX2 9 2 0 := ⟨(RX2, TX2, 3), rfl, by decide, in_t1 (List.mem_of_getElem? (i := 167) rfl) rfl, in_ws2, ⟨tyX2, tyX2_ok⟩, nmX2⟩
theorem flRX6_248 : pg_FL RX6 248 2 0 := ⟨(RX2, TX2, 3), rfl, by decide, in_t1 (List.mem_of_getElem? (i := 168) rfl) rfl, in_ws2, ⟨tyX2, tyX2_ok⟩, nmX2⟩
theorem flRX2_15 : pg_FL RX2 15 2 1 := ⟨(RX2, TX2, 3), rfl, by decide, in_t1 (List.mem_of_getElem? (i := 169) rfl) rfl, in_ws2, ⟨tyX2, tyX2_ok⟩, nmX2⟩
theorem flRX3_24 : pg_FL RX3 24 2 1 := ⟨(RX2, TX2, 3), rfl, by decide, in_t1 (List.mem_of_getElem? (i := 170) rfl) rfl, in_ws2, ⟨tyX2, tyX2_ok⟩, nmX2⟩
theorem flRX6_209 : pg_FL RX6 209 2 1 := ⟨(RX2, TX2, 3), rfl, by decide, in_t1 (List.mem_of_getElem? (i := 171) rfl) rfl, in_ws2, ⟨tyX2, tyX2_ok⟩, nmX2⟩
theorem flRX2_19 : pg_FL RX2 19 2 2 := ⟨(RX2, TX2, 3), rfl, by decide, in_t1 (List.mem_of_getElem? (i := 172) rfl) rfl, in_ws2, ⟨tyX2, tyX2_ok⟩, nmX2⟩
theorem flRX3_27 : pg_FL RX3 27 2 2 := ⟨(RX2, TX2, 3), rfl, by decide, in_t1 (List.mem_of_getElem? (i := 173) rfl) rfl, in_ws2, ⟨tyX2, tyX2_ok⟩, nmX2⟩
theorem flRX6_247 : pg_FL RX6 247 2 2 := ⟨(RX2, TX2, 3), rfl, by decide, in_t1 (List.mem_of_getElem? (i := 174) rfl) rfl, in_ws2, ⟨tyX2, tyX2_ok⟩, nmX2⟩
theorem flRX3_9 : pg_FL RX3 9 3 0 := ⟨(RX3, TX3, 4), rfl, by decide, in_t1 (List.mem_of_getElem? (i := 187) rfl) rfl, in_ws3, ⟨tyX3, tyX3_ok⟩, nmX3⟩
theorem flRX6_280 : pg_FL RX6 280 3 0 := ⟨(RX3, TX3, 4), rfl, by decide, in_t1 (List.mem_of_getElem? (i := 188) rfl) rfl, in_ws3, ⟨tyX3, tyX3_ok⟩, nmX3⟩
theorem flRX3_15 : pg_FL RX3 15 3 1 := ⟨(RX3, TX3, 4), rfl, by decide, in_t1 (List.mem_of_getElem? (i := 189) rfl) rfl, in_ws3, ⟨tyX3, tyX3_ok⟩, nmX3⟩
theorem flRX6_290 : pg_FL RX6 290 3 1 := ⟨(RX3, TX3, 4), rfl, by decide, in_t1 (List.mem_of_getElem? (i := 190) rfl) rfl, in_ws3, ⟨tyX3, tyX3_ok⟩, nmX3⟩
theorem flRX3_18 : pg_FL RX3 18 3 2 := ⟨(RX3, TX3, 4), rfl, by decide, in_t1 (List.mem_of_getElem? (i := 191) rfl) rfl, in_ws3, ⟨tyX3, tyX3_ok⟩, nmX3⟩
theorem flRX6_283 : pg_FL RX6 283 3 2 := ⟨(RX3, TX3, 4), rfl, by decide, in_t1 (List.mem_of_getElem? (i := 192) rfl) rfl, in_ws3, ⟨tyX3, tyX3_ok⟩, nmX3⟩
theorem flRX3_21 : pg_FL RX3 21 3 3 := ⟨(RX3, TX3, 4), rfl, by decide, in_t1 (List.mem_of_getElem? (i := 193) rfl) rfl, in_ws3, ⟨tyX3, tyX3_ok⟩, nmX3⟩
theorem flRX6_284 : pg_FL RX6 284 3 3 := ⟨(RX3, TX3, 4), rfl, by decide, in_t1 (List.mem_of_getElem? (i := 194) rfl) rfl, in_ws3, ⟨tyX3, tyX3_ok⟩, nmX3⟩
theorem flRX6_10 : pg_FL RX6 10 6 0 := ⟨(RX6, TX6, 10), rfl, by decide, in_t1 (List.mem_of_getElem? (i := 204) rfl) rfl, in_ws6, ⟨tyX6, tyX6_ok⟩, nmX6⟩
theorem flRX6_16 : pg_FL RX6 16 6 1 := ⟨(RX6, TX6, 10), rfl, by decide, in_t1 (List.mem_of_getElem? (i := 205) rfl) rfl, in_ws6, ⟨tyX6, tyX6_ok⟩, nmX6⟩
theorem flRX6_19 : pg_FL RX6 19 6 2 := ⟨(RX6, TX6, 10), rfl, by decide, in_t1 (List.mem_of_getElem? (i := 206) rfl) rfl, in_ws6, ⟨tyX6, tyX6_ok⟩, nmX6⟩
theorem flRX6_22 : pg_FL RX6 22 6 3 := ⟨(RX6, TX6, 10), rfl, by decide, in_t1 (List.mem_of_getElem? (i := 207) rfl) rfl, in_ws6, ⟨tyX6, tyX6_ok⟩, nmX6⟩
theorem flRX6_29 : pg_FL RX6 29 6 4 := ⟨(RX6, TX6, 10), rfl, by decide, in_t1 (List.mem_of_getElem? (i := 208) rfl) rfl, in_ws6, ⟨tyX6, tyX6_ok⟩, nmX6⟩
theorem flRX6_36 : pg_FL RX6 36 6 5 := ⟨(RX6, TX6, 10), rfl, by decide, in_t1 (List.mem_of_getElem? (i := 209) rfl) rfl, in_ws6, ⟨tyX6, tyX6_ok⟩, nmX6⟩
theorem flRX6_43 : pg_FL RX6 43 6 6 := ⟨(RX6, TX6, 10), rfl, by decide, in_t1 (List.mem_of_getElem? (i := 210) rfl) rfl, in_ws6, ⟨tyX6, tyX6_ok⟩, nmX6⟩
theorem flRX6_49 : pg_FL RX6 49 6 7 := ⟨(RX6, TX6, 10), rfl, by decide, in_t1 (List.mem_of_getElem? (i := 211) rfl) rfl, in_ws6, ⟨tyX6, tyX6_ok⟩, nmX6⟩
theorem flRX6_55 : pg_FL RX6 55 6 8 := ⟨(RX6, TX6, 10), rfl, by decide, in_t1 (List.mem_of_getElem? (i := 212) rfl) rfl, in_ws6, ⟨tyX6, tyX6_ok⟩, nmX6⟩
theorem flRX6_59 : pg_FL RX6 59 6 9 := ⟨(RX6, TX6, 10), rfl, by decide, in_t1 (List.mem_of_getElem? (i := 213) rfl) rfl, in_ws6, ⟨tyX6, tyX6_ok⟩, nmX6⟩
theorem flRX7_7 : pg_FL RX7 7 7 0 := ⟨(RX7, TX7, 29), rfl, by decide, in_t4 (List.mem_of_getElem? (i := 66) rfl) rfl, in_ws7, ⟨tyX7, tyX7_ok⟩, nmX7⟩
theorem flRX7_13 : pg_FL RX7 13 7 1 := ⟨(RX7, TX7, 29), rfl, by decide, in_t4 (List.mem_of_getElem? (i := 67) rfl) rfl, in_ws7, ⟨tyX7, tyX7_ok⟩, nmX7⟩
theorem flRX7_16 : pg_FL RX7 16 7 2 := ⟨(RX7, TX7, 29), rfl, by decide, in_t4 (List.mem_of_getElem? (i := 68) rfl) rfl, in_ws7, ⟨tyX7, tyX7_ok⟩, nmX7⟩
theorem flRX7_19 : pg_FL RX7 19 7 3 := ⟨(RX7, TX7, 29), rfl, by decide, in_t4 (List.mem_of_getElem? (i := 69) rfl) rfl, in_ws7, ⟨tyX7, tyX7_ok⟩, nmX7⟩
theorem flRX7_379 : pg_FL RX7 379 7 4 := ⟨(RX7, TX7, 29), rfl, by decide, in_t4 (List.mem_of_getElem? (i := 70) rfl) rfl, in_ws7, ⟨tyX7, tyX7_ok⟩, nmX7⟩
theorem flRX7_22 : pg_FL RX7 22 7 5 := ⟨(RX7, TX7, 29), rfl, by decide, in_t4 (List.mem_of_getElem? (i := 71) rfl) rfl, in_ws7, ⟨tyX7, tyX7_ok⟩, nmX7⟩
theorem flRX7_64 : pg_FL RX7 64 7 6 := ⟨(RX7, TX7, 29), rfl, by decide, in_t4 (List.mem_of_getElem? (i := 72) rfl) rfl, in_ws7, ⟨tyX7, tyX7_ok⟩, nmX7⟩
theorem flRX7_86 : pg_FL RX7 86 7 7 := ⟨(RX7, TX7, 29), rfl, by decide, in_t4 (List.mem_of_getElem? (i := 73) rfl) rfl, in_ws7, ⟨tyX7, tyX7_ok⟩, nmX7⟩
theorem flRX7_73 : pg_FL RX7 73 7 8 := ⟨(RX7, TX7, 29), rfl, by decide, in_t4 (List.mem_of_getElem? (i := 74) rfl) rfl, in_ws7, ⟨tyX7, tyX7_ok⟩, nmX7⟩
theorem flRX7_70 : pg_FL RX7 70 7 9 := ⟨(RX7, TX7, 29), rfl, by decide, in_t4 (List.mem_of_getElem? (i := 75) rfl) rfl, in_ws7, ⟨tyX7, tyX7_ok⟩, nmX7⟩
theorem flRX7_89 : pg_FL RX7 89 7 10 := ⟨(RX7, TX7, 29), rfl, by decide, in_t4 (List.mem_of_getElem? (i := 76) rfl) rfl, in_ws7, ⟨tyX7, tyX7_ok⟩, nmX7⟩
theorem flRX7_93 : pg_FL RX7 93 7 11 := ⟨(RX7, TX7, 29), rfl, by decide, in_t4 (List.mem_of_getElem? (i := 77) rfl) rfl, in_ws7, ⟨tyX7, tyX7_ok⟩, nmX7⟩
theorem flRX7_138 : pg_FL RX7 138 7 12 := ⟨(RX7, TX7, 29), rfl, by decide, in_t4 (List.mem_of_getElem? (i := 78) rfl) rfl, in_ws7, ⟨tyX7, tyX7_ok⟩, nmX7⟩
theorem flRX7_25 : pg_FL RX7 25 7 13 := ⟨(RX7, TX7, 29), rfl, by decide, in_t4 (List.mem_of_getElem? (i := 79) rfl) rfl, in_ws7, ⟨tyX7, tyX7_ok⟩, nmX7⟩
theorem flRX7_28 : pg_FL RX7 28 7 14 := ⟨(RX7, TX7, 29), rfl, by decide, in_t4 (List.mem_of_getElem? (i := 80) rfl) rfl, in_ws7, ⟨tyX7, tyX7_ok⟩, nmX7⟩
theorem flRX7_31 : pg_FL RX7 31 7 15 := ⟨(RX7, TX7, 29), rfl, by decide, in_t4 (List.mem_of_getElem? (i := 81) rfl) rfl, in_ws7, ⟨tyX7, tyX7_ok⟩, nmX7⟩
theorem flRX7_197 : pg_FL RX7 197 7 16 := ⟨(RX7, TX7, 29), rfl, by decide, in_t4 (List.mem_of_getElem? (i := 82) rfl) rfl, in_ws7, ⟨tyX7, tyX7_ok⟩, nmX7⟩
theorem flRX7_34 : pg_FL RX7 34 7 17 := ⟨(RX7, TX7, 29), rfl, by decide, in_t4 (List.mem_of_getElem? (i := 83) rfl) rfl, in_ws7, ⟨tyX7, tyX7_ok⟩, nmX7⟩
theorem flRX7_37 : pg_FL RX7 37 7 18 := ⟨(RX7, TX7, 29), rfl, by decide, in_t4 (List.mem_of_getElem? (i := 84) rfl) rfl, in_ws7, ⟨tyX7, tyX7_ok⟩, nmX7⟩
theorem flRX7_40 : pg_FL RX7 40 7 19 := ⟨(RX7, TX7, 29), rfl, by decide, in_t4 (List.mem_of_getElem? (i := 85) rfl) rfl, in_ws7, ⟨tyX7, tyX7_ok⟩, nmX7⟩
theorem flRX7_44 : pg_FL RX7 44 7 20 := ⟨(RX7, TX7, 29), rfl, by decide, in_t4 (List.mem_of_getElem? (i := 86) rfl) rfl, in_ws7, ⟨tyX7, tyX7_ok⟩, nmX7⟩
theorem flRX7_47 : pg_FL RX7 47 7 21 := ⟨(RX7, TX7, 29), rfl, by decide, in_t4 (List.mem_of_getElem? (i := 87) rfl) rfl, in_ws7, ⟨tyX7, tyX7_ok⟩, nmX7⟩
theorem flRX7_50 : pg_FL RX7 50 7 22 := ⟨(RX7, TX7, 29), rfl, by decide, in_t4 (List.mem_of_getElem? (i := 88) rfl) rfl, in_ws7, ⟨tyX7, tyX7_ok⟩, nmX7⟩
theorem flRX7_343 : pg_FL RX7 343 7 23 := ⟨(RX7, TX7, 29), rfl, by decide, in_t4 (List.mem_of_getElem? (i := 89) rfl) rfl, in_ws7, ⟨tyX7, tyX7_ok⟩, nmX7⟩
theorem flRX7_337 : pg_FL RX7 337 7 24 := ⟨(RX7, TX7, 29), rfl, by decide, in_t4 (List.mem_of_getElem? (i := 90) rfl) rfl, in_ws7, ⟨tyX7, tyX7_ok⟩, nmX7⟩
theorem flRX7_352 : pg_FL RX7 352 7 25 := ⟨(RX7, TX7, 29), rfl, by decide, in_t4 (List.mem_of_getElem? (i := 91) rfl) rfl, in_ws7, ⟨tyX7, tyX7_ok⟩, nmX7⟩
theorem flRX7_53 : pg_FL RX7 53 7 26 := ⟨(RX7, TX7, 29), rfl, by decide, in_t4 (List.mem_of_getElem? (i := 92) rfl) rfl, in_ws7, ⟨tyX7, tyX7_ok⟩, nmX7⟩
theorem flRX7_331 : pg_FL RX7 331 7 27 := ⟨(RX7, TX7, 29), rfl, by decide, in_t4 (List.mem_of_getElem? (i := 93) rfl) rfl, in_ws7, ⟨tyX7, tyX7_ok⟩, nmX7⟩
theorem flRX7_358 : pg_FL RX7 358 7 28 := ⟨(RX7, TX7, 29), rfl, by decide, in_t4 (List.mem_of_getElem? (i := 94) rfl) rfl, in_ws7, ⟨tyX7, tyX7_ok⟩, nmX7⟩
theorem ft0_1 : pg_FT 0 1 .int := by
  intro r h
  cases h
  exact ⟨rfl, rfl⟩
theorem ft0_2 : pg_FT 0 2 .int := by
  intro r h
  cases h
  exact ⟨rfl, rfl⟩
theorem ft0_3 : pg_FT 0 3 .int := by
  intro r h
  cases h
  exact ⟨rfl, rfl⟩
theorem ft0_4 : pg_FT 0 4 .int := by
  intro r h
  cases h
  exact ⟨rfl, rfl⟩
theorem ft0_5 : pg_FT 0 5 .boolean := by
  intro r h
  cases h
  exact ⟨rfl, rfl⟩
theorem ft1_1 : pg_FT 1 1 .int := by
  intro r h
  cases h
  exact ⟨rfl, rfl⟩
theorem ft2_1 : pg_FT 2 1 .int := by
  intro r h
  cases h
  exact ⟨rfl, rfl⟩
theorem ft2_2 : pg_FT 2 2 .int := by
  intro r h
  cases h
  exact ⟨rfl, rfl⟩
theorem ft3_0 : pg_FT 3 0 .int := by
  intro r h
  cases h
  exact ⟨rfl, rfl⟩
theorem ft3_1 : pg_FT 3 1 .int := by
  intro r h
  cases h
  exact ⟨rfl, rfl⟩
theorem ft3_2 : pg_FT 3 2 .int := by
  intro r h
  cases h
  exact ⟨rfl, rfl⟩
theorem ft3_3 : pg_FT 3 3 .int := by
  intro r h
  cases h
  exact ⟨rfl, rfl⟩
theorem ft4_1 : pg_FT 4 1 .int := by
  intro r h
  cases h
  exact ⟨rfl, rfl⟩
theorem ft4_2 : pg_FT 4 2 .int := by
  intro r h
  cases h
  exact ⟨rfl, rfl⟩
theorem ft4_3 : pg_FT 4 3 .int := by
  intro r h
  cases h
  exact ⟨rfl, rfl⟩
theorem ft4_4 : pg_FT 4 4 .int := by
  intro r h
  cases h
  exact ⟨rfl, rfl⟩
theorem ft4_5 : pg_FT 4 5 .int := by
  intro r h
  cases h
  exact ⟨rfl, rfl⟩
theorem ft4_6 : pg_FT 4 6 .int := by
  intro r h
  cases h
  exact ⟨rfl, rfl⟩
theorem ft5_8 : pg_FT 5 8 .int := by
  intro r h
  cases h
  exact ⟨rfl, rfl⟩
theorem ft5_9 : pg_FT 5 9 .int := by
  intro r h
  cases h
  exact ⟨rfl, rfl⟩
theorem ft5_10 : pg_FT 5 10 .int := by
  intro r h
  cases h
  exact ⟨rfl, rfl⟩
theorem ft6_3 : pg_FT 6 3 .boolean := by
  intro r h
  cases h
  exact ⟨rfl, rfl⟩
theorem ft7_4 : pg_FT 7 4 .boolean := by
  intro r h
  cases h
  exact ⟨rfl, rfl⟩
theorem ft7_6 : pg_FT 7 6 .int := by
  intro r h
  cases h
  exact ⟨rfl, rfl⟩
theorem ft7_7 : pg_FT 7 7 .int := by
  intro r h
  cases h
  exact ⟨rfl, rfl⟩
theorem ft7_8 : pg_FT 7 8 .int := by
  intro r h
  cases h
  exact ⟨rfl, rfl⟩
theorem ft7_9 : pg_FT 7 9 .int := by
  intro r h
  cases h
  exact ⟨rfl, rfl⟩
theorem ft7_10 : pg_FT 7 10 .long := by
  intro r h
  cases h
  exact ⟨rfl, rfl⟩
theorem ft7_11 : pg_FT 7 11 .int := by
  intro r h
  cases h
  exact ⟨rfl, rfl⟩
theorem ft7_12 : pg_FT 7 12 .boolean := by
  intro r h
  cases h
  exact ⟨rfl, rfl⟩
theorem ft7_16 : pg_FT 7 16 .int := by
  intro r h
  cases h
  exact ⟨rfl, rfl⟩
theorem ft7_23 : pg_FT 7 23 .int := by
  intro r h
  cases h
  exact ⟨rfl, rfl⟩
theorem ft7_24 : pg_FT 7 24 .int := by
  intro r h
  cases h
  exact ⟨rfl, rfl⟩
theorem ft7_25 : pg_FT 7 25 .int := by
  intro r h
  cases h
  exact ⟨rfl, rfl⟩
theorem ft7_27 : pg_FT 7 27 .int := by
  intro r h
  cases h
  exact ⟨rfl, rfl⟩
theorem ft7_28 : pg_FT 7 28 .boolean := by
  intro r h
  cases h
  exact ⟨rfl, rfl⟩
theorem sfRJ0_38 : Cond.fieldLink RJ0 38 "java/lang/String" "COMPACT_STRINGS" "Z" ∈ pg_tb := in_t2 (List.mem_of_getElem? (i := 39) rfl) rfl
theorem sfRJ0_1053 : Cond.fieldLink RJ0 1053 "jdk/internal/util/Preconditions" "SIOOBE_FORMATTER" "Ljava/util/function/BiFunction;" ∈ pg_tb := in_t2 (List.mem_of_getElem? (i := 47) rfl) rfl
theorem sfRJ2_44 : Cond.fieldLink RJ2 44 "java/lang/StringUTF16" "$assertionsDisabled" "Z" ∈ pg_tb := in_t2 (List.mem_of_getElem? (i := 65) rfl) rfl
theorem sfRJ2_59 : Cond.fieldLink RJ2 59 "java/lang/StringUTF16" "HI_BYTE_SHIFT" "I" ∈ pg_tb := in_t2 (List.mem_of_getElem? (i := 67) rfl) rfl
theorem sfRJ2_63 : Cond.fieldLink RJ2 63 "java/lang/StringUTF16" "LO_BYTE_SHIFT" "I" ∈ pg_tb := in_t2 (List.mem_of_getElem? (i := 69) rfl) rfl
theorem sfRX6_101 : Cond.fieldLink RX6 101 "PicturePegs" "LAW_MOST" "[I" ∈ pg_tb := in_t2 (List.mem_of_getElem? (i := 126) rfl) rfl
theorem sfRX6_311 : Cond.fieldLink RX6 311 "PicturePegs" "KIND_ABOVE" "[I" ∈ pg_tb := in_t4 (List.mem_of_getElem? (i := 5) rfl) rfl
theorem sfRX0_36 : Cond.fieldLink RX0 36 "PicturePegs$Acts" "BODY_OF" "[I" ∈ pg_tb := in_t4 (List.mem_of_getElem? (i := 23) rfl) rfl
theorem sfRJ0_15 : Cond.fieldLink RJ0 15 "java/lang/String" "coder" "B" ∈ pg_tb := in_t6 (List.mem_of_getElem? (i := 152) rfl) rfl
theorem sfRJ0_9 : Cond.fieldLink RJ0 9 "java/lang/String" "value" "[B" ∈ pg_tb := in_t6 (List.mem_of_getElem? (i := 153) rfl) rfl
theorem ciRJ6_265 : Cond.constant RJ6 265 1431655765 ∈ pg_tb := in_t3 (List.mem_of_getElem? (i := 8) rfl) rfl
theorem ciRJ6_266 : Cond.constant RJ6 266 858993459 ∈ pg_tb := in_t3 (List.mem_of_getElem? (i := 9) rfl) rfl
theorem ciRJ6_267 : Cond.constant RJ6 267 252645135 ∈ pg_tb := in_t3 (List.mem_of_getElem? (i := 10) rfl) rfl
theorem ciRX5_88 : Cond.constant RX5 88 1103515245 ∈ pg_tb := in_t3 (List.mem_of_getElem? (i := 27) rfl) rfl
theorem ciRX7_257 : Cond.constant RX7 257 1103515245 ∈ pg_tb := in_t5 (List.mem_of_getElem? (i := 154) rfl) rfl
theorem clRX6_216 : Cond.constantLong RX6 216 (-1) ∈ pg_tb := in_t3 (List.mem_of_getElem? (i := 131) rfl) rfl
theorem clRX6_226 : Cond.constantLong RX6 226 (100) ∈ pg_tb := in_t3 (List.mem_of_getElem? (i := 138) rfl) rfl
theorem clRX7_68 : Cond.constantLong RX7 68 (255) ∈ pg_tb := in_t4 (List.mem_of_getElem? (i := 162) rfl) rfl
theorem clRX7_96 : Cond.constantLong RX7 96 (27) ∈ pg_tb := in_t4 (List.mem_of_getElem? (i := 181) rfl) rfl
theorem clRX7_98 : Cond.constantLong RX7 98 (96) ∈ pg_tb := in_t4 (List.mem_of_getElem? (i := 182) rfl) rfl
theorem clRX7_100 : Cond.constantLong RX7 100 (-1) ∈ pg_tb := in_t4 (List.mem_of_getElem? (i := 183) rfl) rfl
theorem clRX7_130 : Cond.constantLong RX7 130 (43347) ∈ pg_tb := in_t4 (List.mem_of_getElem? (i := 192) rfl) rfl
theorem clRX7_132 : Cond.constantLong RX7 132 (330573) ∈ pg_tb := in_t4 (List.mem_of_getElem? (i := 197) rfl) rfl
theorem clRX7_134 : Cond.constantLong RX7 134 (365647) ∈ pg_tb := in_t4 (List.mem_of_getElem? (i := 198) rfl) rfl
theorem clRX7_136 : Cond.constantLong RX7 136 (47328224) ∈ pg_tb := in_t4 (List.mem_of_getElem? (i := 199) rfl) rfl
theorem clRX7_118 : Cond.constantLong RX7 118 (94133) ∈ pg_tb := in_t4 (List.mem_of_getElem? (i := 204) rfl) rfl
theorem clRX7_120 : Cond.constantLong RX7 120 (92434) ∈ pg_tb := in_t4 (List.mem_of_getElem? (i := 205) rfl) rfl
theorem clRX7_122 : Cond.constantLong RX7 122 (318618) ∈ pg_tb := in_t4 (List.mem_of_getElem? (i := 206) rfl) rfl
theorem clRX7_124 : Cond.constantLong RX7 124 (223619) ∈ pg_tb := in_t4 (List.mem_of_getElem? (i := 207) rfl) rfl
theorem clRX7_126 : Cond.constantLong RX7 126 (172800126) ∈ pg_tb := in_t4 (List.mem_of_getElem? (i := 208) rfl) rfl
theorem clRX7_128 : Cond.constantLong RX7 128 (1300196) ∈ pg_tb := in_t4 (List.mem_of_getElem? (i := 209) rfl) rfl
theorem clRX7_102 : Cond.constantLong RX7 102 (8928318) ∈ pg_tb := in_t4 (List.mem_of_getElem? (i := 214) rfl) rfl
theorem clRX7_108 : Cond.constantLong RX7 108 (33861013) ∈ pg_tb := in_t4 (List.mem_of_getElem? (i := 215) rfl) rfl
theorem clRX7_110 : Cond.constantLong RX7 110 (1085880537) ∈ pg_tb := in_t4 (List.mem_of_getElem? (i := 216) rfl) rfl
theorem clRX7_112 : Cond.constantLong RX7 112 (82418) ∈ pg_tb := in_t4 (List.mem_of_getElem? (i := 217) rfl) rfl
theorem clRX7_114 : Cond.constantLong RX7 114 (1421140455) ∈ pg_tb := in_t4 (List.mem_of_getElem? (i := 218) rfl) rfl
theorem clRX7_116 : Cond.constantLong RX7 116 (410684) ∈ pg_tb := in_t4 (List.mem_of_getElem? (i := 219) rfl) rfl
theorem clRX7_152 : Cond.constantLong RX7 152 (47) ∈ pg_tb := in_t4 (List.mem_of_getElem? (i := 224) rfl) rfl
theorem clRX7_162 : Cond.constantLong RX7 162 (923) ∈ pg_tb := in_t4 (List.mem_of_getElem? (i := 233) rfl) rfl
theorem clRX7_167 : Cond.constantLong RX7 167 (5863) ∈ pg_tb := in_t4 (List.mem_of_getElem? (i := 238) rfl) rfl
theorem clRX7_188 : Cond.constantLong RX7 188 (332864551) ∈ pg_tb := in_t5 (List.mem_of_getElem? (i := 14) rfl) rfl
theorem clRX7_307 : Cond.constantLong RX7 307 (100) ∈ pg_tb := in_t6 (List.mem_of_getElem? (i := 20) rfl) rfl
theorem clRL_13 : Cond.constantLong RL 13 (4294967295) ∈ pg_tb := in_t6 (List.mem_of_getElem? (i := 151) rfl) rfl
theorem acRX5_52 : Cond.methodLink RX5 52 arraycopyName ∈ pg_tb := in_t2 (List.mem_of_getElem? (i := 116) rfl) rfl
theorem ac_nat : Cond.native arraycopyName ∈ pg_tb := in_t2 (List.mem_of_getElem? (i := 118) rfl) rfl
theorem ac_sta : Cond.static arraycopyName ∈ pg_tb := in_t2 (List.mem_of_getElem? (i := 117) rfl) rfl
theorem ac_ini : Cond.initialized "java/lang/System" ∈ pg_tb := in_t1 (List.mem_of_getElem? (i := 13) rfl) rfl
